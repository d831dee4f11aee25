theorem dL_law_149 : decode cL_law 149 = .ok (.iload_n 2, 1) := by decide +kernel
theorem dL_law_150 : decode cL_law 150 = .ok (.iadd, 1) := by decide +kernel
theorem dL_law_151 : decode cL_law 151 = .ok (.invokestatic 12, 3) := by decide +kernel
theorem dL_law_154 : decode cL_law 154 = .ok (.bipush 6, 2) := by decide +kernel
theorem dL_law_156 : decode cL_law 156 = .ok (.ishr, 1) := by decide +kernel
theorem dL_law_157 : decode cL_law 157 = .ok (.iconst 3, 1) := by decide +kernel
theorem dL_law_158 : decode cL_law 158 = .ok (.invokestatic 18, 3) := by decide +kernel
theorem dL_law_161 : decode cL_law 161 = .ok (.ifCond .le 7, 3) := by decide +kernel
theorem dL_law_164 : decode cL_law 164 = .ok (.iconst 1, 1) := by decide +kernel
theorem dL_law_165 : decode cL_law 165 = .ok (.goto 4, 3) := by decide +kernel
theorem dL_law_168 : decode cL_law 168 = .ok (.iconst 0, 1) := by decide +kernel
theorem dL_law_169 : decode cL_law 169 = .ok (.invokevirtual 34, 3) := by decide +kernel
theorem dL_law_172 : decode cL_law 172 = .ok (.pop, 1) := by decide +kernel
theorem dL_law_173 : decode cL_law 173 = .ok (.iinc 3 (-1), 3) := by decide +kernel
theorem dL_law_176 : decode cL_law 176 = .ok (.goto (-51), 3) := by decide +kernel
theorem dL_law_179 : decode cL_law 179 = .ok (.iinc 2 1, 3) := by decide +kernel
theorem dL_law_182 : decode cL_law 182 = .ok (.goto (-111), 3) := by decide +kernel
theorem dL_law_185 : decode cL_law 185 = .ok (.aload_n 1, 1) := by decide +kernel
theorem dL_law_186 : decode cL_law 186 = .ok (.invokevirtual 38, 3) := by decide +kernel
theorem dL_law_189 : decode cL_law 189 = .ok (.pop, 1) := by decide +kernel
theorem dL_law_190 : decode cL_law 190 = .ok (.iconst 0, 1) := by decide +kernel
theorem dL_law_191 : decode cL_law 191 = .ok (.istore_n 2, 1) := by decide +kernel
theorem dL_law_192 : decode cL_law 192 = .ok (.iload_n 2, 1) := by decide +kernel
theorem dL_law_193 : decode cL_law 193 = .ok (.bipush 50, 2) := by decide +kernel
theorem dL_law_195 : decode cL_law 195 = .ok (.if_icmp .ge 129, 3) := by decide +kernel
theorem dL_law_198 : decode cL_law 198 = .ok (.aload_n 0, 1) := by decide +kernel
theorem dL_law_199 : decode cL_law 199 = .ok (.bipush 7, 2) := by decide +kernel
theorem dL_law_201 : decode cL_law 201 = .ok (.iload_n 2, 1) := by decide +kernel
theorem dL_law_202 : decode cL_law 202 = .ok (.bipush 22, 2) := by decide +kernel
theorem dL_law_204 : decode cL_law 204 = .ok (.irem, 1) := by decide +kernel
theorem dL_law_205 : decode cL_law 205 = .ok (.iadd, 1) := by decide +kernel
theorem dL_law_206 : decode cL_law 206 = .ok (.invokestatic 12, 3) := by decide +kernel
theorem dL_law_209 : decode cL_law 209 = .ok (.iload_n 2, 1) := by decide +kernel
theorem dL_law_210 : decode cL_law 210 = .ok (.bipush 22, 2) := by decide +kernel
theorem dL_law_212 : decode cL_law 212 = .ok (.idiv, 1) := by decide +kernel
theorem dL_law_213 : decode cL_law 213 = .ok (.bipush 8, 2) := by decide +kernel
theorem dL_law_215 : decode cL_law 215 = .ok (.imul, 1) := by decide +kernel
theorem dL_law_216 : decode cL_law 216 = .ok (.ishr, 1) := by decide +kernel
theorem dL_law_217 : decode cL_law 217 = .ok (.istore_n 3, 1) := by decide +kernel
theorem dL_law_218 : decode cL_law 218 = .ok (.aload_n 1, 1) := by decide +kernel
theorem dL_law_219 : decode cL_law 219 = .ok (.invokestatic 42, 3) := by decide +kernel
theorem dL_law_222 : decode cL_law 222 = .ok (.istore 4, 2) := by decide +kernel
theorem dL_law_224 : decode cL_law 224 = .ok (.iload_n 3, 1) := by decide +kernel
theorem dL_law_225 : decode cL_law 225 = .ok (.bipush 14, 2) := by decide +kernel
theorem dL_law_227 : decode cL_law 227 = .ok (.invokestatic 18, 3) := by decide +kernel
theorem dL_law_230 : decode cL_law 230 = .ok (.bipush 13, 2) := by decide +kernel
theorem dL_law_232 : decode cL_law 232 = .ok (.if_icmp .ne 7, 3) := by decide +kernel
theorem dL_law_235 : decode cL_law 235 = .ok (.iconst 1, 1) := by decide +kernel
theorem dL_law_236 : decode cL_law 236 = .ok (.goto 4, 3) := by decide +kernel
theorem dL_law_239 : decode cL_law 239 = .ok (.iconst 0, 1) := by decide +kernel
theorem dL_law_240 : decode cL_law 240 = .ok (.istore 5, 2) := by decide +kernel
theorem dL_law_242 : decode cL_law 242 = .ok (.aload_n 1, 1) := by decide +kernel
theorem dL_law_243 : decode cL_law 243 = .ok (.iload_n 3, 1) := by decide +kernel
theorem dL_law_244 : decode cL_law 244 = .ok (.invokestatic 46, 3) := by decide +kernel
theorem dL_law_247 : decode cL_law 247 = .ok (.ifCond .eq 17, 3) := by decide +kernel
theorem dL_law_250 : decode cL_law 250 = .ok (.iload 5, 2) := by decide +kernel
theorem dL_law_252 : decode cL_law 252 = .ok (.ifCond .ne 14, 3) := by decide +kernel
theorem dL_law_255 : decode cL_law 255 = .ok (.aload_n 1, 1) := by decide +kernel
theorem dL_law_256 : decode cL_law 256 = .ok (.invokestatic 42, 3) := by decide +kernel
theorem dL_law_259 : decode cL_law 259 = .ok (.iload 4, 2) := by decide +kernel
theorem dL_law_261 : decode cL_law 261 = .ok (.if_icmp .ge 5, 3) := by decide +kernel
theorem dL_law_264 : decode cL_law 264 = .ok (.iconst 0, 1) := by decide +kernel
theorem dL_law_265 : decode cL_law 265 = .ok (.ireturn, 1) := by decide +kernel
theorem dL_law_266 : decode cL_law 266 = .ok (.iload_n 2, 1) := by decide +kernel
theorem dL_law_267 : decode cL_law 267 = .ok (.bipush 8, 2) := by decide +kernel
theorem dL_law_269 : decode cL_law 269 = .ok (.irem, 1) := by decide +kernel
theorem dL_law_270 : decode cL_law 270 = .ok (.bipush 7, 2) := by decide +kernel
theorem dL_law_272 : decode cL_law 272 = .ok (.if_icmp .eq 6, 3) := by decide +kernel
theorem dL_law_275 : decode cL_law 275 = .ok (.goto 43, 3) := by decide +kernel
theorem dL_law_278 : decode cL_law 278 = .ok (.aload_n 1, 1) := by decide +kernel
theorem dL_law_279 : decode cL_law 279 = .ok (.invokevirtual 50, 3) := by decide +kernel
theorem dL_law_282 : decode cL_law 282 = .ok (.lstore 6, 2) := by decide +kernel
theorem dL_law_284 : decode cL_law 284 = .ok (.aload_n 1, 1) := by decide +kernel
theorem dL_law_285 : decode cL_law 285 = .ok (.invokestatic 54, 3) := by decide +kernel
theorem dL_law_288 : decode cL_law 288 = .ok (.ifCond .eq 28, 3) := by decide +kernel
theorem dL_law_291 : decode cL_law 291 = .ok (.aload_n 1, 1) := by decide +kernel
theorem dL_law_292 : decode cL_law 292 = .ok (.invokestatic 58, 3) := by decide +kernel
theorem dL_law_295 : decode cL_law 295 = .ok (.ifCond .eq 21, 3) := by decide +kernel
theorem dL_law_298 : decode cL_law 298 = .ok (.aload_n 1, 1) := by decide +kernel
theorem dL_law_299 : decode cL_law 299 = .ok (.iload_n 3, 1) := by decide +kernel
theorem dL_law_300 : decode cL_law 300 = .ok (.invokestatic 61, 3) := by decide +kernel
theorem dL_law_303 : decode cL_law 303 = .ok (.ifCond .eq 13, 3) := by decide +kernel
theorem dL_law_306 : decode cL_law 306 = .ok (.aload_n 1, 1) := by decide +kernel
theorem dL_law_307 : decode cL_law 307 = .ok (.invokevirtual 50, 3) := by decide +kernel
theorem dL_law_310 : decode cL_law 310 = .ok (.lload 6, 2) := by decide +kernel
theorem dL_law_312 : decode cL_law 312 = .ok (.lcmp, 1) := by decide +kernel
theorem dL_law_313 : decode cL_law 313 = .ok (.ifCond .eq 5, 3) := by decide +kernel
theorem dL_law_316 : decode cL_law 316 = .ok (.iconst 0, 1) := by decide +kernel
theorem dL_law_317 : decode cL_law 317 = .ok (.ireturn, 1) := by decide +kernel
theorem dL_law_318 : decode cL_law 318 = .ok (.iinc 2 1, 3) := by decide +kernel
theorem dL_law_321 : decode cL_law 321 = .ok (.goto (-129), 3) := by decide +kernel
theorem dL_law_324 : decode cL_law 324 = .ok (.iconst 1, 1) := by decide +kernel
theorem dL_law_325 : decode cL_law 325 = .ok (.ireturn, 1) := by decide +kernel
set_option maxRecDepth 20000 in
theorem ggL_done_X7_many : GoodIn wsL_done wsX7_many := goodIn_ca (goodIn_r _ [5, 6, 7, 8, 9, 4, 10, 11, 12, 13, 14, 15, 16, 17, 18, 19, 20, 21, 22, 23, 24, 25, 26, 27, 28, 29, 30, 31, 32, 33, 34, 35, 36, 37, 38, 39, 40, 41, 42, 43, 44, 45, 46, 47, 48, 49, 50, 51, 52, 53, 69, 70, 71, 72, 73, 74, 75, 76, 77, 78, 79, 80, 81, 82, 83, 84, 85, 86, 87, 88, 89, 90, 91, 92, 93, 94, 95, 96, 97, 98, 99, 100, 101, 102, 103, 104] (by decide +kernel) (by decide +kernel)) (goodIn_sub (fun _ h => List.mem_cons_of_mem _ (List.mem_append_left _ (List.mem_append_right _ h))) (by decide +kernel))
set_option maxRecDepth 20000 in
theorem gL_done_X7_many : GoodIn wsL_done (wsV RL 64 RX7 yX7_many wsX7_many) := goodIn_app (goodIn_of _ (by decide +kernel)) ggL_done_X7_many
set_option maxRecDepth 20000 in
theorem ggL_done_X7_ofPatch : GoodIn wsL_done wsX7_ofPatch := goodIn_ca (goodIn_ca (goodIn_r _ [57, 58, 59, 6, 7, 23, 24, 8, 9, 4, 10, 60, 61, 62, 63, 15, 64, 65, 66, 67, 68, 51, 52, 29, 53, 31, 69, 70, 71, 72, 73, 74, 75, 76, 98, 99, 100, 101, 77, 78, 79, 80, 81, 82, 83, 84, 85, 86, 102] (by decide +kernel) (by decide +kernel)) (goodIn_sub (fun _ h => List.mem_cons_of_mem _ (List.mem_append_right _ h)) (by decide +kernel))) (goodIn_sub (fun _ h => List.mem_cons_of_mem _ (List.mem_append_left _ (List.mem_append_right _ h))) (by decide +kernel))
set_option maxRecDepth 20000 in
theorem gL_done_X7_ofPatch : GoodIn wsL_done (wsV RL 67 RX7 yX7_ofPatch wsX7_ofPatch) := goodIn_app (goodIn_of _ (by decide +kernel)) ggL_done_X7_ofPatch
theorem dL_done_0 : decode cL_done 0 = .ok (.iconst 0, 1) := by decide +kernel
theorem dL_done_1 : decode cL_done 1 = .ok (.istore_n 1, 1) := by decide +kernel
theorem dL_done_2 : decode cL_done 2 = .ok (.iconst 0, 1) := by decide +kernel
theorem dL_done_3 : decode cL_done 3 = .ok (.istore_n 2, 1) := by decide +kernel
theorem dL_done_4 : decode cL_done 4 = .ok (.iload_n 2, 1) := by decide +kernel
theorem dL_done_5 : decode cL_done 5 = .ok (.aload_n 0, 1) := by decide +kernel
theorem dL_done_6 : decode cL_done 6 = .ok (.bipush 7, 2) := by decide +kernel
theorem dL_done_8 : decode cL_done 8 = .ok (.invokevirtual 64, 3) := by decide +kernel
theorem dL_done_11 : decode cL_done 11 = .ok (.if_icmp .ge 26, 3) := by decide +kernel
theorem dL_done_14 : decode cL_done 14 = .ok (.iload_n 1, 1) := by decide +kernel
theorem dL_done_15 : decode cL_done 15 = .ok (.aload_n 0, 1) := by decide +kernel
theorem dL_done_16 : decode cL_done 16 = .ok (.iload_n 2, 1) := by decide +kernel
theorem dL_done_17 : decode cL_done 17 = .ok (.iconst 3, 1) := by decide +kernel
theorem dL_done_18 : decode cL_done 18 = .ok (.invokevirtual 67, 3) := by decide +kernel
theorem dL_done_21 : decode cL_done 21 = .ok (.ifCond .le 7, 3) := by decide +kernel
theorem dL_done_24 : decode cL_done 24 = .ok (.iconst 1, 1) := by decide +kernel
theorem dL_done_25 : decode cL_done 25 = .ok (.goto 4, 3) := by decide +kernel
theorem dL_done_28 : decode cL_done 28 = .ok (.iconst 0, 1) := by decide +kernel
theorem dL_done_29 : decode cL_done 29 = .ok (.iadd, 1) := by decide +kernel
theorem dL_done_30 : decode cL_done 30 = .ok (.istore_n 1, 1) := by decide +kernel
theorem dL_done_31 : decode cL_done 31 = .ok (.iinc 2 1, 3) := by decide +kernel
theorem dL_done_34 : decode cL_done 34 = .ok (.goto (-30), 3) := by decide +kernel
theorem dL_done_37 : decode cL_done 37 = .ok (.iload_n 1, 1) := by decide +kernel
theorem dL_done_38 : decode cL_done 38 = .ok (.ireturn, 1) := by decide +kernel
set_option maxRecDepth 20000 in
theorem ggL_act_L_below : GoodIn wsL_act wsL_below := goodIn_r _ [6, 7] (by decide +kernel) (by decide +kernel)
set_option maxRecDepth 20000 in
theorem gL_act_L_below : GoodIn wsL_act (va_wsS RL 18 yL_below wsL_below) := goodIn_app (goodIn_of _ (by decide +kernel)) ggL_act_L_below
set_option maxRecDepth 20000 in
theorem ggL_act_X7_many : GoodIn wsL_act wsX7_many := goodIn_ca (goodIn_r _ [12, 13, 14, 15, 16, 11, 17, 18, 19, 20, 21, 22, 23, 24, 25, 26, 27, 28, 29, 30, 31, 32, 33, 34, 35, 36, 37, 38, 39, 40, 41, 42, 43, 44, 45, 46, 47, 48, 49, 50, 51, 52, 53, 54, 55, 56, 57, 58, 59, 60, 492, 493, 494, 495, 496, 497, 498, 499, 500, 501, 502, 503, 504, 505, 506, 507, 508, 509, 510, 511, 512, 513, 514, 515, 516, 517, 518, 519, 520, 521, 522, 523, 524, 525, 526, 527] (by decide +kernel) (by decide +kernel)) (goodIn_sub (fun _ h => List.mem_cons_of_mem _ (List.mem_append_left _ (List.mem_append_left _ (List.mem_append_right _ h)))) (by decide +kernel))
set_option maxRecDepth 20000 in
theorem gL_act_X7_many : GoodIn wsL_act (wsV RL 64 RX7 yX7_many wsX7_many) := goodIn_app (goodIn_of _ (by decide +kernel)) ggL_act_X7_many
set_option maxRecDepth 20000 in
theorem ggL_act_X7_run : GoodIn wsL_act wsX7_run := goodIn_ca (goodIn_ca (goodIn_r _ [64, 65, 66, 67, 68, 29, 25, 26, 69, 70, 71, 11, 72, 15, 16, 17, 73, 74, 75, 76, 77, 58, 59, 36, 60, 38, 78, 79, 80, 81, 82, 30, 22, 83, 84, 85, 49, 86, 51, 87, 88, 52, 53, 54, 55, 56, 57, 39, 40, 41, 42, 43, 44, 45, 34, 35, 37, 89, 90, 91, 92, 93, 94, 95, 96, 97, 98, 99, 100, 101, 102, 103, 104, 105, 106, 107, 108, 109, 110, 111, 112, 492, 493, 494, 495, 496, 497, 498, 499, 510, 511, 512, 513, 514, 515, 516, 517, 518, 519, 520, 525, 521, 522, 523, 524, 500, 501, 502, 503, 504, 505, 506, 507, 508, 509, 526, 527] (by decide +kernel) (by decide +kernel)) (goodIn_sub (fun _ h => List.mem_cons_of_mem _ (List.mem_append_left _ (List.mem_append_right _ h))) (by decide +kernel))) (goodIn_sub (fun _ h => List.mem_cons_of_mem _ (List.mem_append_right _ h)) (by decide +kernel))
set_option maxRecDepth 20000 in
theorem gL_act_X7_run : GoodIn wsL_act (wsV RL 70 RX7 yX7_run wsX7_run) := goodIn_app (goodIn_of _ (by decide +kernel)) ggL_act_X7_run
set_option maxRecDepth 20000 in
theorem ggL_act_X7_stack : GoodIn wsL_act wsX7_stack := goodIn_ca (goodIn_r _ [116, 65, 66, 29, 117, 118, 94, 95, 42, 96, 44, 97, 58, 59, 36, 60, 38, 77, 15, 16, 11, 17, 119, 120, 121, 122, 102, 492, 493, 494, 495, 496, 497, 498, 499, 526, 527, 525] (by decide +kernel) (by decide +kernel)) (goodIn_sub (fun _ h => List.mem_cons_of_mem _ (List.mem_append_left _ (List.mem_append_right _ h))) (by decide +kernel))
set_option maxRecDepth 20000 in
theorem gL_act_X7_stack : GoodIn wsL_act (wsV RL 73 RX7 yX7_stack wsX7_stack) := goodIn_app (goodIn_of _ (by decide +kernel)) ggL_act_X7_stack
set_option maxRecDepth 20000 in
theorem ggL_act_X7_ofSymbol : GoodIn wsL_act wsX7_ofSymbol := goodIn_ca (goodIn_ca (goodIn_r _ [126, 65, 66, 13, 14, 70, 71, 11, 72, 15, 16, 17, 127, 128, 129, 130, 25, 26, 69, 131, 30, 22, 77, 58, 59, 36, 60, 38, 132, 133, 134, 135, 136, 137, 138, 139, 83, 84, 85, 49, 86, 51, 87, 88, 52, 53, 54, 55, 56, 57, 492, 493, 494, 495, 496, 497, 498, 499, 510, 511, 512, 513, 514, 515, 516, 517, 518, 519, 520, 525, 521, 522, 523, 524, 500, 501, 502, 503, 504, 505, 506, 507, 508, 509] (by decide +kernel) (by decide +kernel)) (goodIn_sub (fun _ h => List.mem_cons_of_mem _ (List.mem_append_left _ (List.mem_append_right _ h))) (by decide +kernel))) (goodIn_sub (fun _ h => List.mem_cons_of_mem _ (List.mem_append_left _ (List.mem_append_left _ (List.mem_append_right _ h)))) (by decide +kernel))
set_option maxRecDepth 20000 in
theorem gL_act_X7_ofSymbol : GoodIn wsL_act (wsV RL 76 RX7 yX7_ofSymbol wsX7_ofSymbol) := goodIn_app (goodIn_of _ (by decide +kernel)) ggL_act_X7_ofSymbol
set_option maxRecDepth 20000 in
theorem ggL_act_X7_call : GoodIn wsL_act wsX7_call := goodIn_ca (goodIn_ca (goodIn_r _ [143, 65, 66, 67, 68, 29, 22, 144, 117, 25, 26, 69, 118, 94, 95, 42, 96, 44, 97, 58, 59, 36, 60, 38, 145, 146, 147, 148, 93, 149, 120, 121, 122, 102, 77, 15, 16, 11, 17, 150, 151, 152, 153, 154, 155, 156, 78, 79, 80, 81, 82, 30, 83, 84, 85, 49, 86, 51, 87, 88, 52, 53, 54, 55, 56, 57, 98, 99, 100, 101, 103, 104, 105, 106, 107, 108, 109, 110, 111, 112, 492, 493, 494, 495, 496, 497, 498, 499, 500, 501, 502, 503, 504, 505, 506, 507, 508, 509, 526, 527, 510, 511, 512, 513, 514, 515, 516, 517, 518, 519, 520, 525, 521, 522, 523, 524] (by decide +kernel) (by decide +kernel)) (goodIn_sub (fun _ h => List.mem_cons_of_mem _ (List.mem_append_left _ (List.mem_append_right _ h))) (by decide +kernel))) (goodIn_sub (fun _ h => List.mem_cons_of_mem _ (List.mem_append_right _ h)) (by decide +kernel))
set_option maxRecDepth 20000 in
theorem gL_act_X7_call : GoodIn wsL_act (wsV RL 79 RX7 yX7_call wsX7_call) := goodIn_app (goodIn_of _ (by decide +kernel)) ggL_act_X7_call
set_option maxRecDepth 20000 in
theorem ggL_act_X7_ofPiece : GoodIn wsL_act wsX7_ofPiece := goodIn_ca (goodIn_ca (goodIn_r _ [160, 65, 66, 13, 14, 22, 24, 15, 16, 11, 17, 161, 162, 163, 164, 165, 166, 167, 168, 144, 25, 26, 169, 29, 77, 58, 59, 36, 60, 38, 170, 171, 172, 42, 173, 174, 175, 176, 177, 44, 102, 97, 492, 493, 494, 495, 496, 497, 498, 499, 500, 501, 502, 503, 504, 505, 506, 507, 508, 509, 510, 511, 512, 513, 514, 515, 516, 517, 518, 519, 520, 525, 526, 527] (by decide +kernel) (by decide +kernel)) (goodIn_sub (fun _ h => List.mem_cons_of_mem _ (List.mem_append_left _ (List.mem_append_right _ h))) (by decide +kernel))) (goodIn_sub (fun _ h => List.mem_cons_of_mem _ (List.mem_append_left _ (List.mem_append_left _ (List.mem_append_right _ h)))) (by decide +kernel))
set_option maxRecDepth 20000 in
theorem gL_act_X7_ofPiece : GoodIn wsL_act (wsV RL 82 RX7 yX7_ofPiece wsX7_ofPiece) := goodIn_app (goodIn_of _ (by decide +kernel)) ggL_act_X7_ofPiece
set_option maxRecDepth 20000 in
theorem ggL_act_X7_back : GoodIn wsL_act wsX7_back := goodIn_ca (goodIn_r _ [181, 65, 66, 29, 118, 94, 95, 42, 96, 44, 97, 58, 59, 36, 60, 38, 182, 183, 184, 185, 107, 108, 109, 110, 111, 112, 104, 105, 106, 186, 187, 188, 11, 189, 30, 31, 190, 191, 192, 193, 194, 53, 54, 49, 55, 51, 56, 57, 195, 196, 197, 198, 199, 52, 200, 201, 202, 203, 22, 204, 25, 26, 69, 166, 167, 205, 206, 207, 208, 87, 88, 77, 170, 171, 172, 173, 174, 175, 176, 177, 102, 209, 210, 211, 212, 213, 214, 215, 216, 217, 218, 219, 220, 221, 222, 223, 224, 225, 226, 227, 228, 229, 230, 231, 135, 232, 233, 234, 235, 138, 137, 236, 237, 238, 239, 240, 241, 242, 243, 244, 245, 246, 247, 248, 249, 250, 251, 252, 253, 254, 255, 256, 257, 258, 259, 260, 261, 262, 263, 264, 265, 266, 139, 267, 268, 269, 153, 270, 271, 156, 272, 151, 152, 154, 155, 273, 274, 275, 276, 277, 278, 279, 280, 281, 282, 283, 284, 285, 286, 287, 288, 289, 290, 291, 292, 293, 145, 146, 147, 148, 93, 149, 120, 121, 122, 492, 493, 494, 495, 496, 497, 498, 499, 526, 527, 525, 521, 522, 523, 524, 510, 511, 512, 513, 514, 515, 516, 517, 518, 519, 520, 500, 501, 502, 503, 504, 505, 506, 507, 508, 509] (by decide +kernel) (by decide +kernel)) (goodIn_sub (fun _ h => List.mem_cons_of_mem _ (List.mem_append_left _ (List.mem_append_right _ h))) (by decide +kernel))
set_option maxRecDepth 20000 in
theorem gL_act_X7_back : GoodIn wsL_act (wsV RL 85 RX7 yX7_back wsX7_back) := goodIn_app (goodIn_of _ (by decide +kernel)) ggL_act_X7_back
set_option maxRecDepth 20000 in
theorem ggL_act_X7_patch : GoodIn wsL_act wsX7_patch := goodIn_ca (goodIn_ca (goodIn_ca (goodIn_r _ [297, 65, 66, 13, 14, 67, 68, 30, 31, 22, 24, 70, 71, 11, 72, 15, 16, 17, 298, 299, 300, 73, 74, 75, 76, 25, 26, 69, 77, 58, 59, 36, 60, 38, 301, 302, 303, 153, 304, 305, 306, 307, 308, 309, 310, 104, 105, 106, 311, 312, 313, 314, 315, 155, 271, 156, 316, 108, 109, 110, 111, 112, 317, 318, 319, 49, 320, 88, 51, 199, 56, 293, 186, 187, 188, 189, 190, 191, 192, 193, 194, 53, 54, 55, 57, 195, 196, 197, 198, 52, 200, 201, 202, 203, 204, 166, 29, 167, 205, 206, 207, 208, 87, 170, 171, 172, 42, 173, 174, 175, 176, 177, 44, 102, 97, 209, 210, 211, 212, 213, 214, 215, 216, 217, 218, 219, 220, 221, 222, 223, 224, 225, 226, 227, 228, 229, 230, 231, 135, 232, 233, 234, 235, 138, 137, 236, 237, 238, 239, 240, 241, 242, 243, 244, 245, 246, 247, 248, 249, 250, 251, 252, 253, 254, 255, 256, 257, 258, 259, 260, 261, 262, 263, 264, 265, 266, 139, 267, 268, 269, 270, 272, 151, 152, 154, 273, 274, 275, 276, 277, 278, 279, 280, 281, 282, 283, 284, 285, 286, 287, 288, 289, 290, 291, 292, 492, 493, 494, 495, 496, 497, 498, 499, 521, 522, 523, 524, 500, 501, 502, 503, 504, 505, 506, 507, 508, 509, 510, 511, 512, 513, 514, 515, 516, 517, 518, 519, 520, 525, 526, 527] (by decide +kernel) (by decide +kernel)) (goodIn_sub (fun _ h => List.mem_cons_of_mem _ (List.mem_append_left _ (List.mem_append_right _ h))) (by decide +kernel))) (goodIn_sub (fun _ h => List.mem_cons_of_mem _ (List.mem_append_left _ (List.mem_append_left _ (List.mem_append_right _ h)))) (by decide +kernel))) (goodIn_sub (fun _ h => List.mem_cons_of_mem _ (List.mem_append_right _ h)) (by decide +kernel))
set_option maxRecDepth 20000 in
theorem gL_act_X7_patch : GoodIn wsL_act (wsV RL 88 RX7 yX7_patch wsX7_patch) := goodIn_app (goodIn_of _ (by decide +kernel)) ggL_act_X7_patch
set_option maxRecDepth 20000 in
theorem ggL_act_X7_ofPatch : GoodIn wsL_act wsX7_ofPatch := goodIn_ca (goodIn_ca (goodIn_r _ [324, 65, 66, 13, 14, 30, 31, 15, 16, 11, 17, 325, 326, 327, 328, 22, 166, 204, 329, 330, 77, 58, 59, 36, 60, 38, 492, 493, 494, 495, 496, 497, 498, 499, 521, 522, 523, 524, 500, 501, 502, 503, 504, 505, 506, 507, 508, 509, 525] (by decide +kernel) (by decide +kernel)) (goodIn_sub (fun _ h => List.mem_cons_of_mem _ (List.mem_append_left _ (List.mem_append_right _ h))) (by decide +kernel))) (goodIn_sub (fun _ h => List.mem_cons_of_mem _ (List.mem_append_left _ (List.mem_append_left _ (List.mem_append_right _ h)))) (by decide +kernel))
set_option maxRecDepth 20000 in
theorem gL_act_X7_ofPatch : GoodIn wsL_act (wsV RL 67 RX7 yX7_ofPatch wsX7_ofPatch) := goodIn_app (goodIn_of _ (by decide +kernel)) ggL_act_X7_ofPatch
set_option maxRecDepth 20000 in
theorem ggL_act_X7_gate : GoodIn wsL_act wsX7_gate := goodIn_ca (goodIn_r _ [334, 65, 66, 82, 70, 71, 11, 72, 15, 16, 17, 77, 58, 59, 36, 60, 38, 335, 104, 105, 106, 492, 493, 494, 495, 496, 497, 498, 499, 525] (by decide +kernel) (by decide +kernel)) (goodIn_sub (fun _ h => List.mem_cons_of_mem _ (List.mem_append_left _ (List.mem_append_right _ h))) (by decide +kernel))
set_option maxRecDepth 20000 in
theorem gL_act_X7_gate : GoodIn wsL_act (wsV RL 92 RX7 yX7_gate wsX7_gate) := goodIn_app (goodIn_of _ (by decide +kernel)) ggL_act_X7_gate
set_option maxRecDepth 20000 in
theorem ggL_act_X7_piece : GoodIn wsL_act wsX7_piece := goodIn_ca (goodIn_ca (goodIn_ca (goodIn_r _ [339, 65, 66, 13, 14, 67, 68, 22, 23, 24, 15, 16, 11, 17, 70, 71, 72, 298, 299, 300, 301, 302, 303, 153, 304, 305, 306, 307, 308, 309, 310, 104, 105, 36, 106, 38, 492, 493, 494, 495, 496, 497, 498, 499, 500, 501, 502, 503, 504, 505, 506, 507, 508, 509, 525] (by decide +kernel) (by decide +kernel)) (goodIn_sub (fun _ h => List.mem_cons_of_mem _ (List.mem_append_left _ (List.mem_append_right _ h))) (by decide +kernel))) (goodIn_sub (fun _ h => List.mem_cons_of_mem _ (List.mem_append_left _ (List.mem_append_left _ (List.mem_append_right _ h)))) (by decide +kernel))) (goodIn_sub (fun _ h => List.mem_cons_of_mem _ (List.mem_append_right _ h)) (by decide +kernel))
set_option maxRecDepth 20000 in
theorem gL_act_X7_piece : GoodIn wsL_act (wsV RL 30 RX7 yX7_piece wsX7_piece) := goodIn_app (goodIn_of _ (by decide +kernel)) ggL_act_X7_piece
set_option maxRecDepth 20000 in
theorem ggL_act_X7_link : GoodIn wsL_act wsX7_link := goodIn_ca (goodIn_r _ [343, 67, 68, 29, 344, 22, 345, 346, 25, 347, 30, 39, 40, 41, 42, 43, 44, 45, 34, 35, 36, 37, 38, 348, 349, 350, 351, 352, 353, 354, 355, 356, 357, 358, 359, 360, 361, 362, 363, 364, 365, 135, 366, 233, 234, 235, 138, 137, 236, 367, 368, 369, 370, 371, 372, 373, 374, 375, 376, 377, 378, 58, 59, 60, 379, 380, 381, 382, 383, 384, 385, 104, 105, 106, 386, 387, 388, 153, 389, 306, 305, 307, 156, 390, 391, 392, 393, 315, 394, 151, 152, 154, 155, 395, 396, 397, 398, 399, 400, 401, 402, 403, 404, 405, 406, 407, 408, 409, 410, 411, 412, 413, 414, 415, 416, 108, 109, 110, 111, 112, 417, 418, 419, 420, 421, 422, 423, 424, 425, 426, 427, 428, 429, 430, 431, 432, 433, 434, 435, 436, 437, 438, 439, 440, 441, 442, 443, 444, 445, 446, 447, 448, 449, 450, 451, 452, 453, 454, 455, 456, 457, 458, 459, 460, 461, 462, 286, 287, 463, 268, 269, 270, 271, 464, 274, 275, 276, 139, 277, 278, 279, 280, 465, 466, 467, 468, 469, 257, 258, 259, 260, 261, 262, 263, 264, 265, 266, 267, 272, 273, 281, 282, 283, 284, 285, 470, 471, 472, 212, 473, 225, 226, 228, 474, 249, 246, 475, 229, 230, 231, 232, 237, 238, 239, 240, 476, 251, 252, 253, 254, 214, 227, 255, 477, 215, 478, 479, 480, 49, 481, 51, 492, 493, 494, 495, 496, 497, 498, 499, 528, 529, 530, 531, 532, 533, 534, 535, 536, 537, 526, 527, 525, 515, 516, 517, 518, 519, 520, 500, 501, 502, 503, 504, 505, 506, 507, 508, 509, 510, 511, 512, 513, 514, 521, 522, 523, 524] (by decide +kernel) (by decide +kernel)) (goodIn_sub (fun _ h => List.mem_cons_of_mem _ (List.mem_append_right _ h)) (by decide +kernel))
set_option maxRecDepth 20000 in
theorem gL_act_X7_link : GoodIn wsL_act (wsV RL 38 RX7 yX7_link wsX7_link) := goodIn_app (goodIn_of _ (by decide +kernel)) ggL_act_X7_link
set_option maxRecDepth 20000 in
theorem ggL_act_X7_fault : GoodIn wsL_act wsX7_fault := goodIn_ca (goodIn_ca (goodIn_r _ [485, 65, 66, 13, 14, 344, 22, 345, 346, 348, 349, 350, 351, 352, 353, 354, 355, 356, 357, 358, 359, 360, 361, 362, 363, 364, 365, 135, 366, 233, 234, 235, 138, 137, 236, 367, 368, 369, 36, 370, 38, 371, 372, 373, 374, 375, 376, 377, 378, 58, 59, 60, 379, 380, 381, 382, 383, 384, 385, 104, 105, 106, 386, 387, 388, 153, 389, 306, 305, 307, 156, 390, 391, 392, 393, 315, 394, 151, 152, 154, 155, 395, 396, 397, 398, 399, 400, 401, 402, 403, 404, 405, 406, 407, 408, 409, 410, 411, 412, 413, 414, 415, 416, 108, 109, 110, 111, 112, 417, 418, 419, 420, 421, 422, 423, 424, 425, 426, 427, 428, 429, 430, 431, 432, 433, 434, 435, 436, 437, 438, 439, 440, 441, 442, 443, 444, 445, 446, 447, 448, 449, 450, 451, 452, 453, 454, 455, 456, 457, 458, 459, 460, 461, 462, 286, 287, 463, 268, 269, 270, 271, 464, 274, 275, 276, 139, 277, 278, 279, 280, 465, 466, 467, 468, 469, 257, 258, 259, 260, 261, 262, 263, 264, 265, 266, 267, 272, 273, 281, 282, 283, 284, 285, 15, 16, 11, 17, 486, 487, 488, 489, 490, 491, 77, 492, 493, 494, 495, 496, 497, 498, 499, 528, 529, 530, 531, 532, 533, 534, 535, 536, 537, 515, 516, 517, 518, 519, 520, 525, 500, 501, 502, 503, 504, 505, 506, 507, 508, 509] (by decide +kernel) (by decide +kernel)) (goodIn_sub (fun _ h => List.mem_cons_of_mem _ (List.mem_append_left _ (List.mem_append_right _ h))) (by decide +kernel))) (goodIn_sub (fun _ h => List.mem_cons_of_mem _ (List.mem_append_left _ (List.mem_append_left _ (List.mem_append_right _ h)))) (by decide +kernel))
set_option maxRecDepth 20000 in
theorem gL_act_X7_fault : GoodIn wsL_act (wsV RL 96 RX7 yX7_fault wsX7_fault) := goodIn_app (goodIn_of _ (by decide +kernel)) ggL_act_X7_fault
theorem dL_act_0 : decode cL_act 0 = .ok (.iload_n 1, 1) := by decide +kernel
theorem dL_act_1 : decode cL_act 1 = .ok (.iconst 4, 1) := by decide +kernel
theorem dL_act_2 : decode cL_act 2 = .ok (.ishr, 1) := by decide +kernel
theorem dL_act_3 : decode cL_act 3 = .ok (.bipush 6, 2) := by decide +kernel
theorem dL_act_5 : decode cL_act 5 = .ok (.invokestatic 18, 3) := by decide +kernel
theorem dL_act_8 : decode cL_act 8 = .ok (.istore_n 2, 1) := by decide +kernel
theorem dL_act_9 : decode cL_act 9 = .ok (.iload_n 1, 1) := by decide +kernel
theorem dL_act_10 : decode cL_act 10 = .ok (.iconst 3, 1) := by decide +kernel
theorem dL_act_11 : decode cL_act 11 = .ok (.ishr, 1) := by decide +kernel
theorem dL_act_12 : decode cL_act 12 = .ok (.iconst 4, 1) := by decide +kernel
theorem dL_act_13 : decode cL_act 13 = .ok (.invokestatic 18, 3) := by decide +kernel
theorem dL_act_16 : decode cL_act 16 = .ok (.istore_n 3, 1) := by decide +kernel
theorem dL_act_17 : decode cL_act 17 = .ok (.aload_n 0, 1) := by decide +kernel
theorem dL_act_18 : decode cL_act 18 = .ok (.bipush 6, 2) := by decide +kernel
theorem dL_act_20 : decode cL_act 20 = .ok (.invokevirtual 64, 3) := by decide +kernel
theorem dL_act_23 : decode cL_act 23 = .ok (.istore 4, 2) := by decide +kernel
theorem dL_act_25 : decode cL_act 25 = .ok (.iload_n 1, 1) := by decide +kernel
theorem dL_act_26 : decode cL_act 26 = .ok (.bipush 14, 2) := by decide +kernel
theorem dL_act_28 : decode cL_act 28 = .ok (.invokestatic 18, 3) := by decide +kernel
theorem dL_act_31 : decode cL_act 31 = .ok (.tableswitch 383 0 12 #[65, 65, 103, 103, 103, 151, 151, 151, 198, 198, 198, 292, 336], 65) := by decide +kernel
theorem dL_act_96 : decode cL_act 96 = .ok (.aload_n 0, 1) := by decide +kernel
theorem dL_act_97 : decode cL_act 97 = .ok (.aload_n 0, 1) := by decide +kernel
theorem dL_act_98 : decode cL_act 98 = .ok (.iload_n 2, 1) := by decide +kernel
theorem dL_act_99 : decode cL_act 99 = .ok (.invokevirtual 70, 3) := by decide +kernel
theorem dL_act_102 : decode cL_act 102 = .ok (.iconst 0, 1) := by decide +kernel
theorem dL_act_103 : decode cL_act 103 = .ok (.invokevirtual 73, 3) := by decide +kernel
theorem dL_act_106 : decode cL_act 106 = .ok (.aload_n 0, 1) := by decide +kernel
theorem dL_act_107 : decode cL_act 107 = .ok (.iload_n 2, 1) := by decide +kernel
theorem dL_act_108 : decode cL_act 108 = .ok (.iconst 0, 1) := by decide +kernel
theorem dL_act_109 : decode cL_act 109 = .ok (.invokevirtual 76, 3) := by decide +kernel
theorem dL_act_112 : decode cL_act 112 = .ok (.if_icmp .ne 20, 3) := by decide +kernel
theorem dL_act_115 : decode cL_act 115 = .ok (.aload_n 0, 1) := by decide +kernel
theorem dL_act_116 : decode cL_act 116 = .ok (.bipush 6, 2) := by decide +kernel
theorem dL_act_118 : decode cL_act 118 = .ok (.invokevirtual 64, 3) := by decide +kernel
theorem dL_act_121 : decode cL_act 121 = .ok (.iload 4, 2) := by decide +kernel
theorem dL_act_123 : decode cL_act 123 = .ok (.iconst 1, 1) := by decide +kernel
theorem dL_act_124 : decode cL_act 124 = .ok (.iadd, 1) := by decide +kernel
theorem dL_act_125 : decode cL_act 125 = .ok (.if_icmp .ne 7, 3) := by decide +kernel
theorem dL_act_128 : decode cL_act 128 = .ok (.iconst 1, 1) := by decide +kernel
theorem dL_act_129 : decode cL_act 129 = .ok (.goto 4, 3) := by decide +kernel
theorem dL_act_132 : decode cL_act 132 = .ok (.iconst 0, 1) := by decide +kernel
theorem dL_act_133 : decode cL_act 133 = .ok (.ireturn, 1) := by decide +kernel
theorem dL_act_134 : decode cL_act 134 = .ok (.aload_n 0, 1) := by decide +kernel
theorem dL_act_135 : decode cL_act 135 = .ok (.iload_n 3, 1) := by decide +kernel
theorem dL_act_136 : decode cL_act 136 = .ok (.iload_n 1, 1) := by decide +kernel
theorem dL_act_137 : decode cL_act 137 = .ok (.iconst 5, 1) := by decide +kernel
theorem dL_act_138 : decode cL_act 138 = .ok (.ishr, 1) := by decide +kernel
theorem dL_act_139 : decode cL_act 139 = .ok (.iconst 3, 1) := by decide +kernel
theorem dL_act_140 : decode cL_act 140 = .ok (.invokestatic 18, 3) := by decide +kernel
theorem dL_act_143 : decode cL_act 143 = .ok (.invokevirtual 79, 3) := by decide +kernel
theorem dL_act_146 : decode cL_act 146 = .ok (.istore 5, 2) := by decide +kernel
theorem dL_act_148 : decode cL_act 148 = .ok (.aload_n 0, 1) := by decide +kernel
theorem dL_act_149 : decode cL_act 149 = .ok (.iload 5, 2) := by decide +kernel
theorem dL_act_151 : decode cL_act 151 = .ok (.bipush 6, 2) := by decide +kernel
theorem dL_act_153 : decode cL_act 153 = .ok (.invokevirtual 82, 3) := by decide +kernel
theorem dL_act_156 : decode cL_act 156 = .ok (.ifCond .le 24, 3) := by decide +kernel
theorem dL_act_159 : decode cL_act 159 = .ok (.aload_n 0, 1) := by decide +kernel
theorem dL_act_160 : decode cL_act 160 = .ok (.aload_n 0, 1) := by decide +kernel
theorem dL_act_161 : decode cL_act 161 = .ok (.iload 5, 2) := by decide +kernel
theorem dL_act_163 : decode cL_act 163 = .ok (.iconst 1, 1) := by decide +kernel
theorem dL_act_164 : decode cL_act 164 = .ok (.invokevirtual 82, 3) := by decide +kernel
theorem dL_act_167 : decode cL_act 167 = .ok (.iconst 0, 1) := by decide +kernel
theorem dL_act_168 : decode cL_act 168 = .ok (.invokevirtual 76, 3) := by decide +kernel
theorem dL_act_171 : decode cL_act 171 = .ok (.iload 5, 2) := by decide +kernel
theorem dL_act_173 : decode cL_act 173 = .ok (.if_icmp .ne 7, 3) := by decide +kernel
theorem dL_act_176 : decode cL_act 176 = .ok (.iconst 1, 1) := by decide +kernel
theorem dL_act_177 : decode cL_act 177 = .ok (.goto 4, 3) := by decide +kernel
theorem dL_act_180 : decode cL_act 180 = .ok (.iconst 0, 1) := by decide +kernel
theorem dL_act_181 : decode cL_act 181 = .ok (.ireturn, 1) := by decide +kernel
theorem dL_act_182 : decode cL_act 182 = .ok (.aload_n 0, 1) := by decide +kernel
theorem dL_act_183 : decode cL_act 183 = .ok (.iload_n 3, 1) := by decide +kernel
theorem dL_act_184 : decode cL_act 184 = .ok (.invokevirtual 85, 3) := by decide +kernel
theorem dL_act_187 : decode cL_act 187 = .ok (.iconst (-1), 1) := by decide +kernel
theorem dL_act_188 : decode cL_act 188 = .ok (.if_icmp .ne 24, 3) := by decide +kernel
theorem dL_act_191 : decode cL_act 191 = .ok (.aload_n 0, 1) := by decide +kernel
theorem dL_act_192 : decode cL_act 192 = .ok (.bipush 6, 2) := by decide +kernel
theorem dL_act_194 : decode cL_act 194 = .ok (.invokevirtual 64, 3) := by decide +kernel
theorem dL_act_197 : decode cL_act 197 = .ok (.iload 4, 2) := by decide +kernel
theorem dL_act_199 : decode cL_act 199 = .ok (.iconst 1, 1) := by decide +kernel
theorem dL_act_200 : decode cL_act 200 = .ok (.isub, 1) := by decide +kernel
theorem dL_act_201 : decode cL_act 201 = .ok (.if_icmp .ne 7, 3) := by decide +kernel
theorem dL_act_204 : decode cL_act 204 = .ok (.iconst 1, 1) := by decide +kernel
theorem dL_act_205 : decode cL_act 205 = .ok (.goto 23, 3) := by decide +kernel
theorem dL_act_208 : decode cL_act 208 = .ok (.iconst 0, 1) := by decide +kernel
theorem dL_act_209 : decode cL_act 209 = .ok (.goto 19, 3) := by decide +kernel
theorem dL_act_212 : decode cL_act 212 = .ok (.aload_n 0, 1) := by decide +kernel
theorem dL_act_213 : decode cL_act 213 = .ok (.bipush 6, 2) := by decide +kernel
theorem dL_act_215 : decode cL_act 215 = .ok (.invokevirtual 64, 3) := by decide +kernel
theorem dL_act_218 : decode cL_act 218 = .ok (.iload 4, 2) := by decide +kernel
theorem dL_act_220 : decode cL_act 220 = .ok (.if_icmp .ne 7, 3) := by decide +kernel
theorem dL_act_223 : decode cL_act 223 = .ok (.iconst 1, 1) := by decide +kernel
theorem dL_act_224 : decode cL_act 224 = .ok (.goto 4, 3) := by decide +kernel
theorem dL_act_227 : decode cL_act 227 = .ok (.iconst 0, 1) := by decide +kernel
theorem dL_act_228 : decode cL_act 228 = .ok (.ireturn, 1) := by decide +kernel
theorem dL_act_229 : decode cL_act 229 = .ok (.aload_n 0, 1) := by decide +kernel
theorem dL_act_230 : decode cL_act 230 = .ok (.bipush 7, 2) := by decide +kernel
theorem dL_act_232 : decode cL_act 232 = .ok (.invokevirtual 64, 3) := by decide +kernel
theorem dL_act_235 : decode cL_act 235 = .ok (.istore 6, 2) := by decide +kernel
theorem dL_act_237 : decode cL_act 237 = .ok (.aload_n 0, 1) := by decide +kernel
theorem dL_act_238 : decode cL_act 238 = .ok (.iconst 1, 1) := by decide +kernel
theorem dL_act_239 : decode cL_act 239 = .ok (.invokevirtual 64, 3) := by decide +kernel
theorem dL_act_242 : decode cL_act 242 = .ok (.istore 7, 2) := by decide +kernel
theorem dL_act_244 : decode cL_act 244 = .ok (.aload_n 0, 1) := by decide +kernel
theorem dL_act_245 : decode cL_act 245 = .ok (.iload_n 2, 1) := by decide +kernel
theorem dL_act_246 : decode cL_act 246 = .ok (.iconst 1, 1) := by decide +kernel
theorem dL_act_247 : decode cL_act 247 = .ok (.iload_n 1, 1) := by decide +kernel
theorem dL_act_248 : decode cL_act 248 = .ok (.bipush 6, 2) := by decide +kernel
theorem dL_act_250 : decode cL_act 250 = .ok (.ishr, 1) := by decide +kernel
theorem dL_act_251 : decode cL_act 251 = .ok (.bipush 20, 2) := by decide +kernel
theorem dL_act_253 : decode cL_act 253 = .ok (.invokestatic 18, 3) := by decide +kernel
theorem dL_act_256 : decode cL_act 256 = .ok (.iadd, 1) := by decide +kernel
theorem dL_act_257 : decode cL_act 257 = .ok (.iload_n 1, 1) := by decide +kernel
theorem dL_act_258 : decode cL_act 258 = .ok (.iconst 5, 1) := by decide +kernel
theorem dL_act_259 : decode cL_act 259 = .ok (.ishr, 1) := by decide +kernel
theorem dL_act_260 : decode cL_act 260 = .ok (.iconst 3, 1) := by decide +kernel
theorem dL_act_261 : decode cL_act 261 = .ok (.invokestatic 18, 3) := by decide +kernel
theorem dL_act_264 : decode cL_act 264 = .ok (.iload_n 1, 1) := by decide +kernel
theorem dL_act_265 : decode cL_act 265 = .ok (.bipush 7, 2) := by decide +kernel
theorem dL_act_267 : decode cL_act 267 = .ok (.ishr, 1) := by decide +kernel
theorem dL_act_268 : decode cL_act 268 = .ok (.bipush 7, 2) := by decide +kernel
theorem dL_act_270 : decode cL_act 270 = .ok (.invokestatic 18, 3) := by decide +kernel
theorem dL_act_273 : decode cL_act 273 = .ok (.iconst 1, 1) := by decide +kernel
theorem dL_act_274 : decode cL_act 274 = .ok (.isub, 1) := by decide +kernel

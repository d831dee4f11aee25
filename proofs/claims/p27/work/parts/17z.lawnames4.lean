theorem dL_areSymbolsRight_200 : decode cL_areSymbolsRight 200 = .ok (.iload 5, 2) := by decide +kernel
theorem dL_areSymbolsRight_202 : decode cL_areSymbolsRight 202 = .ok (.iconst 0, 1) := by decide +kernel
theorem dL_areSymbolsRight_203 : decode cL_areSymbolsRight 203 = .ok (.invokevirtual 103, 3) := by decide +kernel
theorem dL_areSymbolsRight_206 : decode cL_areSymbolsRight 206 = .ok (.iconst 3, 1) := by decide +kernel
theorem dL_areSymbolsRight_207 : decode cL_areSymbolsRight 207 = .ok (.if_icmp .ne 14, 3) := by decide +kernel
theorem dL_areSymbolsRight_210 : decode cL_areSymbolsRight 210 = .ok (.aload_n 0, 1) := by decide +kernel
theorem dL_areSymbolsRight_211 : decode cL_areSymbolsRight 211 = .ok (.iload 5, 2) := by decide +kernel
theorem dL_areSymbolsRight_213 : decode cL_areSymbolsRight 213 = .ok (.iconst 1, 1) := by decide +kernel
theorem dL_areSymbolsRight_214 : decode cL_areSymbolsRight 214 = .ok (.invokevirtual 103, 3) := by decide +kernel
theorem dL_areSymbolsRight_217 : decode cL_areSymbolsRight 217 = .ok (.iload_n 2, 1) := by decide +kernel
theorem dL_areSymbolsRight_218 : decode cL_areSymbolsRight 218 = .ok (.if_icmp .eq 5, 3) := by decide +kernel
theorem dL_areSymbolsRight_221 : decode cL_areSymbolsRight 221 = .ok (.iconst 0, 1) := by decide +kernel
theorem dL_areSymbolsRight_222 : decode cL_areSymbolsRight 222 = .ok (.ireturn, 1) := by decide +kernel
theorem dL_areSymbolsRight_223 : decode cL_areSymbolsRight 223 = .ok (.iinc 2 1, 3) := by decide +kernel
theorem dL_areSymbolsRight_226 : decode cL_areSymbolsRight 226 = .ok (.goto (-162), 3) := by decide +kernel
theorem dL_areSymbolsRight_229 : decode cL_areSymbolsRight 229 = .ok (.aload_n 0, 1) := by decide +kernel
theorem dL_areSymbolsRight_230 : decode cL_areSymbolsRight 230 = .ok (.iconst 3, 1) := by decide +kernel
theorem dL_areSymbolsRight_231 : decode cL_areSymbolsRight 231 = .ok (.invokevirtual 64, 3) := by decide +kernel
theorem dL_areSymbolsRight_234 : decode cL_areSymbolsRight 234 = .ok (.iload_n 1, 1) := by decide +kernel
theorem dL_areSymbolsRight_235 : decode cL_areSymbolsRight 235 = .ok (.aload_n 0, 1) := by decide +kernel
theorem dL_areSymbolsRight_236 : decode cL_areSymbolsRight 236 = .ok (.iconst 4, 1) := by decide +kernel
theorem dL_areSymbolsRight_237 : decode cL_areSymbolsRight 237 = .ok (.invokevirtual 64, 3) := by decide +kernel
theorem dL_areSymbolsRight_240 : decode cL_areSymbolsRight 240 = .ok (.iadd, 1) := by decide +kernel
theorem dL_areSymbolsRight_241 : decode cL_areSymbolsRight 241 = .ok (.aload_n 0, 1) := by decide +kernel
theorem dL_areSymbolsRight_242 : decode cL_areSymbolsRight 242 = .ok (.iconst 5, 1) := by decide +kernel
theorem dL_areSymbolsRight_243 : decode cL_areSymbolsRight 243 = .ok (.invokevirtual 64, 3) := by decide +kernel
theorem dL_areSymbolsRight_246 : decode cL_areSymbolsRight 246 = .ok (.iadd, 1) := by decide +kernel
theorem dL_areSymbolsRight_247 : decode cL_areSymbolsRight 247 = .ok (.if_icmp .ne 7, 3) := by decide +kernel
theorem dL_areSymbolsRight_250 : decode cL_areSymbolsRight 250 = .ok (.iconst 1, 1) := by decide +kernel
theorem dL_areSymbolsRight_251 : decode cL_areSymbolsRight 251 = .ok (.goto 4, 3) := by decide +kernel
theorem dL_areSymbolsRight_254 : decode cL_areSymbolsRight 254 = .ok (.iconst 0, 1) := by decide +kernel
theorem dL_areSymbolsRight_255 : decode cL_areSymbolsRight 255 = .ok (.ireturn, 1) := by decide +kernel
set_option maxRecDepth 20000 in
theorem ggL_arePatchesRight_X7_many : GoodIn wsL_arePatchesRight wsX7_many := goodIn_ca (goodIn_r _ [5, 6, 7, 8, 9, 4, 10, 11, 12, 13, 14, 15, 16, 17, 18, 19, 20, 21, 22, 23, 24, 25, 26, 27, 28, 29, 30, 31, 32, 33, 34, 35, 36, 37, 38, 39, 40, 41, 42, 43, 44, 45, 46, 47, 48, 49, 50, 51, 52, 53, 139, 140, 141, 142, 143, 144, 145, 146, 147, 148, 149, 150, 151, 152, 153, 154, 155, 156, 157, 158, 159, 160, 161, 162, 163, 164, 165, 166, 167, 168, 169, 170, 171, 172, 173, 174] (by decide +kernel) (by decide +kernel)) (goodIn_sub (fun _ h => List.mem_cons_of_mem _ (List.mem_append_left _ (List.mem_append_right _ h))) (by decide +kernel))
set_option maxRecDepth 20000 in
theorem gL_arePatchesRight_X7_many : GoodIn wsL_arePatchesRight (wsV RL 64 RX7 yX7_many wsX7_many) := goodIn_app (goodIn_of _ (by decide +kernel)) ggL_arePatchesRight_X7_many
set_option maxRecDepth 20000 in
theorem ggL_arePatchesRight_X7_ofPatch : GoodIn wsL_arePatchesRight wsX7_ofPatch := goodIn_ca (goodIn_ca (goodIn_r _ [57, 58, 59, 6, 7, 23, 24, 8, 9, 4, 10, 60, 61, 62, 63, 15, 64, 65, 66, 67, 68, 51, 52, 29, 53, 31, 139, 140, 141, 142, 143, 144, 145, 146, 168, 169, 170, 171, 147, 148, 149, 150, 151, 152, 153, 154, 155, 156, 172] (by decide +kernel) (by decide +kernel)) (goodIn_sub (fun _ h => List.mem_cons_of_mem _ (List.mem_append_right _ h)) (by decide +kernel))) (goodIn_sub (fun _ h => List.mem_cons_of_mem _ (List.mem_append_left _ (List.mem_append_right _ h))) (by decide +kernel))
set_option maxRecDepth 20000 in
theorem gL_arePatchesRight_X7_ofPatch : GoodIn wsL_arePatchesRight (wsV RL 67 RX7 yX7_ofPatch wsX7_ofPatch) := goodIn_app (goodIn_of _ (by decide +kernel)) ggL_arePatchesRight_X7_ofPatch
set_option maxRecDepth 20000 in
theorem ggL_arePatchesRight_X7_ofPiece : GoodIn wsL_arePatchesRight wsX7_ofPiece := goodIn_ca (goodIn_ca (goodIn_r _ [72, 58, 59, 6, 7, 15, 17, 8, 9, 4, 10, 73, 74, 75, 76, 77, 64, 78, 79, 80, 18, 19, 81, 22, 68, 51, 52, 29, 53, 31, 82, 83, 84, 35, 85, 86, 87, 88, 89, 37, 90, 91, 139, 140, 141, 142, 143, 144, 145, 146, 147, 148, 149, 150, 151, 152, 153, 154, 155, 156, 157, 158, 159, 160, 161, 162, 163, 164, 165, 166, 167, 172, 173, 174] (by decide +kernel) (by decide +kernel)) (goodIn_sub (fun _ h => List.mem_cons_of_mem _ (List.mem_append_right _ h)) (by decide +kernel))) (goodIn_sub (fun _ h => List.mem_cons_of_mem _ (List.mem_append_left _ (List.mem_append_right _ h))) (by decide +kernel))
set_option maxRecDepth 20000 in
theorem gL_arePatchesRight_X7_ofPiece : GoodIn wsL_arePatchesRight (wsV RL 82 RX7 yX7_ofPiece wsX7_ofPiece) := goodIn_app (goodIn_of _ (by decide +kernel)) ggL_arePatchesRight_X7_ofPiece
set_option maxRecDepth 20000 in
theorem ggL_arePatchesRight_X7_ofSymbol : GoodIn wsL_arePatchesRight wsX7_ofSymbol := goodIn_ca (goodIn_ca (goodIn_r _ [95, 58, 59, 6, 7, 96, 97, 4, 98, 8, 9, 10, 99, 100, 101, 102, 18, 19, 103, 104, 23, 15, 68, 51, 52, 29, 53, 31, 105, 106, 107, 108, 109, 110, 111, 112, 113, 114, 115, 42, 116, 44, 117, 118, 45, 46, 47, 48, 49, 50, 139, 140, 141, 142, 143, 144, 145, 146, 157, 158, 159, 160, 161, 162, 163, 164, 165, 166, 167, 172, 168, 169, 170, 171, 147, 148, 149, 150, 151, 152, 153, 154, 155, 156] (by decide +kernel) (by decide +kernel)) (goodIn_sub (fun _ h => List.mem_cons_of_mem _ (List.mem_append_right _ h)) (by decide +kernel))) (goodIn_sub (fun _ h => List.mem_cons_of_mem _ (List.mem_append_left _ (List.mem_append_right _ h))) (by decide +kernel))
set_option maxRecDepth 20000 in
theorem gL_arePatchesRight_X7_ofSymbol : GoodIn wsL_arePatchesRight (wsV RL 76 RX7 yX7_ofSymbol wsX7_ofSymbol) := goodIn_app (goodIn_of _ (by decide +kernel)) ggL_arePatchesRight_X7_ofSymbol
set_option maxRecDepth 20000 in
theorem ggL_arePatchesRight_X7_backsFor : GoodIn wsL_arePatchesRight wsX7_backsFor := goodIn_ca (goodIn_r _ [122, 58, 59, 23, 15, 64, 65, 22, 18, 19, 103, 123, 46, 47, 42, 48, 44, 49, 50, 51, 52, 29, 53, 31, 68, 124, 125, 126, 35, 127, 86, 87, 88, 89, 37, 90, 91, 139, 140, 141, 142, 143, 144, 145, 146, 147, 148, 149, 150, 151, 152, 153, 154, 155, 156, 168, 169, 170, 171, 157, 158, 159, 160, 161, 162, 163, 164, 165, 166, 167, 172, 173, 174] (by decide +kernel) (by decide +kernel)) (goodIn_sub (fun _ h => List.mem_cons_of_mem _ (List.mem_append_right _ h)) (by decide +kernel))
set_option maxRecDepth 20000 in
theorem gL_arePatchesRight_X7_backsFor : GoodIn wsL_arePatchesRight (wsV RL 106 RX7 yX7_backsFor wsX7_backsFor) := goodIn_app (goodIn_of _ (by decide +kernel)) ggL_arePatchesRight_X7_backsFor
set_option maxRecDepth 20000 in
theorem ggL_arePatchesRight_X7_place : GoodIn wsL_arePatchesRight wsX7_place := goodIn_ca (goodIn_r _ [131, 6, 7, 18, 132, 133, 134, 135, 136, 137, 138, 51, 52, 29, 53, 31, 139, 140, 141, 142, 143, 144, 145, 146, 157, 158, 159, 160, 161, 172] (by decide +kernel) (by decide +kernel)) (goodIn_sub (fun _ h => List.mem_cons_of_mem _ (List.mem_append_left _ (List.mem_append_right _ h))) (by decide +kernel))
set_option maxRecDepth 20000 in
theorem gL_arePatchesRight_X7_place : GoodIn wsL_arePatchesRight (wsV RL 109 RX7 yX7_place wsX7_place) := goodIn_app (goodIn_of _ (by decide +kernel)) ggL_arePatchesRight_X7_place
theorem dL_arePatchesRight_0 : decode cL_arePatchesRight 0 = .ok (.iconst 0, 1) := by decide +kernel
theorem dL_arePatchesRight_1 : decode cL_arePatchesRight 1 = .ok (.istore_n 1, 1) := by decide +kernel
theorem dL_arePatchesRight_2 : decode cL_arePatchesRight 2 = .ok (.iconst 0, 1) := by decide +kernel
theorem dL_arePatchesRight_3 : decode cL_arePatchesRight 3 = .ok (.istore_n 2, 1) := by decide +kernel
theorem dL_arePatchesRight_4 : decode cL_arePatchesRight 4 = .ok (.iload_n 2, 1) := by decide +kernel
theorem dL_arePatchesRight_5 : decode cL_arePatchesRight 5 = .ok (.aload_n 0, 1) := by decide +kernel
theorem dL_arePatchesRight_6 : decode cL_arePatchesRight 6 = .ok (.bipush 7, 2) := by decide +kernel
theorem dL_arePatchesRight_8 : decode cL_arePatchesRight 8 = .ok (.invokevirtual 64, 3) := by decide +kernel
theorem dL_arePatchesRight_11 : decode cL_arePatchesRight 11 = .ok (.if_icmp .ge 207, 3) := by decide +kernel
theorem dL_arePatchesRight_14 : decode cL_arePatchesRight 14 = .ok (.aload_n 0, 1) := by decide +kernel
theorem dL_arePatchesRight_15 : decode cL_arePatchesRight 15 = .ok (.iload_n 2, 1) := by decide +kernel
theorem dL_arePatchesRight_16 : decode cL_arePatchesRight 16 = .ok (.iconst 3, 1) := by decide +kernel
theorem dL_arePatchesRight_17 : decode cL_arePatchesRight 17 = .ok (.invokevirtual 67, 3) := by decide +kernel
theorem dL_arePatchesRight_20 : decode cL_arePatchesRight 20 = .ok (.istore_n 3, 1) := by decide +kernel
theorem dL_arePatchesRight_21 : decode cL_arePatchesRight 21 = .ok (.aload_n 0, 1) := by decide +kernel
theorem dL_arePatchesRight_22 : decode cL_arePatchesRight 22 = .ok (.iload_n 2, 1) := by decide +kernel
theorem dL_arePatchesRight_23 : decode cL_arePatchesRight 23 = .ok (.iconst 1, 1) := by decide +kernel
theorem dL_arePatchesRight_24 : decode cL_arePatchesRight 24 = .ok (.invokevirtual 67, 3) := by decide +kernel
theorem dL_arePatchesRight_27 : decode cL_arePatchesRight 27 = .ok (.istore 4, 2) := by decide +kernel
theorem dL_arePatchesRight_29 : decode cL_arePatchesRight 29 = .ok (.aload_n 0, 1) := by decide +kernel
theorem dL_arePatchesRight_30 : decode cL_arePatchesRight 30 = .ok (.iload_n 2, 1) := by decide +kernel
theorem dL_arePatchesRight_31 : decode cL_arePatchesRight 31 = .ok (.iconst 0, 1) := by decide +kernel
theorem dL_arePatchesRight_32 : decode cL_arePatchesRight 32 = .ok (.invokevirtual 67, 3) := by decide +kernel
theorem dL_arePatchesRight_35 : decode cL_arePatchesRight 35 = .ok (.istore 5, 2) := by decide +kernel
theorem dL_arePatchesRight_37 : decode cL_arePatchesRight 37 = .ok (.iload_n 3, 1) := by decide +kernel
theorem dL_arePatchesRight_38 : decode cL_arePatchesRight 38 = .ok (.ifCond .lt 24, 3) := by decide +kernel
theorem dL_arePatchesRight_41 : decode cL_arePatchesRight 41 = .ok (.iload_n 3, 1) := by decide +kernel
theorem dL_arePatchesRight_42 : decode cL_arePatchesRight 42 = .ok (.iconst 2, 1) := by decide +kernel
theorem dL_arePatchesRight_43 : decode cL_arePatchesRight 43 = .ok (.if_icmp .gt 19, 3) := by decide +kernel
theorem dL_arePatchesRight_46 : decode cL_arePatchesRight 46 = .ok (.iload_n 3, 1) := by decide +kernel
theorem dL_arePatchesRight_47 : decode cL_arePatchesRight 47 = .ok (.iconst 1, 1) := by decide +kernel
theorem dL_arePatchesRight_48 : decode cL_arePatchesRight 48 = .ok (.if_icmp .eq 16, 3) := by decide +kernel
theorem dL_arePatchesRight_51 : decode cL_arePatchesRight 51 = .ok (.aload_n 0, 1) := by decide +kernel
theorem dL_arePatchesRight_52 : decode cL_arePatchesRight 52 = .ok (.iload 4, 2) := by decide +kernel
theorem dL_arePatchesRight_54 : decode cL_arePatchesRight 54 = .ok (.iconst 5, 1) := by decide +kernel
theorem dL_arePatchesRight_55 : decode cL_arePatchesRight 55 = .ok (.invokevirtual 82, 3) := by decide +kernel
theorem dL_arePatchesRight_58 : decode cL_arePatchesRight 58 = .ok (.iconst (-1), 1) := by decide +kernel
theorem dL_arePatchesRight_59 : decode cL_arePatchesRight 59 = .ok (.if_icmp .eq 5, 3) := by decide +kernel
theorem dL_arePatchesRight_62 : decode cL_arePatchesRight 62 = .ok (.iconst 0, 1) := by decide +kernel
theorem dL_arePatchesRight_63 : decode cL_arePatchesRight 63 = .ok (.ireturn, 1) := by decide +kernel
theorem dL_arePatchesRight_64 : decode cL_arePatchesRight 64 = .ok (.iload_n 3, 1) := by decide +kernel
theorem dL_arePatchesRight_65 : decode cL_arePatchesRight 65 = .ok (.iconst 1, 1) := by decide +kernel
theorem dL_arePatchesRight_66 : decode cL_arePatchesRight 66 = .ok (.if_icmp .ne 17, 3) := by decide +kernel
theorem dL_arePatchesRight_69 : decode cL_arePatchesRight 69 = .ok (.aload_n 0, 1) := by decide +kernel
theorem dL_arePatchesRight_70 : decode cL_arePatchesRight 70 = .ok (.iload 5, 2) := by decide +kernel
theorem dL_arePatchesRight_72 : decode cL_arePatchesRight 72 = .ok (.iconst 0, 1) := by decide +kernel
theorem dL_arePatchesRight_73 : decode cL_arePatchesRight 73 = .ok (.invokevirtual 76, 3) := by decide +kernel
theorem dL_arePatchesRight_76 : decode cL_arePatchesRight 76 = .ok (.iload 4, 2) := by decide +kernel
theorem dL_arePatchesRight_78 : decode cL_arePatchesRight 78 = .ok (.if_icmp .ge 5, 3) := by decide +kernel
theorem dL_arePatchesRight_81 : decode cL_arePatchesRight 81 = .ok (.iconst 0, 1) := by decide +kernel
theorem dL_arePatchesRight_82 : decode cL_arePatchesRight 82 = .ok (.ireturn, 1) := by decide +kernel
theorem dL_arePatchesRight_83 : decode cL_arePatchesRight 83 = .ok (.iload_n 3, 1) := by decide +kernel
theorem dL_arePatchesRight_84 : decode cL_arePatchesRight 84 = .ok (.ifCond .le 6, 3) := by decide +kernel
theorem dL_arePatchesRight_87 : decode cL_arePatchesRight 87 = .ok (.goto 125, 3) := by decide +kernel
theorem dL_arePatchesRight_90 : decode cL_arePatchesRight 90 = .ok (.iinc 1 1, 3) := by decide +kernel
theorem dL_arePatchesRight_93 : decode cL_arePatchesRight 93 = .ok (.aload_n 0, 1) := by decide +kernel
theorem dL_arePatchesRight_94 : decode cL_arePatchesRight 94 = .ok (.iload 5, 2) := by decide +kernel
theorem dL_arePatchesRight_96 : decode cL_arePatchesRight 96 = .ok (.iconst 3, 1) := by decide +kernel
theorem dL_arePatchesRight_97 : decode cL_arePatchesRight 97 = .ok (.invokevirtual 76, 3) := by decide +kernel
theorem dL_arePatchesRight_100 : decode cL_arePatchesRight 100 = .ok (.iconst 1, 1) := by decide +kernel
theorem dL_arePatchesRight_101 : decode cL_arePatchesRight 101 = .ok (.if_icmp .lt 21, 3) := by decide +kernel
theorem dL_arePatchesRight_104 : decode cL_arePatchesRight 104 = .ok (.aload_n 0, 1) := by decide +kernel
theorem dL_arePatchesRight_105 : decode cL_arePatchesRight 105 = .ok (.iload_n 2, 1) := by decide +kernel
theorem dL_arePatchesRight_106 : decode cL_arePatchesRight 106 = .ok (.invokevirtual 106, 3) := by decide +kernel
theorem dL_arePatchesRight_109 : decode cL_arePatchesRight 109 = .ok (.ifCond .lt 13, 3) := by decide +kernel
theorem dL_arePatchesRight_112 : decode cL_arePatchesRight 112 = .ok (.aload_n 0, 1) := by decide +kernel
theorem dL_arePatchesRight_113 : decode cL_arePatchesRight 113 = .ok (.iload_n 2, 1) := by decide +kernel
theorem dL_arePatchesRight_114 : decode cL_arePatchesRight 114 = .ok (.invokevirtual 106, 3) := by decide +kernel
theorem dL_arePatchesRight_117 : decode cL_arePatchesRight 117 = .ok (.bipush 32, 2) := by decide +kernel
theorem dL_arePatchesRight_119 : decode cL_arePatchesRight 119 = .ok (.if_icmp .le 5, 3) := by decide +kernel
theorem dL_arePatchesRight_122 : decode cL_arePatchesRight 122 = .ok (.iconst 0, 1) := by decide +kernel
theorem dL_arePatchesRight_123 : decode cL_arePatchesRight 123 = .ok (.ireturn, 1) := by decide +kernel
theorem dL_arePatchesRight_124 : decode cL_arePatchesRight 124 = .ok (.iconst 1, 1) := by decide +kernel
theorem dL_arePatchesRight_125 : decode cL_arePatchesRight 125 = .ok (.istore 6, 2) := by decide +kernel
theorem dL_arePatchesRight_127 : decode cL_arePatchesRight 127 = .ok (.iconst 0, 1) := by decide +kernel
theorem dL_arePatchesRight_128 : decode cL_arePatchesRight 128 = .ok (.istore 7, 2) := by decide +kernel
theorem dL_arePatchesRight_130 : decode cL_arePatchesRight 130 = .ok (.iload 7, 2) := by decide +kernel
theorem dL_arePatchesRight_132 : decode cL_arePatchesRight 132 = .ok (.iload_n 2, 1) := by decide +kernel
theorem dL_arePatchesRight_133 : decode cL_arePatchesRight 133 = .ok (.if_icmp .ge 41, 3) := by decide +kernel
theorem dL_arePatchesRight_136 : decode cL_arePatchesRight 136 = .ok (.iload 6, 2) := by decide +kernel
theorem dL_arePatchesRight_138 : decode cL_arePatchesRight 138 = .ok (.aload_n 0, 1) := by decide +kernel
theorem dL_arePatchesRight_139 : decode cL_arePatchesRight 139 = .ok (.iload 7, 2) := by decide +kernel
theorem dL_arePatchesRight_141 : decode cL_arePatchesRight 141 = .ok (.iconst 3, 1) := by decide +kernel
theorem dL_arePatchesRight_142 : decode cL_arePatchesRight 142 = .ok (.invokevirtual 67, 3) := by decide +kernel
theorem dL_arePatchesRight_145 : decode cL_arePatchesRight 145 = .ok (.ifCond .ne 15, 3) := by decide +kernel
theorem dL_arePatchesRight_148 : decode cL_arePatchesRight 148 = .ok (.aload_n 0, 1) := by decide +kernel
theorem dL_arePatchesRight_149 : decode cL_arePatchesRight 149 = .ok (.iload 7, 2) := by decide +kernel
theorem dL_arePatchesRight_151 : decode cL_arePatchesRight 151 = .ok (.iconst 0, 1) := by decide +kernel
theorem dL_arePatchesRight_152 : decode cL_arePatchesRight 152 = .ok (.invokevirtual 67, 3) := by decide +kernel
theorem dL_arePatchesRight_155 : decode cL_arePatchesRight 155 = .ok (.iload 5, 2) := by decide +kernel
theorem dL_arePatchesRight_157 : decode cL_arePatchesRight 157 = .ok (.if_icmp .eq 7, 3) := by decide +kernel
theorem dL_arePatchesRight_160 : decode cL_arePatchesRight 160 = .ok (.iconst 1, 1) := by decide +kernel
theorem dL_arePatchesRight_161 : decode cL_arePatchesRight 161 = .ok (.goto 4, 3) := by decide +kernel
theorem dL_arePatchesRight_164 : decode cL_arePatchesRight 164 = .ok (.iconst 0, 1) := by decide +kernel
theorem dL_arePatchesRight_165 : decode cL_arePatchesRight 165 = .ok (.iand, 1) := by decide +kernel
theorem dL_arePatchesRight_166 : decode cL_arePatchesRight 166 = .ok (.istore 6, 2) := by decide +kernel
theorem dL_arePatchesRight_168 : decode cL_arePatchesRight 168 = .ok (.iinc 7 1, 3) := by decide +kernel
theorem dL_arePatchesRight_171 : decode cL_arePatchesRight 171 = .ok (.goto (-41), 3) := by decide +kernel
theorem dL_arePatchesRight_174 : decode cL_arePatchesRight 174 = .ok (.aload_n 0, 1) := by decide +kernel
theorem dL_arePatchesRight_175 : decode cL_arePatchesRight 175 = .ok (.iload_n 2, 1) := by decide +kernel
theorem dL_arePatchesRight_176 : decode cL_arePatchesRight 176 = .ok (.iconst 2, 1) := by decide +kernel
theorem dL_arePatchesRight_177 : decode cL_arePatchesRight 177 = .ok (.invokevirtual 67, 3) := by decide +kernel
theorem dL_arePatchesRight_180 : decode cL_arePatchesRight 180 = .ok (.ifCond .ne 32, 3) := by decide +kernel
theorem dL_arePatchesRight_183 : decode cL_arePatchesRight 183 = .ok (.iload 6, 2) := by decide +kernel
theorem dL_arePatchesRight_185 : decode cL_arePatchesRight 185 = .ok (.ifCond .eq 27, 3) := by decide +kernel
theorem dL_arePatchesRight_188 : decode cL_arePatchesRight 188 = .ok (.aload_n 0, 1) := by decide +kernel
theorem dL_arePatchesRight_189 : decode cL_arePatchesRight 189 = .ok (.iload_n 2, 1) := by decide +kernel
theorem dL_arePatchesRight_190 : decode cL_arePatchesRight 190 = .ok (.invokevirtual 106, 3) := by decide +kernel
theorem dL_arePatchesRight_193 : decode cL_arePatchesRight 193 = .ok (.ifCond .ne 19, 3) := by decide +kernel
theorem dL_arePatchesRight_196 : decode cL_arePatchesRight 196 = .ok (.aload_n 0, 1) := by decide +kernel
theorem dL_arePatchesRight_197 : decode cL_arePatchesRight 197 = .ok (.aload_n 0, 1) := by decide +kernel
theorem dL_arePatchesRight_198 : decode cL_arePatchesRight 198 = .ok (.iload 4, 2) := by decide +kernel
theorem dL_arePatchesRight_200 : decode cL_arePatchesRight 200 = .ok (.iconst 2, 1) := by decide +kernel
theorem dL_arePatchesRight_201 : decode cL_arePatchesRight 201 = .ok (.invokevirtual 82, 3) := by decide +kernel
theorem dL_arePatchesRight_204 : decode cL_arePatchesRight 204 = .ok (.invokevirtual 109, 3) := by decide +kernel
theorem dL_arePatchesRight_207 : decode cL_arePatchesRight 207 = .ok (.ifCond .lt 5, 3) := by decide +kernel
theorem dL_arePatchesRight_210 : decode cL_arePatchesRight 210 = .ok (.iconst 0, 1) := by decide +kernel
theorem dL_arePatchesRight_211 : decode cL_arePatchesRight 211 = .ok (.ireturn, 1) := by decide +kernel
theorem dL_arePatchesRight_212 : decode cL_arePatchesRight 212 = .ok (.iinc 2 1, 3) := by decide +kernel
theorem dL_arePatchesRight_215 : decode cL_arePatchesRight 215 = .ok (.goto (-211), 3) := by decide +kernel
theorem dL_arePatchesRight_218 : decode cL_arePatchesRight 218 = .ok (.aload_n 0, 1) := by decide +kernel
theorem dL_arePatchesRight_219 : decode cL_arePatchesRight 219 = .ok (.bipush 8, 2) := by decide +kernel
theorem dL_arePatchesRight_221 : decode cL_arePatchesRight 221 = .ok (.invokevirtual 64, 3) := by decide +kernel
theorem dL_arePatchesRight_224 : decode cL_arePatchesRight 224 = .ok (.iload_n 1, 1) := by decide +kernel
theorem dL_arePatchesRight_225 : decode cL_arePatchesRight 225 = .ok (.if_icmp .ne 7, 3) := by decide +kernel
theorem dL_arePatchesRight_228 : decode cL_arePatchesRight 228 = .ok (.iconst 1, 1) := by decide +kernel
theorem dL_arePatchesRight_229 : decode cL_arePatchesRight 229 = .ok (.goto 4, 3) := by decide +kernel
theorem dL_arePatchesRight_232 : decode cL_arePatchesRight 232 = .ok (.iconst 0, 1) := by decide +kernel
theorem dL_arePatchesRight_233 : decode cL_arePatchesRight 233 = .ok (.ireturn, 1) := by decide +kernel
set_option maxRecDepth 20000 in
theorem ggL_areNumbersRight_L_below : GoodIn wsL_areNumbersRight wsL_below := goodIn_r _ [5, 6] (by decide +kernel) (by decide +kernel)
set_option maxRecDepth 20000 in
theorem gL_areNumbersRight_L_below : GoodIn wsL_areNumbersRight (va_wsS RL 18 yL_below wsL_below) := goodIn_app (goodIn_of _ (by decide +kernel)) ggL_areNumbersRight_L_below
set_option maxRecDepth 20000 in
theorem ggL_areNumbersRight_X7_place : GoodIn wsL_areNumbersRight wsX7_place := goodIn_ca (goodIn_r _ [11, 12, 13, 14, 15, 16, 17, 18, 19, 20, 21, 22, 23, 24, 25, 26, 287, 288, 289, 290, 291, 292, 293, 294, 295, 296, 297, 298, 299, 300] (by decide +kernel) (by decide +kernel)) (goodIn_sub (fun _ h => List.mem_cons_of_mem _ (List.mem_append_left _ (List.mem_append_right _ h))) (by decide +kernel))
set_option maxRecDepth 20000 in
theorem gL_areNumbersRight_X7_place : GoodIn wsL_areNumbersRight (wsV RL 109 RX7 yX7_place wsX7_place) := goodIn_app (goodIn_of _ (by decide +kernel)) ggL_areNumbersRight_X7_place
set_option maxRecDepth 20000 in
theorem ggL_areNumbersRight_X7_map : GoodIn wsL_areNumbersRight wsX7_map := goodIn_ca (goodIn_ca (goodIn_r _ [30, 31, 32, 12, 13, 33, 34, 10, 35, 36, 37, 38, 39, 14, 40, 41, 42, 22, 23, 24, 25, 26, 287, 288, 289, 290, 291, 292, 293, 294, 295, 296, 297, 298, 299, 300] (by decide +kernel) (by decide +kernel)) (goodIn_sub (fun _ h => List.mem_cons_of_mem _ (List.mem_append_right _ h)) (by decide +kernel))) (goodIn_sub (fun _ h => List.mem_cons_of_mem _ (List.mem_append_left _ (List.mem_append_right _ h))) (by decide +kernel))
set_option maxRecDepth 20000 in
theorem gL_areNumbersRight_X7_map : GoodIn wsL_areNumbersRight (wsV RL 103 RX7 yX7_map wsX7_map) := goodIn_app (goodIn_of _ (by decide +kernel)) ggL_areNumbersRight_X7_map
set_option maxRecDepth 20000 in
theorem ggL_areNumbersRight_X7_many : GoodIn wsL_areNumbersRight wsX7_many := goodIn_ca (goodIn_r _ [46, 12, 13, 33, 34, 10, 35, 47, 48, 49, 50, 51, 52, 53, 14, 54, 55, 40, 56, 57, 58, 59, 60, 61, 62, 24, 63, 26, 64, 65, 66, 67, 68, 69, 70, 71, 72, 73, 74, 75, 76, 77, 78, 79, 80, 81, 82, 22, 23, 25, 287, 288, 289, 290, 291, 292, 293, 294, 301, 302, 303, 304, 305, 306, 307, 308, 309, 310, 295, 296, 297, 298, 299, 311, 312, 313, 314, 315, 316, 317, 318, 319, 320, 300, 321, 322] (by decide +kernel) (by decide +kernel)) (goodIn_sub (fun _ h => List.mem_cons_of_mem _ (List.mem_append_left _ (List.mem_append_right _ h))) (by decide +kernel))
set_option maxRecDepth 20000 in
theorem gL_areNumbersRight_X7_many : GoodIn wsL_areNumbersRight (wsV RL 64 RX7 yX7_many wsX7_many) := goodIn_app (goodIn_of _ (by decide +kernel)) ggL_areNumbersRight_X7_many
set_option maxRecDepth 20000 in
theorem ggL_areNumbersRight_X7_islandsWith : GoodIn wsL_areNumbersRight wsX7_islandsWith := goodIn_ca (goodIn_r _ [86, 12, 13, 87, 51, 88, 89, 90, 91, 10, 92, 93, 94, 95, 96, 97, 98, 99, 100, 101, 102, 103, 104, 105, 106, 107, 108, 109, 110, 111, 112, 113, 114, 115, 116, 117, 118, 119, 120, 121, 24, 122, 26, 123, 124, 125, 126, 127, 128, 129, 130, 22, 23, 25, 131, 132, 133, 134, 135, 136, 137, 138, 139, 140, 141, 142, 143, 144, 145, 146, 147, 148, 149, 150, 151, 152, 153, 154, 155, 156, 157, 158, 159, 160, 161, 162, 163, 164, 165, 166, 167, 168, 169, 170, 171, 172, 173, 174, 175, 176, 177, 178, 179, 180, 181, 182, 183, 184, 185, 186, 187, 188, 189, 190, 191, 192, 193, 194, 195, 196, 197, 198, 199, 200, 201, 202, 203, 204, 205, 206, 207, 208, 209, 210, 211, 212, 213, 214, 215, 216, 217, 218, 219, 220, 221, 222, 223, 224, 225, 226, 227, 228, 229, 230, 231, 232, 233, 234, 235, 236, 237, 238, 239, 240, 241, 242, 243, 244, 245, 246, 247, 248, 249, 250, 251, 252, 253, 254, 255, 256, 257, 258, 259, 260, 261, 262, 263, 264, 265, 266, 267, 268, 269, 270, 271, 287, 288, 289, 290, 291, 292, 293, 294, 323, 324, 325, 326, 327, 328, 329, 330, 331, 332, 311, 312, 313, 314, 315, 316, 300, 301, 302, 303, 304, 305, 306, 307, 308, 309, 310] (by decide +kernel) (by decide +kernel)) (goodIn_sub (fun _ h => List.mem_cons_of_mem _ (List.mem_append_left _ (List.mem_append_right _ h))) (by decide +kernel))
set_option maxRecDepth 20000 in
theorem gL_areNumbersRight_X7_islandsWith : GoodIn wsL_areNumbersRight (wsV RL 112 RX7 yX7_islandsWith wsX7_islandsWith) := goodIn_app (goodIn_of _ (by decide +kernel)) ggL_areNumbersRight_X7_islandsWith
set_option maxRecDepth 20000 in
theorem ggL_areNumbersRight_X7_faultsWithout : GoodIn wsL_areNumbersRight wsX7_faultsWithout := goodIn_ca (goodIn_r _ [275, 31, 32, 51, 52, 87, 276, 277, 33, 34, 10, 35, 93, 94, 95, 96, 97, 98, 99, 100, 101, 102, 103, 104, 105, 106, 107, 108, 109, 110, 111, 112, 113, 114, 115, 116, 117, 118, 119, 120, 121, 24, 122, 26, 123, 124, 125, 126, 127, 128, 129, 130, 22, 23, 25, 131, 132, 133, 134, 135, 136, 137, 138, 139, 140, 141, 142, 143, 144, 145, 146, 147, 148, 149, 150, 151, 152, 153, 154, 155, 156, 157, 158, 159, 160, 161, 162, 163, 164, 165, 166, 167, 168, 169, 170, 171, 172, 173, 174, 175, 176, 177, 178, 179, 180, 181, 182, 183, 184, 185, 186, 187, 188, 189, 190, 191, 192, 193, 194, 195, 196, 197, 198, 199, 200, 201, 202, 203, 204, 205, 206, 207, 208, 209, 210, 211, 212, 213, 214, 215, 216, 217, 218, 219, 220, 221, 222, 223, 224, 225, 226, 227, 228, 229, 230, 231, 232, 233, 234, 235, 236, 237, 238, 239, 240, 241, 242, 243, 244, 245, 246, 247, 248, 249, 250, 251, 252, 253, 254, 255, 256, 257, 258, 259, 260, 261, 262, 263, 264, 265, 266, 267, 268, 269, 270, 271, 287, 288, 289, 290, 291, 292, 293, 294, 301, 302, 303, 304, 305, 306, 307, 308, 309, 310, 323, 324, 325, 326, 327, 328, 329, 330, 331, 332, 311, 312, 313, 314, 315, 316, 300] (by decide +kernel) (by decide +kernel)) (goodIn_sub (fun _ h => List.mem_cons_of_mem _ (List.mem_append_right _ h)) (by decide +kernel))
set_option maxRecDepth 20000 in
theorem gL_areNumbersRight_X7_faultsWithout : GoodIn wsL_areNumbersRight (wsV RL 115 RX7 yX7_faultsWithout wsX7_faultsWithout) := goodIn_app (goodIn_of _ (by decide +kernel)) ggL_areNumbersRight_X7_faultsWithout
set_option maxRecDepth 20000 in
theorem ggL_areNumbersRight_X7_meanStack : GoodIn wsL_areNumbersRight wsX7_meanStack := goodIn_r _ [281, 56, 64, 65, 66, 67, 68, 69, 70, 61, 62, 24, 63, 26, 282, 283, 284, 285, 286, 22, 23, 25, 287, 288, 289, 290, 291, 292, 293, 294, 321, 322, 300] (by decide +kernel) (by decide +kernel)
set_option maxRecDepth 20000 in
theorem gL_areNumbersRight_X7_meanStack : GoodIn wsL_areNumbersRight (wsV RL 118 RX7 yX7_meanStack wsX7_meanStack) := goodIn_app (goodIn_of _ (by decide +kernel)) ggL_areNumbersRight_X7_meanStack
theorem dL_areNumbersRight_0 : decode cL_areNumbersRight 0 = .ok (.iconst 1, 1) := by decide +kernel
theorem dL_areNumbersRight_1 : decode cL_areNumbersRight 1 = .ok (.iload_n 1, 1) := by decide +kernel
theorem dL_areNumbersRight_2 : decode cL_areNumbersRight 2 = .ok (.iconst 3, 1) := by decide +kernel
theorem dL_areNumbersRight_3 : decode cL_areNumbersRight 3 = .ok (.ishr, 1) := by decide +kernel
theorem dL_areNumbersRight_4 : decode cL_areNumbersRight 4 = .ok (.bipush 60, 2) := by decide +kernel
theorem dL_areNumbersRight_6 : decode cL_areNumbersRight 6 = .ok (.invokestatic 18, 3) := by decide +kernel
theorem dL_areNumbersRight_9 : decode cL_areNumbersRight 9 = .ok (.iadd, 1) := by decide +kernel
theorem dL_areNumbersRight_10 : decode cL_areNumbersRight 10 = .ok (.istore_n 2, 1) := by decide +kernel
theorem dL_areNumbersRight_11 : decode cL_areNumbersRight 11 = .ok (.aload_n 0, 1) := by decide +kernel
theorem dL_areNumbersRight_12 : decode cL_areNumbersRight 12 = .ok (.iload_n 2, 1) := by decide +kernel
theorem dL_areNumbersRight_13 : decode cL_areNumbersRight 13 = .ok (.invokevirtual 109, 3) := by decide +kernel
theorem dL_areNumbersRight_16 : decode cL_areNumbersRight 16 = .ok (.istore_n 3, 1) := by decide +kernel
theorem dL_areNumbersRight_17 : decode cL_areNumbersRight 17 = .ok (.iload_n 3, 1) := by decide +kernel
theorem dL_areNumbersRight_18 : decode cL_areNumbersRight 18 = .ok (.istore 4, 2) := by decide +kernel
theorem dL_areNumbersRight_20 : decode cL_areNumbersRight 20 = .ok (.iload_n 3, 1) := by decide +kernel
theorem dL_areNumbersRight_21 : decode cL_areNumbersRight 21 = .ok (.ifCond .lt 29, 3) := by decide +kernel
theorem dL_areNumbersRight_24 : decode cL_areNumbersRight 24 = .ok (.iload 4, 2) := by decide +kernel
theorem dL_areNumbersRight_26 : decode cL_areNumbersRight 26 = .ok (.iload_n 3, 1) := by decide +kernel
theorem dL_areNumbersRight_27 : decode cL_areNumbersRight 27 = .ok (.iload_n 2, 1) := by decide +kernel
theorem dL_areNumbersRight_28 : decode cL_areNumbersRight 28 = .ok (.iadd, 1) := by decide +kernel
theorem dL_areNumbersRight_29 : decode cL_areNumbersRight 29 = .ok (.if_icmp .ge 21, 3) := by decide +kernel
theorem dL_areNumbersRight_32 : decode cL_areNumbersRight 32 = .ok (.aload_n 0, 1) := by decide +kernel
theorem dL_areNumbersRight_33 : decode cL_areNumbersRight 33 = .ok (.iload 4, 2) := by decide +kernel
theorem dL_areNumbersRight_35 : decode cL_areNumbersRight 35 = .ok (.iconst 0, 1) := by decide +kernel
theorem dL_areNumbersRight_36 : decode cL_areNumbersRight 36 = .ok (.invokevirtual 103, 3) := by decide +kernel
theorem dL_areNumbersRight_39 : decode cL_areNumbersRight 39 = .ok (.ifCond .eq 5, 3) := by decide +kernel
theorem dL_areNumbersRight_42 : decode cL_areNumbersRight 42 = .ok (.iconst 0, 1) := by decide +kernel
theorem dL_areNumbersRight_43 : decode cL_areNumbersRight 43 = .ok (.ireturn, 1) := by decide +kernel
theorem dL_areNumbersRight_44 : decode cL_areNumbersRight 44 = .ok (.iinc 4 1, 3) := by decide +kernel
theorem dL_areNumbersRight_47 : decode cL_areNumbersRight 47 = .ok (.goto (-27), 3) := by decide +kernel
theorem dL_areNumbersRight_50 : decode cL_areNumbersRight 50 = .ok (.iload_n 3, 1) := by decide +kernel
theorem dL_areNumbersRight_51 : decode cL_areNumbersRight 51 = .ok (.ifCond .le 26, 3) := by decide +kernel
theorem dL_areNumbersRight_54 : decode cL_areNumbersRight 54 = .ok (.aload_n 0, 1) := by decide +kernel
theorem dL_areNumbersRight_55 : decode cL_areNumbersRight 55 = .ok (.bipush 9, 2) := by decide +kernel
theorem dL_areNumbersRight_57 : decode cL_areNumbersRight 57 = .ok (.invokevirtual 64, 3) := by decide +kernel
theorem dL_areNumbersRight_60 : decode cL_areNumbersRight 60 = .ok (.iconst 1, 1) := by decide +kernel
theorem dL_areNumbersRight_61 : decode cL_areNumbersRight 61 = .ok (.if_icmp .ne 16, 3) := by decide +kernel
theorem dL_areNumbersRight_64 : decode cL_areNumbersRight 64 = .ok (.aload_n 0, 1) := by decide +kernel
theorem dL_areNumbersRight_65 : decode cL_areNumbersRight 65 = .ok (.iload_n 3, 1) := by decide +kernel
theorem dL_areNumbersRight_66 : decode cL_areNumbersRight 66 = .ok (.iconst 1, 1) := by decide +kernel
theorem dL_areNumbersRight_67 : decode cL_areNumbersRight 67 = .ok (.isub, 1) := by decide +kernel
theorem dL_areNumbersRight_68 : decode cL_areNumbersRight 68 = .ok (.iconst 0, 1) := by decide +kernel
theorem dL_areNumbersRight_69 : decode cL_areNumbersRight 69 = .ok (.invokevirtual 103, 3) := by decide +kernel
theorem dL_areNumbersRight_72 : decode cL_areNumbersRight 72 = .ok (.ifCond .ne 5, 3) := by decide +kernel
theorem dL_areNumbersRight_75 : decode cL_areNumbersRight 75 = .ok (.iconst 0, 1) := by decide +kernel
theorem dL_areNumbersRight_76 : decode cL_areNumbersRight 76 = .ok (.ireturn, 1) := by decide +kernel
theorem dL_areNumbersRight_77 : decode cL_areNumbersRight 77 = .ok (.aload_n 0, 1) := by decide +kernel
theorem dL_areNumbersRight_78 : decode cL_areNumbersRight 78 = .ok (.bipush 100, 2) := by decide +kernel
theorem dL_areNumbersRight_80 : decode cL_areNumbersRight 80 = .ok (.invokevirtual 112, 3) := by decide +kernel
theorem dL_areNumbersRight_83 : decode cL_areNumbersRight 83 = .ok (.ifCond .lt 69, 3) := by decide +kernel
theorem dL_areNumbersRight_86 : decode cL_areNumbersRight 86 = .ok (.aload_n 0, 1) := by decide +kernel
theorem dL_areNumbersRight_87 : decode cL_areNumbersRight 87 = .ok (.iconst 5, 1) := by decide +kernel
theorem dL_areNumbersRight_88 : decode cL_areNumbersRight 88 = .ok (.invokevirtual 112, 3) := by decide +kernel
theorem dL_areNumbersRight_91 : decode cL_areNumbersRight 91 = .ok (.ifCond .lt 61, 3) := by decide +kernel
theorem dL_areNumbersRight_94 : decode cL_areNumbersRight 94 = .ok (.aload_n 0, 1) := by decide +kernel
theorem dL_areNumbersRight_95 : decode cL_areNumbersRight 95 = .ok (.iload_n 1, 1) := by decide +kernel
theorem dL_areNumbersRight_96 : decode cL_areNumbersRight 96 = .ok (.iconst 3, 1) := by decide +kernel
theorem dL_areNumbersRight_97 : decode cL_areNumbersRight 97 = .ok (.invokestatic 18, 3) := by decide +kernel
theorem dL_areNumbersRight_100 : decode cL_areNumbersRight 100 = .ok (.invokevirtual 115, 3) := by decide +kernel
theorem dL_areNumbersRight_103 : decode cL_areNumbersRight 103 = .ok (.ifCond .lt 49, 3) := by decide +kernel
theorem dL_areNumbersRight_106 : decode cL_areNumbersRight 106 = .ok (.aload_n 0, 1) := by decide +kernel
theorem dL_areNumbersRight_107 : decode cL_areNumbersRight 107 = .ok (.bipush 6, 2) := by decide +kernel
theorem dL_areNumbersRight_109 : decode cL_areNumbersRight 109 = .ok (.invokevirtual 64, 3) := by decide +kernel
theorem dL_areNumbersRight_112 : decode cL_areNumbersRight 112 = .ok (.ifCond .ne 7, 3) := by decide +kernel
theorem dL_areNumbersRight_115 : decode cL_areNumbersRight 115 = .ok (.iconst 1, 1) := by decide +kernel
theorem dL_areNumbersRight_116 : decode cL_areNumbersRight 116 = .ok (.goto 4, 3) := by decide +kernel
theorem dL_areNumbersRight_119 : decode cL_areNumbersRight 119 = .ok (.iconst 0, 1) := by decide +kernel
theorem dL_areNumbersRight_120 : decode cL_areNumbersRight 120 = .ok (.aload_n 0, 1) := by decide +kernel
theorem dL_areNumbersRight_121 : decode cL_areNumbersRight 121 = .ok (.invokevirtual 118, 3) := by decide +kernel
theorem dL_areNumbersRight_124 : decode cL_areNumbersRight 124 = .ok (.dconst 0, 1) := by decide +kernel
theorem dL_areNumbersRight_125 : decode cL_areNumbersRight 125 = .ok (.dcmp .l, 1) := by decide +kernel
theorem dL_areNumbersRight_126 : decode cL_areNumbersRight 126 = .ok (.ifCond .ne 7, 3) := by decide +kernel
theorem dL_areNumbersRight_129 : decode cL_areNumbersRight 129 = .ok (.iconst 1, 1) := by decide +kernel
theorem dL_areNumbersRight_130 : decode cL_areNumbersRight 130 = .ok (.goto 4, 3) := by decide +kernel
theorem dL_areNumbersRight_133 : decode cL_areNumbersRight 133 = .ok (.iconst 0, 1) := by decide +kernel
theorem dL_areNumbersRight_134 : decode cL_areNumbersRight 134 = .ok (.if_icmp .ne 18, 3) := by decide +kernel
theorem dL_areNumbersRight_137 : decode cL_areNumbersRight 137 = .ok (.aload_n 0, 1) := by decide +kernel
theorem dL_areNumbersRight_138 : decode cL_areNumbersRight 138 = .ok (.invokevirtual 118, 3) := by decide +kernel
theorem dL_areNumbersRight_141 : decode cL_areNumbersRight 141 = .ok (.ldc2_w 122, 3) := by decide +kernel
theorem dL_areNumbersRight_144 : decode cL_areNumbersRight 144 = .ok (.dcmp .g, 1) := by decide +kernel
theorem dL_areNumbersRight_145 : decode cL_areNumbersRight 145 = .ok (.ifCond .gt 7, 3) := by decide +kernel
theorem dL_areNumbersRight_148 : decode cL_areNumbersRight 148 = .ok (.iconst 1, 1) := by decide +kernel
theorem dL_areNumbersRight_149 : decode cL_areNumbersRight 149 = .ok (.goto 4, 3) := by decide +kernel
theorem dL_areNumbersRight_152 : decode cL_areNumbersRight 152 = .ok (.iconst 0, 1) := by decide +kernel
theorem dL_areNumbersRight_153 : decode cL_areNumbersRight 153 = .ok (.ireturn, 1) := by decide +kernel

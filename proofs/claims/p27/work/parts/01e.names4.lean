theorem dX7_meanStack_23 : decode cX7_meanStack 23 = .ok (.i2d, 1) := by decide +kernel
theorem dX7_meanStack_24 : decode cX7_meanStack 24 = .ok (.ddiv, 1) := by decide +kernel
theorem dX7_meanStack_25 : decode cX7_meanStack 25 = .ok (.dreturn, 1) := by decide +kernel
set_option maxRecDepth 20000 in
theorem ggX7_patch_X7_isSymbol : GoodIn wsX7_patch wsX7_isSymbol := goodIn_r _ [14, 15, 16, 13, 17] (by decide +kernel) (by decide +kernel)
set_option maxRecDepth 20000 in
theorem gX7_patch_X7_isSymbol : GoodIn wsX7_patch (va_wsS RX7 78 yX7_isSymbol wsX7_isSymbol) := goodIn_app (goodIn_of _ (by decide +kernel)) ggX7_patch_X7_isSymbol
set_option maxRecDepth 20000 in
theorem ggX7_patch_X7_isPieceSize : GoodIn wsX7_patch wsX7_isPieceSize := goodIn_r _ [20] (by decide +kernel) (by decide +kernel)
set_option maxRecDepth 20000 in
theorem gX7_patch_X7_isPieceSize : GoodIn wsX7_patch (va_wsS RX7 87 yX7_isPieceSize wsX7_isPieceSize) := goodIn_app (goodIn_of _ (by decide +kernel)) ggX7_patch_X7_isPieceSize
set_option maxRecDepth 20000 in
theorem ggX7_patch_X7_isStanding : GoodIn wsX7_patch wsX7_isStanding := goodIn_r _ [24, 25, 26, 27, 28, 29, 30, 31, 32, 33, 205, 206, 207, 208, 209, 210, 211, 212, 227, 228, 229, 230, 231, 232, 233, 234, 235, 236, 237, 238] (by decide +kernel) (by decide +kernel)
set_option maxRecDepth 20000 in
theorem gX7_patch_X7_isStanding : GoodIn wsX7_patch (wsV RX7 194 RX7 yX7_isStanding wsX7_isStanding) := goodIn_app (goodIn_of _ (by decide +kernel)) ggX7_patch_X7_isStanding
set_option maxRecDepth 20000 in
theorem ggX7_patch_X6_addPiece : GoodIn wsX7_patch wsX6_addPiece := goodIn_r _ [38, 39, 40, 41, 42, 43, 44, 45, 46, 31, 47, 33, 217, 218, 219, 220, 221, 222, 223, 224, 225, 226, 238] (by decide +kernel) (by decide +kernel)
set_option maxRecDepth 20000 in
theorem gX7_patch_X6_addPiece : GoodIn wsX7_patch (wsV RX7 100 RX6 yX6_addPiece wsX6_addPiece) := goodIn_app (goodIn_of _ (by decide +kernel)) ggX7_patch_X6_addPiece
set_option maxRecDepth 20000 in
theorem ggX7_patch_X6_addReference : GoodIn wsX7_patch wsX6_addReference := goodIn_r _ [51, 52, 53, 54, 55, 29, 30, 31, 32, 33, 44, 45, 46, 47, 56, 57, 58, 59, 60, 61, 217, 218, 219, 220, 221, 222, 223, 224, 225, 226, 238] (by decide +kernel) (by decide +kernel)
set_option maxRecDepth 20000 in
theorem gX7_patch_X6_addReference : GoodIn wsX7_patch (wsV RX7 127 RX6 yX6_addReference wsX6_addReference) := goodIn_app (goodIn_of _ (by decide +kernel)) ggX7_patch_X6_addReference
set_option maxRecDepth 20000 in
theorem ggX7_patch_X3_add : GoodIn wsX7_patch wsX3_add := goodIn_r _ [66, 67, 68, 69, 70, 71, 45, 46, 31, 47, 33, 213, 214, 215, 216, 238] (by decide +kernel) (by decide +kernel)
set_option maxRecDepth 20000 in
theorem gX7_patch_X3_add : GoodIn wsX7_patch (wsV RX7 250 RX3 yX3_add wsX3_add) := goodIn_app (goodIn_of _ (by decide +kernel)) ggX7_patch_X3_add
set_option maxRecDepth 20000 in
theorem ggX7_patch_X7_carryOutPatches : GoodIn wsX7_patch wsX7_carryOutPatches := goodIn_r _ [75, 7, 8, 76, 77, 78, 13, 79, 80, 81, 82, 65, 83, 68, 70, 84, 29, 30, 31, 32, 33, 85, 86, 87, 88, 69, 89, 90, 91, 92, 93, 9, 94, 25, 26, 27, 95, 96, 97, 98, 99, 100, 101, 102, 67, 28, 103, 104, 105, 106, 107, 108, 109, 110, 111, 112, 113, 114, 115, 116, 117, 118, 119, 120, 121, 122, 123, 124, 125, 126, 127, 128, 129, 130, 131, 132, 133, 134, 135, 136, 137, 138, 139, 140, 141, 142, 143, 144, 145, 146, 147, 148, 149, 150, 151, 152, 153, 154, 155, 156, 157, 158, 159, 160, 161, 162, 163, 164, 45, 46, 47, 165, 166, 167, 168, 169, 170, 171, 172, 173, 174, 175, 176, 177, 178, 179, 37, 180, 54, 55, 181, 182, 183, 184, 53, 185, 186, 187, 188, 189, 190, 191, 192, 193, 194, 195, 196, 197, 198, 199, 200, 201, 202, 203, 204, 71, 205, 206, 207, 208, 209, 210, 211, 212, 213, 214, 215, 216, 238, 227, 228, 229, 230, 231, 232, 233, 234, 235, 236, 237, 217, 218, 219, 220, 221, 222, 223, 224, 225, 226, 239, 240] (by decide +kernel) (by decide +kernel)
set_option maxRecDepth 20000 in
theorem gX7_patch_X7_carryOutPatches : GoodIn wsX7_patch (wsV RX7 233 RX7 yX7_carryOutPatches wsX7_carryOutPatches) := goodIn_app (goodIn_of _ (by decide +kernel)) ggX7_patch_X7_carryOutPatches
theorem dX7_patch_0 : decode cX7_patch 0 = .ok (.iload_n 1, 1) := by decide +kernel
theorem dX7_patch_1 : decode cX7_patch 1 = .ok (.invokestatic 78, 3) := by decide +kernel
theorem dX7_patch_4 : decode cX7_patch 4 = .ok (.ifCond .eq 17, 3) := by decide +kernel
theorem dX7_patch_7 : decode cX7_patch 7 = .ok (.iload 4, 2) := by decide +kernel
theorem dX7_patch_9 : decode cX7_patch 9 = .ok (.iconst (-1), 1) := by decide +kernel
theorem dX7_patch_10 : decode cX7_patch 10 = .ok (.if_icmp .eq 21, 3) := by decide +kernel
theorem dX7_patch_13 : decode cX7_patch 13 = .ok (.iload 4, 2) := by decide +kernel
theorem dX7_patch_15 : decode cX7_patch 15 = .ok (.invokestatic 78, 3) := by decide +kernel
theorem dX7_patch_18 : decode cX7_patch 18 = .ok (.ifCond .ne 13, 3) := by decide +kernel
theorem dX7_patch_21 : decode cX7_patch 21 = .ok (.new 82, 3) := by decide +kernel
theorem dX7_patch_24 : decode cX7_patch 24 = .ok (.dup, 1) := by decide +kernel
theorem dX7_patch_25 : decode cX7_patch 25 = .ok (.ldc 165, 2) := by decide +kernel
theorem dX7_patch_27 : decode cX7_patch 27 = .ok (.invokespecial 86, 3) := by decide +kernel
theorem dX7_patch_30 : decode cX7_patch 30 = .ok (.athrow, 1) := by decide +kernel
theorem dX7_patch_31 : decode cX7_patch 31 = .ok (.iload_n 2, 1) := by decide +kernel
theorem dX7_patch_32 : decode cX7_patch 32 = .ok (.invokestatic 87, 3) := by decide +kernel
theorem dX7_patch_35 : decode cX7_patch 35 = .ok (.ifCond .eq 12, 3) := by decide +kernel
theorem dX7_patch_38 : decode cX7_patch 38 = .ok (.iload_n 3, 1) := by decide +kernel
theorem dX7_patch_39 : decode cX7_patch 39 = .ok (.ifCond .lt 8, 3) := by decide +kernel
theorem dX7_patch_42 : decode cX7_patch 42 = .ok (.iload_n 3, 1) := by decide +kernel
theorem dX7_patch_43 : decode cX7_patch 43 = .ok (.iconst 3, 1) := by decide +kernel
theorem dX7_patch_44 : decode cX7_patch 44 = .ok (.if_icmp .le 13, 3) := by decide +kernel
theorem dX7_patch_47 : decode cX7_patch 47 = .ok (.new 90, 3) := by decide +kernel
theorem dX7_patch_50 : decode cX7_patch 50 = .ok (.dup, 1) := by decide +kernel
theorem dX7_patch_51 : decode cX7_patch 51 = .ok (.ldc 244, 2) := by decide +kernel
theorem dX7_patch_53 : decode cX7_patch 53 = .ok (.invokespecial 94, 3) := by decide +kernel
theorem dX7_patch_56 : decode cX7_patch 56 = .ok (.athrow, 1) := by decide +kernel
theorem dX7_patch_57 : decode cX7_patch 57 = .ok (.aload_n 0, 1) := by decide +kernel
theorem dX7_patch_58 : decode cX7_patch 58 = .ok (.iload_n 1, 1) := by decide +kernel
theorem dX7_patch_59 : decode cX7_patch 59 = .ok (.invokevirtual 194, 3) := by decide +kernel
theorem dX7_patch_62 : decode cX7_patch 62 = .ok (.ifCond .eq 42, 3) := by decide +kernel
theorem dX7_patch_65 : decode cX7_patch 65 = .ok (.iload 4, 2) := by decide +kernel
theorem dX7_patch_67 : decode cX7_patch 67 = .ok (.iconst (-1), 1) := by decide +kernel
theorem dX7_patch_68 : decode cX7_patch 68 = .ok (.if_icmp .eq 12, 3) := by decide +kernel
theorem dX7_patch_71 : decode cX7_patch 71 = .ok (.aload_n 0, 1) := by decide +kernel
theorem dX7_patch_72 : decode cX7_patch 72 = .ok (.iload 4, 2) := by decide +kernel
theorem dX7_patch_74 : decode cX7_patch 74 = .ok (.invokevirtual 194, 3) := by decide +kernel
theorem dX7_patch_77 : decode cX7_patch 77 = .ok (.ifCond .eq 27, 3) := by decide +kernel
theorem dX7_patch_80 : decode cX7_patch 80 = .ok (.aload_n 0, 1) := by decide +kernel
theorem dX7_patch_81 : decode cX7_patch 81 = .ok (.getfield 43, 3) := by decide +kernel
theorem dX7_patch_84 : decode cX7_patch 84 = .ok (.getfield 246, 3) := by decide +kernel
theorem dX7_patch_87 : decode cX7_patch 87 = .ok (.bipush 8, 2) := by decide +kernel
theorem dX7_patch_89 : decode cX7_patch 89 = .ok (.if_icmp .ge 15, 3) := by decide +kernel
theorem dX7_patch_92 : decode cX7_patch 92 = .ok (.aload_n 0, 1) := by decide +kernel
theorem dX7_patch_93 : decode cX7_patch 93 = .ok (.getfield 12, 3) := by decide +kernel
theorem dX7_patch_96 : decode cX7_patch 96 = .ok (.getfield 95, 3) := by decide +kernel
theorem dX7_patch_99 : decode cX7_patch 99 = .ok (.bipush 40, 2) := by decide +kernel
theorem dX7_patch_101 : decode cX7_patch 101 = .ok (.if_icmp .lt 13, 3) := by decide +kernel
theorem dX7_patch_104 : decode cX7_patch 104 = .ok (.new 63, 3) := by decide +kernel
theorem dX7_patch_107 : decode cX7_patch 107 = .ok (.dup, 1) := by decide +kernel
theorem dX7_patch_108 : decode cX7_patch 108 = .ok (.ldc 248, 2) := by decide +kernel
theorem dX7_patch_110 : decode cX7_patch 110 = .ok (.invokespecial 67, 3) := by decide +kernel
theorem dX7_patch_113 : decode cX7_patch 113 = .ok (.athrow, 1) := by decide +kernel
theorem dX7_patch_114 : decode cX7_patch 114 = .ok (.aload_n 0, 1) := by decide +kernel
theorem dX7_patch_115 : decode cX7_patch 115 = .ok (.getfield 12, 3) := by decide +kernel
theorem dX7_patch_118 : decode cX7_patch 118 = .ok (.iconst (-1), 1) := by decide +kernel
theorem dX7_patch_119 : decode cX7_patch 119 = .ok (.iload_n 1, 1) := by decide +kernel
theorem dX7_patch_120 : decode cX7_patch 120 = .ok (.iload_n 2, 1) := by decide +kernel
theorem dX7_patch_121 : decode cX7_patch 121 = .ok (.iconst 1, 1) := by decide +kernel
theorem dX7_patch_122 : decode cX7_patch 122 = .ok (.invokevirtual 100, 3) := by decide +kernel
theorem dX7_patch_125 : decode cX7_patch 125 = .ok (.istore 5, 2) := by decide +kernel
theorem dX7_patch_127 : decode cX7_patch 127 = .ok (.iload 4, 2) := by decide +kernel
theorem dX7_patch_129 : decode cX7_patch 129 = .ok (.iconst (-1), 1) := by decide +kernel
theorem dX7_patch_130 : decode cX7_patch 130 = .ok (.if_icmp .eq 16, 3) := by decide +kernel
theorem dX7_patch_133 : decode cX7_patch 133 = .ok (.aload_n 0, 1) := by decide +kernel
theorem dX7_patch_134 : decode cX7_patch 134 = .ok (.getfield 12, 3) := by decide +kernel
theorem dX7_patch_137 : decode cX7_patch 137 = .ok (.iload 5, 2) := by decide +kernel
theorem dX7_patch_139 : decode cX7_patch 139 = .ok (.iload 4, 2) := by decide +kernel
theorem dX7_patch_141 : decode cX7_patch 141 = .ok (.iconst 0, 1) := by decide +kernel
theorem dX7_patch_142 : decode cX7_patch 142 = .ok (.invokevirtual 127, 3) := by decide +kernel
theorem dX7_patch_145 : decode cX7_patch 145 = .ok (.pop, 1) := by decide +kernel
theorem dX7_patch_146 : decode cX7_patch 146 = .ok (.aload_n 0, 1) := by decide +kernel
theorem dX7_patch_147 : decode cX7_patch 147 = .ok (.getfield 43, 3) := by decide +kernel
theorem dX7_patch_150 : decode cX7_patch 150 = .ok (.iload 5, 2) := by decide +kernel
theorem dX7_patch_152 : decode cX7_patch 152 = .ok (.iload_n 3, 1) := by decide +kernel
theorem dX7_patch_153 : decode cX7_patch 153 = .ok (.invokevirtual 250, 3) := by decide +kernel
theorem dX7_patch_156 : decode cX7_patch 156 = .ok (.istore 6, 2) := by decide +kernel
theorem dX7_patch_158 : decode cX7_patch 158 = .ok (.aload_n 0, 1) := by decide +kernel
theorem dX7_patch_159 : decode cX7_patch 159 = .ok (.invokevirtual 233, 3) := by decide +kernel
theorem dX7_patch_162 : decode cX7_patch 162 = .ok (.iload 6, 2) := by decide +kernel
theorem dX7_patch_164 : decode cX7_patch 164 = .ok (.ireturn, 1) := by decide +kernel
set_option maxRecDepth 20000 in
theorem ggX7_gate_X7_isSymbol : GoodIn wsX7_gate wsX7_isSymbol := goodIn_r _ [7, 8, 9, 6, 10] (by decide +kernel) (by decide +kernel)
set_option maxRecDepth 20000 in
theorem gX7_gate_X7_isSymbol : GoodIn wsX7_gate (va_wsS RX7 78 yX7_isSymbol wsX7_isSymbol) := goodIn_app (goodIn_of _ (by decide +kernel)) ggX7_gate_X7_isSymbol
set_option maxRecDepth 20000 in
theorem ggX7_gate_X4_get : GoodIn wsX7_gate wsX4_get := goodIn_r _ [15, 16, 29] (by decide +kernel) (by decide +kernel)
set_option maxRecDepth 20000 in
theorem gX7_gate_X4_get : GoodIn wsX7_gate (wsV RX7 109 RX4 yX4_get wsX4_get) := goodIn_app (goodIn_of _ (by decide +kernel)) ggX7_gate_X4_get
set_option maxRecDepth 20000 in
theorem ggX7_gate_X4_set : GoodIn wsX7_gate wsX4_set := goodIn_r _ [20, 16, 29] (by decide +kernel) (by decide +kernel)
set_option maxRecDepth 20000 in
theorem gX7_gate_X4_set : GoodIn wsX7_gate (wsV RX7 253 RX4 yX4_set wsX4_set) := goodIn_app (goodIn_of _ (by decide +kernel)) ggX7_gate_X4_set
theorem dX7_gate_0 : decode cX7_gate 0 = .ok (.iload_n 1, 1) := by decide +kernel
theorem dX7_gate_1 : decode cX7_gate 1 = .ok (.invokestatic 78, 3) := by decide +kernel
theorem dX7_gate_4 : decode cX7_gate 4 = .ok (.ifCond .ne 13, 3) := by decide +kernel
theorem dX7_gate_7 : decode cX7_gate 7 = .ok (.new 82, 3) := by decide +kernel
theorem dX7_gate_10 : decode cX7_gate 10 = .ok (.dup, 1) := by decide +kernel
theorem dX7_gate_11 : decode cX7_gate 11 = .ok (.ldc 165, 2) := by decide +kernel
theorem dX7_gate_13 : decode cX7_gate 13 = .ok (.invokespecial 86, 3) := by decide +kernel
theorem dX7_gate_16 : decode cX7_gate 16 = .ok (.athrow, 1) := by decide +kernel
theorem dX7_gate_17 : decode cX7_gate 17 = .ok (.aload_n 0, 1) := by decide +kernel
theorem dX7_gate_18 : decode cX7_gate 18 = .ok (.getfield 52, 3) := by decide +kernel
theorem dX7_gate_21 : decode cX7_gate 21 = .ok (.iload_n 1, 1) := by decide +kernel
theorem dX7_gate_22 : decode cX7_gate 22 = .ok (.invokevirtual 109, 3) := by decide +kernel
theorem dX7_gate_25 : decode cX7_gate 25 = .ok (.iconst 1, 1) := by decide +kernel
theorem dX7_gate_26 : decode cX7_gate 26 = .ok (.if_icmp .ne 7, 3) := by decide +kernel
theorem dX7_gate_29 : decode cX7_gate 29 = .ok (.iconst 1, 1) := by decide +kernel
theorem dX7_gate_30 : decode cX7_gate 30 = .ok (.goto 4, 3) := by decide +kernel
theorem dX7_gate_33 : decode cX7_gate 33 = .ok (.iconst 0, 1) := by decide +kernel
theorem dX7_gate_34 : decode cX7_gate 34 = .ok (.istore_n 3, 1) := by decide +kernel
theorem dX7_gate_35 : decode cX7_gate 35 = .ok (.aload_n 0, 1) := by decide +kernel
theorem dX7_gate_36 : decode cX7_gate 36 = .ok (.getfield 52, 3) := by decide +kernel
theorem dX7_gate_39 : decode cX7_gate 39 = .ok (.iload_n 1, 1) := by decide +kernel
theorem dX7_gate_40 : decode cX7_gate 40 = .ok (.iload_n 2, 1) := by decide +kernel
theorem dX7_gate_41 : decode cX7_gate 41 = .ok (.ifCond .eq 7, 3) := by decide +kernel
theorem dX7_gate_44 : decode cX7_gate 44 = .ok (.iconst 1, 1) := by decide +kernel
theorem dX7_gate_45 : decode cX7_gate 45 = .ok (.goto 4, 3) := by decide +kernel
theorem dX7_gate_48 : decode cX7_gate 48 = .ok (.iconst 0, 1) := by decide +kernel
theorem dX7_gate_49 : decode cX7_gate 49 = .ok (.invokevirtual 253, 3) := by decide +kernel
theorem dX7_gate_52 : decode cX7_gate 52 = .ok (.iload_n 3, 1) := by decide +kernel
theorem dX7_gate_53 : decode cX7_gate 53 = .ok (.ireturn, 1) := by decide +kernel
set_option maxRecDepth 20000 in
theorem ggX7_ofPatch_X7_isWithin : GoodIn wsX7_ofPatch wsX7_isWithin := goodIn_r _ [10] (by decide +kernel) (by decide +kernel)
set_option maxRecDepth 20000 in
theorem gX7_ofPatch_X7_isWithin : GoodIn wsX7_ofPatch (va_wsS RX7 74 yX7_isWithin wsX7_isWithin) := goodIn_app (goodIn_of _ (by decide +kernel)) ggX7_ofPatch_X7_isWithin
set_option maxRecDepth 20000 in
theorem ggX7_ofPatch_X7_tellPatch : GoodIn wsX7_ofPatch wsX7_tellPatch := goodIn_r _ [14, 15, 16, 5, 17, 18, 19, 20, 21, 22, 23, 24, 25, 26, 27, 28, 29, 30, 31, 32, 33, 38, 39, 40, 41, 42, 43, 44, 45, 46, 47, 34, 35, 36, 37, 48] (by decide +kernel) (by decide +kernel)
set_option maxRecDepth 20000 in
theorem gX7_ofPatch_X7_tellPatch : GoodIn wsX7_ofPatch (wsV RX7 258 RX7 yX7_tellPatch wsX7_tellPatch) := goodIn_app (goodIn_of _ (by decide +kernel)) ggX7_ofPatch_X7_tellPatch
theorem dX7_ofPatch_0 : decode cX7_ofPatch 0 = .ok (.iload_n 1, 1) := by decide +kernel
theorem dX7_ofPatch_1 : decode cX7_ofPatch 1 = .ok (.aload_n 0, 1) := by decide +kernel
theorem dX7_ofPatch_2 : decode cX7_ofPatch 2 = .ok (.getfield 43, 3) := by decide +kernel
theorem dX7_ofPatch_5 : decode cX7_ofPatch 5 = .ok (.getfield 246, 3) := by decide +kernel
theorem dX7_ofPatch_8 : decode cX7_ofPatch 8 = .ok (.invokestatic 74, 3) := by decide +kernel
theorem dX7_ofPatch_11 : decode cX7_ofPatch 11 = .ok (.ifCond .ne 14, 3) := by decide +kernel
theorem dX7_ofPatch_14 : decode cX7_ofPatch 14 = .ok (.new 82, 3) := by decide +kernel
theorem dX7_ofPatch_17 : decode cX7_ofPatch 17 = .ok (.dup, 1) := by decide +kernel
theorem dX7_ofPatch_18 : decode cX7_ofPatch 18 = .ok (.ldc_w 256, 3) := by decide +kernel
theorem dX7_ofPatch_21 : decode cX7_ofPatch 21 = .ok (.invokespecial 86, 3) := by decide +kernel
theorem dX7_ofPatch_24 : decode cX7_ofPatch 24 = .ok (.athrow, 1) := by decide +kernel
theorem dX7_ofPatch_25 : decode cX7_ofPatch 25 = .ok (.iload_n 2, 1) := by decide +kernel
theorem dX7_ofPatch_26 : decode cX7_ofPatch 26 = .ok (.iconst 4, 1) := by decide +kernel
theorem dX7_ofPatch_27 : decode cX7_ofPatch 27 = .ok (.invokestatic 74, 3) := by decide +kernel
theorem dX7_ofPatch_30 : decode cX7_ofPatch 30 = .ok (.ifCond .ne 13, 3) := by decide +kernel
theorem dX7_ofPatch_33 : decode cX7_ofPatch 33 = .ok (.new 90, 3) := by decide +kernel
theorem dX7_ofPatch_36 : decode cX7_ofPatch 36 = .ok (.dup, 1) := by decide +kernel
theorem dX7_ofPatch_37 : decode cX7_ofPatch 37 = .ok (.ldc 167, 2) := by decide +kernel
theorem dX7_ofPatch_39 : decode cX7_ofPatch 39 = .ok (.invokespecial 94, 3) := by decide +kernel
theorem dX7_ofPatch_42 : decode cX7_ofPatch 42 = .ok (.athrow, 1) := by decide +kernel
theorem dX7_ofPatch_43 : decode cX7_ofPatch 43 = .ok (.aload_n 0, 1) := by decide +kernel
theorem dX7_ofPatch_44 : decode cX7_ofPatch 44 = .ok (.iload_n 1, 1) := by decide +kernel
theorem dX7_ofPatch_45 : decode cX7_ofPatch 45 = .ok (.iload_n 2, 1) := by decide +kernel
theorem dX7_ofPatch_46 : decode cX7_ofPatch 46 = .ok (.invokevirtual 258, 3) := by decide +kernel
theorem dX7_ofPatch_49 : decode cX7_ofPatch 49 = .ok (.ireturn, 1) := by decide +kernel
set_option maxRecDepth 20000 in
theorem ggX7_backsFor_X3_isWaiting : GoodIn wsX7_backsFor wsX3_isWaiting := goodIn_r _ [15, 16, 17, 18, 19, 20, 21, 22, 23, 55, 56, 57, 58, 70] (by decide +kernel) (by decide +kernel)
set_option maxRecDepth 20000 in
theorem gX7_backsFor_X3_isWaiting : GoodIn wsX7_backsFor (wsV RX7 261 RX3 yX3_isWaiting wsX3_isWaiting) := goodIn_app (goodIn_of _ (by decide +kernel)) ggX7_backsFor_X3_isWaiting
set_option maxRecDepth 20000 in
theorem ggX7_backsFor_X4_get : GoodIn wsX7_backsFor wsX4_get := goodIn_r _ [22, 23, 70] (by decide +kernel) (by decide +kernel)
set_option maxRecDepth 20000 in
theorem gX7_backsFor_X4_get : GoodIn wsX7_backsFor (wsV RX7 109 RX4 yX4_get wsX4_get) := goodIn_app (goodIn_of _ (by decide +kernel)) ggX7_backsFor_X4_get
set_option maxRecDepth 20000 in
theorem ggX7_backsFor_X5_backsTillWithout : GoodIn wsX7_backsFor wsX5_backsTillWithout := goodIn_r _ [29, 30, 31, 32, 28, 33, 34, 35, 36, 19, 20, 21, 22, 23, 71, 72, 70] (by decide +kernel) (by decide +kernel)
set_option maxRecDepth 20000 in
theorem gX7_backsFor_X5_backsTillWithout : GoodIn wsX7_backsFor (wsV RX7 272 RX5 yX5_backsTillWithout wsX5_backsTillWithout) := goodIn_app (goodIn_of _ (by decide +kernel)) ggX7_backsFor_X5_backsTillWithout
theorem dX7_backsFor_0 : decode cX7_backsFor 0 = .ok (.aload_n 0, 1) := by decide +kernel
theorem dX7_backsFor_1 : decode cX7_backsFor 1 = .ok (.getfield 43, 3) := by decide +kernel
theorem dX7_backsFor_4 : decode cX7_backsFor 4 = .ok (.iload_n 1, 1) := by decide +kernel
theorem dX7_backsFor_5 : decode cX7_backsFor 5 = .ok (.invokevirtual 261, 3) := by decide +kernel
theorem dX7_backsFor_8 : decode cX7_backsFor 8 = .ok (.ifCond .ne 14, 3) := by decide +kernel
theorem dX7_backsFor_11 : decode cX7_backsFor 11 = .ok (.new 82, 3) := by decide +kernel
theorem dX7_backsFor_14 : decode cX7_backsFor 14 = .ok (.dup, 1) := by decide +kernel
theorem dX7_backsFor_15 : decode cX7_backsFor 15 = .ok (.ldc_w 264, 3) := by decide +kernel
theorem dX7_backsFor_18 : decode cX7_backsFor 18 = .ok (.invokespecial 86, 3) := by decide +kernel
theorem dX7_backsFor_21 : decode cX7_backsFor 21 = .ok (.athrow, 1) := by decide +kernel
theorem dX7_backsFor_22 : decode cX7_backsFor 22 = .ok (.aload_n 0, 1) := by decide +kernel
theorem dX7_backsFor_23 : decode cX7_backsFor 23 = .ok (.getfield 12, 3) := by decide +kernel
theorem dX7_backsFor_26 : decode cX7_backsFor 26 = .ok (.getfield 266, 3) := by decide +kernel
theorem dX7_backsFor_29 : decode cX7_backsFor 29 = .ok (.aload_n 0, 1) := by decide +kernel
theorem dX7_backsFor_30 : decode cX7_backsFor 30 = .ok (.getfield 43, 3) := by decide +kernel
theorem dX7_backsFor_33 : decode cX7_backsFor 33 = .ok (.getfield 269, 3) := by decide +kernel
theorem dX7_backsFor_36 : decode cX7_backsFor 36 = .ok (.iload_n 1, 1) := by decide +kernel
theorem dX7_backsFor_37 : decode cX7_backsFor 37 = .ok (.invokevirtual 109, 3) := by decide +kernel
theorem dX7_backsFor_40 : decode cX7_backsFor 40 = .ok (.invokevirtual 109, 3) := by decide +kernel
theorem dX7_backsFor_43 : decode cX7_backsFor 43 = .ok (.istore_n 2, 1) := by decide +kernel
theorem dX7_backsFor_44 : decode cX7_backsFor 44 = .ok (.aload_n 0, 1) := by decide +kernel
theorem dX7_backsFor_45 : decode cX7_backsFor 45 = .ok (.getfield 36, 3) := by decide +kernel
theorem dX7_backsFor_48 : decode cX7_backsFor 48 = .ok (.aload_n 0, 1) := by decide +kernel
theorem dX7_backsFor_49 : decode cX7_backsFor 49 = .ok (.getfield 26, 3) := by decide +kernel
theorem dX7_backsFor_52 : decode cX7_backsFor 52 = .ok (.getfield 116, 3) := by decide +kernel
theorem dX7_backsFor_55 : decode cX7_backsFor 55 = .ok (.getfield 205, 3) := by decide +kernel
theorem dX7_backsFor_58 : decode cX7_backsFor 58 = .ok (.iload_n 2, 1) := by decide +kernel
theorem dX7_backsFor_59 : decode cX7_backsFor 59 = .ok (.invokevirtual 109, 3) := by decide +kernel
theorem dX7_backsFor_62 : decode cX7_backsFor 62 = .ok (.invokevirtual 272, 3) := by decide +kernel
theorem dX7_backsFor_65 : decode cX7_backsFor 65 = .ok (.ireturn, 1) := by decide +kernel
set_option maxRecDepth 20000 in
theorem ggX7_islandsWith_X7_isReach : GoodIn wsX7_islandsWith wsX7_isReach := goodIn_r _ [10] (by decide +kernel) (by decide +kernel)
set_option maxRecDepth 20000 in
theorem gX7_islandsWith_X7_isReach : GoodIn wsX7_islandsWith (va_wsS RX7 131 yX7_isReach wsX7_isReach) := goodIn_app (goodIn_of _ (by decide +kernel)) ggX7_islandsWith_X7_isReach
set_option maxRecDepth 20000 in
theorem ggX7_islandsWith_X2_attempt : GoodIn wsX7_islandsWith wsX2_attempt := goodIn_r _ [15, 16, 17, 18, 19, 20, 14, 21, 22, 23, 24, 25, 26, 27, 28, 29, 30, 31, 32, 33, 34, 35, 36, 37, 38, 39, 40, 41, 42, 43, 44, 45, 46, 47, 48, 49, 50, 51, 52, 53, 54, 55, 56, 57, 58, 59, 60, 61, 62, 63, 64, 65, 66, 67, 68, 69, 70, 71, 72, 73, 74, 75, 76, 77, 78, 79, 80, 81, 82, 83, 84, 85, 86, 87, 88, 89, 90, 91, 92, 93, 94, 95, 96, 97, 98, 99, 100, 101, 102, 103, 104, 105, 106, 107, 108, 109, 110, 111, 112, 113, 114, 115, 116, 117, 118, 119, 120, 121, 122, 123, 124, 125, 126, 127, 128, 129, 130, 131, 132, 133, 134, 135, 136, 137, 138, 139, 140, 141, 142, 143, 144, 145, 146, 147, 148, 149, 150, 151, 152, 153, 154, 155, 156, 157, 158, 159, 160, 161, 162, 163, 164, 165, 166, 167, 168, 169, 170, 171, 172, 173, 174, 175, 176, 177, 178, 179, 180, 181, 182, 183, 184, 185, 186, 187, 188, 189, 190, 191, 192, 193, 194, 203, 204, 205, 206, 207, 208, 209, 210, 211, 212, 213, 214, 215, 216, 217, 218, 219, 220, 221, 222, 223, 224, 225, 226, 227, 228, 229] (by decide +kernel) (by decide +kernel)
set_option maxRecDepth 20000 in
theorem gX7_islandsWith_X2_attempt : GoodIn wsX7_islandsWith (wsV RX7 142 RX2 yX2_attempt wsX2_attempt) := goodIn_app (goodIn_of _ (by decide +kernel)) ggX7_islandsWith_X2_attempt
theorem dX7_islandsWith_0 : decode cX7_islandsWith 0 = .ok (.iload_n 1, 1) := by decide +kernel
theorem dX7_islandsWith_1 : decode cX7_islandsWith 1 = .ok (.invokestatic 131, 3) := by decide +kernel
theorem dX7_islandsWith_4 : decode cX7_islandsWith 4 = .ok (.ifCond .ne 13, 3) := by decide +kernel
theorem dX7_islandsWith_7 : decode cX7_islandsWith 7 = .ok (.new 90, 3) := by decide +kernel
theorem dX7_islandsWith_10 : decode cX7_islandsWith 10 = .ok (.dup, 1) := by decide +kernel
theorem dX7_islandsWith_11 : decode cX7_islandsWith 11 = .ok (.ldc 134, 2) := by decide +kernel
theorem dX7_islandsWith_13 : decode cX7_islandsWith 13 = .ok (.invokespecial 94, 3) := by decide +kernel
theorem dX7_islandsWith_16 : decode cX7_islandsWith 16 = .ok (.athrow, 1) := by decide +kernel
theorem dX7_islandsWith_17 : decode cX7_islandsWith 17 = .ok (.aload_n 0, 1) := by decide +kernel
theorem dX7_islandsWith_18 : decode cX7_islandsWith 18 = .ok (.getfield 19, 3) := by decide +kernel
theorem dX7_islandsWith_21 : decode cX7_islandsWith 21 = .ok (.aload_n 0, 1) := by decide +kernel
theorem dX7_islandsWith_22 : decode cX7_islandsWith 22 = .ok (.getfield 12, 3) := by decide +kernel
theorem dX7_islandsWith_25 : decode cX7_islandsWith 25 = .ok (.iload_n 1, 1) := by decide +kernel
theorem dX7_islandsWith_26 : decode cX7_islandsWith 26 = .ok (.iconst (-1), 1) := by decide +kernel
theorem dX7_islandsWith_27 : decode cX7_islandsWith 27 = .ok (.invokevirtual 142, 3) := by decide +kernel
theorem dX7_islandsWith_30 : decode cX7_islandsWith 30 = .ok (.aload_n 0, 1) := by decide +kernel
theorem dX7_islandsWith_31 : decode cX7_islandsWith 31 = .ok (.getfield 19, 3) := by decide +kernel
theorem dX7_islandsWith_34 : decode cX7_islandsWith 34 = .ok (.getfield 149, 3) := by decide +kernel
theorem dX7_islandsWith_37 : decode cX7_islandsWith 37 = .ok (.getfield 275, 3) := by decide +kernel
theorem dX7_islandsWith_40 : decode cX7_islandsWith 40 = .ok (.ireturn, 1) := by decide +kernel
set_option maxRecDepth 20000 in
theorem ggX7_faultsWithout_X7_isWithin : GoodIn wsX7_faultsWithout wsX7_isWithin := goodIn_r _ [11] (by decide +kernel) (by decide +kernel)
set_option maxRecDepth 20000 in
theorem gX7_faultsWithout_X7_isWithin : GoodIn wsX7_faultsWithout (va_wsS RX7 74 yX7_isWithin wsX7_isWithin) := goodIn_app (goodIn_of _ (by decide +kernel)) ggX7_faultsWithout_X7_isWithin
set_option maxRecDepth 20000 in
theorem ggX7_faultsWithout_X2_attempt : GoodIn wsX7_faultsWithout wsX2_attempt := goodIn_r _ [16, 17, 18, 19, 20, 21, 15, 22, 23, 24, 25, 26, 27, 28, 29, 30, 31, 32, 33, 34, 35, 36, 37, 38, 39, 40, 41, 42, 43, 44, 45, 46, 47, 48, 49, 50, 51, 52, 53, 54, 55, 56, 57, 58, 59, 60, 61, 62, 63, 64, 65, 66, 67, 68, 69, 70, 71, 72, 73, 74, 75, 76, 77, 78, 79, 80, 81, 82, 83, 84, 85, 86, 87, 88, 89, 90, 91, 92, 93, 94, 95, 96, 97, 98, 99, 100, 101, 102, 103, 104, 105, 106, 107, 108, 109, 110, 111, 112, 113, 114, 115, 116, 117, 118, 119, 120, 121, 122, 123, 124, 125, 126, 127, 128, 129, 130, 131, 132, 133, 134, 135, 136, 137, 138, 139, 140, 141, 142, 143, 144, 145, 146, 147, 148, 149, 150, 151, 152, 153, 154, 155, 156, 157, 158, 159, 160, 161, 162, 163, 164, 165, 166, 167, 168, 169, 170, 171, 172, 173, 174, 175, 176, 177, 178, 179, 180, 181, 182, 183, 184, 185, 186, 187, 188, 189, 190, 191, 192, 193, 194, 195, 214, 215, 216, 217, 218, 219, 220, 221, 222, 223, 224, 225, 226, 227, 228, 229, 230, 204, 205, 206, 207, 208, 209, 210, 211, 212, 213] (by decide +kernel) (by decide +kernel)
set_option maxRecDepth 20000 in
theorem gX7_faultsWithout_X2_attempt : GoodIn wsX7_faultsWithout (wsV RX7 142 RX2 yX2_attempt wsX2_attempt) := goodIn_app (goodIn_of _ (by decide +kernel)) ggX7_faultsWithout_X2_attempt
theorem dX7_faultsWithout_0 : decode cX7_faultsWithout 0 = .ok (.iload_n 1, 1) := by decide +kernel
theorem dX7_faultsWithout_1 : decode cX7_faultsWithout 1 = .ok (.aload_n 0, 1) := by decide +kernel
theorem dX7_faultsWithout_2 : decode cX7_faultsWithout 2 = .ok (.getfield 12, 3) := by decide +kernel
theorem dX7_faultsWithout_5 : decode cX7_faultsWithout 5 = .ok (.getfield 60, 3) := by decide +kernel
theorem dX7_faultsWithout_8 : decode cX7_faultsWithout 8 = .ok (.invokestatic 74, 3) := by decide +kernel
theorem dX7_faultsWithout_11 : decode cX7_faultsWithout 11 = .ok (.ifCond .ne 14, 3) := by decide +kernel
theorem dX7_faultsWithout_14 : decode cX7_faultsWithout 14 = .ok (.new 82, 3) := by decide +kernel
theorem dX7_faultsWithout_17 : decode cX7_faultsWithout 17 = .ok (.dup, 1) := by decide +kernel
theorem dX7_faultsWithout_18 : decode cX7_faultsWithout 18 = .ok (.ldc_w 278, 3) := by decide +kernel
theorem dX7_faultsWithout_21 : decode cX7_faultsWithout 21 = .ok (.invokespecial 86, 3) := by decide +kernel
theorem dX7_faultsWithout_24 : decode cX7_faultsWithout 24 = .ok (.athrow, 1) := by decide +kernel
theorem dX7_faultsWithout_25 : decode cX7_faultsWithout 25 = .ok (.aload_n 0, 1) := by decide +kernel
theorem dX7_faultsWithout_26 : decode cX7_faultsWithout 26 = .ok (.getfield 19, 3) := by decide +kernel
theorem dX7_faultsWithout_29 : decode cX7_faultsWithout 29 = .ok (.aload_n 0, 1) := by decide +kernel
theorem dX7_faultsWithout_30 : decode cX7_faultsWithout 30 = .ok (.getfield 12, 3) := by decide +kernel
theorem dX7_faultsWithout_33 : decode cX7_faultsWithout 33 = .ok (.aload_n 0, 1) := by decide +kernel
theorem dX7_faultsWithout_34 : decode cX7_faultsWithout 34 = .ok (.getfield 56, 3) := by decide +kernel
theorem dX7_faultsWithout_37 : decode cX7_faultsWithout 37 = .ok (.iload_n 1, 1) := by decide +kernel
theorem dX7_faultsWithout_38 : decode cX7_faultsWithout 38 = .ok (.invokevirtual 142, 3) := by decide +kernel
theorem dX7_faultsWithout_41 : decode cX7_faultsWithout 41 = .ok (.aload_n 0, 1) := by decide +kernel
theorem dX7_faultsWithout_42 : decode cX7_faultsWithout 42 = .ok (.getfield 19, 3) := by decide +kernel
theorem dX7_faultsWithout_45 : decode cX7_faultsWithout 45 = .ok (.getfield 146, 3) := by decide +kernel
theorem dX7_faultsWithout_48 : decode cX7_faultsWithout 48 = .ok (.ireturn, 1) := by decide +kernel
set_option maxRecDepth 20000 in
theorem ggX7_place_X0_room : GoodIn wsX7_place wsX0_room := goodIn_r _ [8, 9, 10, 11, 12, 13, 14, 15, 24, 25, 26, 27, 28, 29] (by decide +kernel) (by decide +kernel)
set_option maxRecDepth 20000 in
theorem gX7_place_X0_room : GoodIn wsX7_place (wsV RX7 282 RX0 yX0_room wsX0_room) := goodIn_app (goodIn_of _ (by decide +kernel)) ggX7_place_X0_room
theorem dX7_place_0 : decode cX7_place 0 = .ok (.iload_n 1, 1) := by decide +kernel
theorem dX7_place_1 : decode cX7_place 1 = .ok (.iconst 1, 1) := by decide +kernel
theorem dX7_place_2 : decode cX7_place 2 = .ok (.if_icmp .lt 10, 3) := by decide +kernel
theorem dX7_place_5 : decode cX7_place 5 = .ok (.iload_n 1, 1) := by decide +kernel
theorem dX7_place_6 : decode cX7_place 6 = .ok (.sipush 200, 3) := by decide +kernel
theorem dX7_place_9 : decode cX7_place 9 = .ok (.if_icmp .le 14, 3) := by decide +kernel
theorem dX7_place_12 : decode cX7_place 12 = .ok (.new 90, 3) := by decide +kernel
theorem dX7_place_15 : decode cX7_place 15 = .ok (.dup, 1) := by decide +kernel
theorem dX7_place_16 : decode cX7_place 16 = .ok (.ldc_w 280, 3) := by decide +kernel
theorem dX7_place_19 : decode cX7_place 19 = .ok (.invokespecial 94, 3) := by decide +kernel
theorem dX7_place_22 : decode cX7_place 22 = .ok (.athrow, 1) := by decide +kernel
theorem dX7_place_23 : decode cX7_place 23 = .ok (.aload_n 0, 1) := by decide +kernel
theorem dX7_place_24 : decode cX7_place 24 = .ok (.getfield 26, 3) := by decide +kernel
theorem dX7_place_27 : decode cX7_place 27 = .ok (.iload_n 1, 1) := by decide +kernel
theorem dX7_place_28 : decode cX7_place 28 = .ok (.invokevirtual 282, 3) := by decide +kernel
theorem dX7_place_31 : decode cX7_place 31 = .ok (.ireturn, 1) := by decide +kernel
set_option maxRecDepth 20000 in
theorem ggX7_digest_X7_tellMany : GoodIn wsX7_digest wsX7_tellMany := goodIn_r _ [11, 3, 12, 13, 14, 15, 16, 17, 18, 19, 20, 21, 22, 23, 24, 25, 26, 27, 28, 29, 30, 31, 32, 33, 34, 35, 36, 37, 38, 39, 40, 41, 42, 43, 44, 45, 46, 47, 48, 49, 330, 331, 332, 333, 334, 335, 336, 337, 354, 355, 356, 357, 358, 359, 360, 361, 362, 363, 364, 365, 366, 367, 368, 348, 349, 350, 351, 352, 353, 369, 370, 371, 372, 373, 374, 375] (by decide +kernel) (by decide +kernel)
set_option maxRecDepth 20000 in
theorem gX7_digest_X7_tellMany : GoodIn wsX7_digest (wsV RX7 191 RX7 yX7_tellMany wsX7_tellMany) := goodIn_app (goodIn_of _ (by decide +kernel)) ggX7_digest_X7_tellMany
set_option maxRecDepth 20000 in
theorem ggX7_digest_X7_mix : GoodIn wsX7_digest wsX7_mix := goodIn_r _ [52, 53] (by decide +kernel) (by decide +kernel)
set_option maxRecDepth 20000 in
theorem gX7_digest_X7_mix : GoodIn wsX7_digest (va_wsS RX7 287 yX7_mix wsX7_mix) := goodIn_app (goodIn_of _ (by decide +kernel)) ggX7_digest_X7_mix
set_option maxRecDepth 20000 in
theorem ggX7_digest_X7_mixSymbols : GoodIn wsX7_digest wsX7_mixSymbols := goodIn_r _ [57, 58, 59, 60, 10, 61, 14, 15, 62, 63, 19, 3, 64, 47, 48, 25, 49, 27, 65, 66, 67, 68, 69, 70, 71, 72, 73, 74, 75, 38, 76, 40, 77, 78, 41, 42, 43, 44, 45, 46, 50, 51, 52, 53, 330, 331, 332, 333, 334, 335, 336, 337, 364, 365, 366, 367, 368, 348, 349, 350, 351, 352, 353, 373, 369, 370, 371, 372, 354, 355, 356, 357, 358, 359, 360, 361, 362, 363] (by decide +kernel) (by decide +kernel)
set_option maxRecDepth 20000 in
theorem gX7_digest_X7_mixSymbols : GoodIn wsX7_digest (wsV RX7 291 RX7 yX7_mixSymbols wsX7_mixSymbols) := goodIn_app (goodIn_of _ (by decide +kernel)) ggX7_digest_X7_mixSymbols
set_option maxRecDepth 20000 in
theorem ggX7_digest_X7_mixPieces : GoodIn wsX7_digest wsX7_mixPieces := goodIn_r _ [82, 3, 13, 14, 15, 83, 84, 85, 86, 10, 87, 88, 89, 90, 91, 92, 18, 64, 47, 48, 25, 49, 27, 93, 94, 95, 31, 96, 97, 98, 99, 100, 33, 101, 102, 50, 51, 52, 53, 103, 104, 105, 68, 106, 70, 72, 107, 108, 109, 110, 111, 112, 113, 114, 115, 116, 117, 118, 119, 120, 121, 122, 123, 124, 125, 126, 71, 127, 128, 129, 130, 131, 330, 331, 332, 333, 334, 335, 336, 337, 354, 355, 356, 357, 358, 359, 360, 361, 362, 363, 364, 365, 366, 367, 368, 348, 349, 350, 351, 352, 353, 373, 374, 375] (by decide +kernel) (by decide +kernel)
set_option maxRecDepth 20000 in
theorem gX7_digest_X7_mixPieces : GoodIn wsX7_digest (wsV RX7 295 RX7 yX7_mixPieces wsX7_mixPieces) := goodIn_app (goodIn_of _ (by decide +kernel)) ggX7_digest_X7_mixPieces
set_option maxRecDepth 20000 in
theorem ggX7_digest_X7_mixWords : GoodIn wsX7_digest wsX7_mixWords := goodIn_r _ [135, 136, 137, 138, 10, 139, 14, 17, 140, 64, 47, 48, 25, 49, 27, 50, 51, 52, 53, 330, 331, 332, 333, 334, 335, 336, 337, 364, 365, 366, 367, 368, 373] (by decide +kernel) (by decide +kernel)
set_option maxRecDepth 20000 in
theorem gX7_digest_X7_mixWords : GoodIn wsX7_digest (wsV RX7 298 RX7 yX7_mixWords wsX7_mixWords) := goodIn_app (goodIn_of _ (by decide +kernel)) ggX7_digest_X7_mixWords
set_option maxRecDepth 20000 in
theorem ggX7_digest_X7_mixRuns : GoodIn wsX7_digest wsX7_mixRuns := goodIn_r _ [144, 18, 145, 146, 147, 148, 31, 149, 33, 102, 47, 48, 25, 49, 27, 50, 51, 10, 52, 53, 64, 150, 151, 152, 153, 101, 330, 331, 332, 333, 334, 335, 336, 337, 374, 375, 373] (by decide +kernel) (by decide +kernel)
set_option maxRecDepth 20000 in
theorem gX7_digest_X7_mixRuns : GoodIn wsX7_digest (wsV RX7 301 RX7 yX7_mixRuns wsX7_mixRuns) := goodIn_app (goodIn_of _ (by decide +kernel)) ggX7_digest_X7_mixRuns
set_option maxRecDepth 20000 in
theorem ggX7_digest_X7_mixPatches : GoodIn wsX7_digest wsX7_mixPatches := goodIn_r _ [157, 19, 20, 158, 159, 160, 10, 161, 3, 89, 162, 163, 164, 64, 47, 48, 25, 49, 27, 50, 51, 52, 53, 330, 331, 332, 333, 334, 335, 336, 337, 369, 370, 371, 372, 354, 355, 356, 357, 358, 359, 360, 361, 362, 363, 373] (by decide +kernel) (by decide +kernel)
set_option maxRecDepth 20000 in
theorem gX7_digest_X7_mixPatches : GoodIn wsX7_digest (wsV RX7 304 RX7 yX7_mixPatches wsX7_mixPatches) := goodIn_app (goodIn_of _ (by decide +kernel)) ggX7_digest_X7_mixPatches
set_option maxRecDepth 20000 in
theorem ggX7_digest_X2_attempt : GoodIn wsX7_digest wsX2_attempt := goodIn_r _ [169, 170, 171, 172, 173, 174, 168, 175, 176, 177, 178, 179, 180, 181, 182, 68, 183, 131, 184, 185, 71, 70, 186, 187, 188, 189, 25, 190, 27, 191, 192, 193, 194, 195, 196, 197, 198, 47, 48, 49, 199, 200, 201, 202, 203, 204, 205, 206, 207, 208, 209, 210, 211, 114, 212, 213, 214, 215, 117, 216, 217, 218, 219, 220, 221, 119, 120, 121, 122, 222, 223, 224, 225, 226, 227, 228, 229, 230, 231, 232, 233, 234, 235, 236, 237, 238, 239, 240, 241, 242, 243, 244, 245, 246, 247, 248, 249, 250, 251, 252, 253, 254, 255, 256, 257, 258, 259, 260, 261, 262, 263, 264, 265, 266, 267, 268, 269, 270, 271, 272, 273, 274, 275, 276, 277, 278, 279, 280, 281, 282, 283, 284, 285, 286, 287, 288, 289, 290, 291, 292, 293, 294, 295, 296, 297, 112, 113, 115, 116, 298, 124, 125, 126, 72, 127, 128, 129, 130, 299, 300, 301, 302, 303, 304, 305, 306, 307, 308, 309, 310, 104, 105, 106, 311, 312, 313, 314, 315, 316, 317, 318, 338, 339, 340, 341, 342, 343, 344, 345, 346, 347, 348, 349, 350, 351, 352, 353, 373, 354, 355, 356, 357, 358, 359, 360, 361, 362, 363] (by decide +kernel) (by decide +kernel)
set_option maxRecDepth 20000 in
theorem gX7_digest_X2_attempt : GoodIn wsX7_digest (wsV RX7 142 RX2 yX2_attempt wsX2_attempt) := goodIn_app (goodIn_of _ (by decide +kernel)) ggX7_digest_X2_attempt
set_option maxRecDepth 20000 in
theorem ggX7_digest_X7_mixFaults : GoodIn wsX7_digest wsX7_mixFaults := goodIn_r _ [322, 2, 323, 324, 325, 326, 10, 327, 328, 329, 64, 47, 48, 25, 49, 27, 50, 51, 52, 53, 330, 331, 332, 333, 334, 335, 336, 337, 338, 339, 340, 341, 342, 343, 344, 345, 346, 347, 373] (by decide +kernel) (by decide +kernel)
set_option maxRecDepth 20000 in
theorem gX7_digest_X7_mixFaults : GoodIn wsX7_digest (wsV RX7 307 RX7 yX7_mixFaults wsX7_mixFaults) := goodIn_app (goodIn_of _ (by decide +kernel)) ggX7_digest_X7_mixFaults
theorem dX7_digest_0 : decode cX7_digest 0 = .ok (.ldc2_w 285, 3) := by decide +kernel
theorem dX7_digest_3 : decode cX7_digest 3 = .ok (.lstore_n 1, 1) := by decide +kernel
theorem dX7_digest_4 : decode cX7_digest 4 = .ok (.iconst 0, 1) := by decide +kernel
theorem dX7_digest_5 : decode cX7_digest 5 = .ok (.istore_n 3, 1) := by decide +kernel
theorem dX7_digest_6 : decode cX7_digest 6 = .ok (.iload_n 3, 1) := by decide +kernel
theorem dX7_digest_7 : decode cX7_digest 7 = .ok (.bipush 10, 2) := by decide +kernel
theorem dX7_digest_9 : decode cX7_digest 9 = .ok (.if_icmp .ge 20, 3) := by decide +kernel
theorem dX7_digest_12 : decode cX7_digest 12 = .ok (.lload_n 1, 1) := by decide +kernel
theorem dX7_digest_13 : decode cX7_digest 13 = .ok (.aload_n 0, 1) := by decide +kernel
theorem dX7_digest_14 : decode cX7_digest 14 = .ok (.iload_n 3, 1) := by decide +kernel
theorem dX7_digest_15 : decode cX7_digest 15 = .ok (.invokevirtual 191, 3) := by decide +kernel
theorem dX7_digest_18 : decode cX7_digest 18 = .ok (.i2l, 1) := by decide +kernel
theorem dX7_digest_19 : decode cX7_digest 19 = .ok (.invokestatic 287, 3) := by decide +kernel
theorem dX7_digest_22 : decode cX7_digest 22 = .ok (.lstore_n 1, 1) := by decide +kernel
theorem dX7_digest_23 : decode cX7_digest 23 = .ok (.iinc 3 1, 3) := by decide +kernel
theorem dX7_digest_26 : decode cX7_digest 26 = .ok (.goto (-20), 3) := by decide +kernel
theorem dX7_digest_29 : decode cX7_digest 29 = .ok (.aload_n 0, 1) := by decide +kernel
theorem dX7_digest_30 : decode cX7_digest 30 = .ok (.lload_n 1, 1) := by decide +kernel
theorem dX7_digest_31 : decode cX7_digest 31 = .ok (.invokevirtual 291, 3) := by decide +kernel
theorem dX7_digest_34 : decode cX7_digest 34 = .ok (.lstore_n 1, 1) := by decide +kernel
theorem dX7_digest_35 : decode cX7_digest 35 = .ok (.aload_n 0, 1) := by decide +kernel
theorem dX7_digest_36 : decode cX7_digest 36 = .ok (.lload_n 1, 1) := by decide +kernel
theorem dX7_digest_37 : decode cX7_digest 37 = .ok (.invokevirtual 295, 3) := by decide +kernel
theorem dX7_digest_40 : decode cX7_digest 40 = .ok (.lstore_n 1, 1) := by decide +kernel
theorem dX7_digest_41 : decode cX7_digest 41 = .ok (.aload_n 0, 1) := by decide +kernel
theorem dX7_digest_42 : decode cX7_digest 42 = .ok (.lload_n 1, 1) := by decide +kernel
theorem dX7_digest_43 : decode cX7_digest 43 = .ok (.invokevirtual 298, 3) := by decide +kernel
theorem dX7_digest_46 : decode cX7_digest 46 = .ok (.lstore_n 1, 1) := by decide +kernel
theorem dX7_digest_47 : decode cX7_digest 47 = .ok (.aload_n 0, 1) := by decide +kernel
theorem dX7_digest_48 : decode cX7_digest 48 = .ok (.lload_n 1, 1) := by decide +kernel
theorem dX7_digest_49 : decode cX7_digest 49 = .ok (.invokevirtual 301, 3) := by decide +kernel
theorem dX7_digest_52 : decode cX7_digest 52 = .ok (.lstore_n 1, 1) := by decide +kernel
theorem dX7_digest_53 : decode cX7_digest 53 = .ok (.aload_n 0, 1) := by decide +kernel
theorem dX7_digest_54 : decode cX7_digest 54 = .ok (.lload_n 1, 1) := by decide +kernel
theorem dX7_digest_55 : decode cX7_digest 55 = .ok (.invokevirtual 304, 3) := by decide +kernel
theorem dX7_digest_58 : decode cX7_digest 58 = .ok (.lstore_n 1, 1) := by decide +kernel
theorem dX7_digest_59 : decode cX7_digest 59 = .ok (.aload_n 0, 1) := by decide +kernel
theorem dX7_digest_60 : decode cX7_digest 60 = .ok (.getfield 19, 3) := by decide +kernel
theorem dX7_digest_63 : decode cX7_digest 63 = .ok (.aload_n 0, 1) := by decide +kernel
theorem dX7_digest_64 : decode cX7_digest 64 = .ok (.getfield 12, 3) := by decide +kernel
theorem dX7_digest_67 : decode cX7_digest 67 = .ok (.aload_n 0, 1) := by decide +kernel
theorem dX7_digest_68 : decode cX7_digest 68 = .ok (.getfield 56, 3) := by decide +kernel
theorem dX7_digest_71 : decode cX7_digest 71 = .ok (.iconst (-1), 1) := by decide +kernel
theorem dX7_digest_72 : decode cX7_digest 72 = .ok (.invokevirtual 142, 3) := by decide +kernel
theorem dX7_digest_75 : decode cX7_digest 75 = .ok (.aload_n 0, 1) := by decide +kernel
theorem dX7_digest_76 : decode cX7_digest 76 = .ok (.lload_n 1, 1) := by decide +kernel
theorem dX7_digest_77 : decode cX7_digest 77 = .ok (.invokevirtual 307, 3) := by decide +kernel
theorem dX7_digest_80 : decode cX7_digest 80 = .ok (.lstore_n 1, 1) := by decide +kernel
theorem dX7_digest_81 : decode cX7_digest 81 = .ok (.aload_n 0, 1) := by decide +kernel
theorem dX7_digest_82 : decode cX7_digest 82 = .ok (.getfield 19, 3) := by decide +kernel
theorem dX7_digest_85 : decode cX7_digest 85 = .ok (.aload_n 0, 1) := by decide +kernel
theorem dX7_digest_86 : decode cX7_digest 86 = .ok (.getfield 12, 3) := by decide +kernel
theorem dX7_digest_89 : decode cX7_digest 89 = .ok (.iconst 5, 1) := by decide +kernel
theorem dX7_digest_90 : decode cX7_digest 90 = .ok (.iconst (-1), 1) := by decide +kernel
theorem dX7_digest_91 : decode cX7_digest 91 = .ok (.invokevirtual 142, 3) := by decide +kernel
theorem dX7_digest_94 : decode cX7_digest 94 = .ok (.lload_n 1, 1) := by decide +kernel
theorem dX7_digest_95 : decode cX7_digest 95 = .ok (.aload_n 0, 1) := by decide +kernel
theorem dX7_digest_96 : decode cX7_digest 96 = .ok (.getfield 19, 3) := by decide +kernel
theorem dX7_digest_99 : decode cX7_digest 99 = .ok (.getfield 149, 3) := by decide +kernel
theorem dX7_digest_102 : decode cX7_digest 102 = .ok (.getfield 275, 3) := by decide +kernel
theorem dX7_digest_105 : decode cX7_digest 105 = .ok (.i2l, 1) := by decide +kernel
theorem dX7_digest_106 : decode cX7_digest 106 = .ok (.invokestatic 287, 3) := by decide +kernel
theorem dX7_digest_109 : decode cX7_digest 109 = .ok (.lreturn, 1) := by decide +kernel
theorem dX7_isWithin_0 : decode cX7_isWithin 0 = .ok (.iload_n 0, 1) := by decide +kernel
theorem dX7_isWithin_1 : decode cX7_isWithin 1 = .ok (.ifCond .lt 12, 3) := by decide +kernel
theorem dX7_isWithin_4 : decode cX7_isWithin 4 = .ok (.iload_n 0, 1) := by decide +kernel
theorem dX7_isWithin_5 : decode cX7_isWithin 5 = .ok (.iload_n 1, 1) := by decide +kernel
theorem dX7_isWithin_6 : decode cX7_isWithin 6 = .ok (.if_icmp .ge 7, 3) := by decide +kernel
theorem dX7_isWithin_9 : decode cX7_isWithin 9 = .ok (.iconst 1, 1) := by decide +kernel
theorem dX7_isWithin_10 : decode cX7_isWithin 10 = .ok (.goto 4, 3) := by decide +kernel
theorem dX7_isWithin_13 : decode cX7_isWithin 13 = .ok (.iconst 0, 1) := by decide +kernel
theorem dX7_isWithin_14 : decode cX7_isWithin 14 = .ok (.ireturn, 1) := by decide +kernel
set_option maxRecDepth 20000 in
theorem ggX7_isSymbol_X7_isWithin : GoodIn wsX7_isSymbol wsX7_isWithin := goodIn_r _ [4] (by decide +kernel) (by decide +kernel)
set_option maxRecDepth 20000 in
theorem gX7_isSymbol_X7_isWithin : GoodIn wsX7_isSymbol (va_wsS RX7 74 yX7_isWithin wsX7_isWithin) := goodIn_app (goodIn_of _ (by decide +kernel)) ggX7_isSymbol_X7_isWithin
theorem dX7_isSymbol_0 : decode cX7_isSymbol 0 = .ok (.iload_n 0, 1) := by decide +kernel
theorem dX7_isSymbol_1 : decode cX7_isSymbol 1 = .ok (.bipush 16, 2) := by decide +kernel
theorem dX7_isSymbol_3 : decode cX7_isSymbol 3 = .ok (.invokestatic 74, 3) := by decide +kernel
theorem dX7_isSymbol_6 : decode cX7_isSymbol 6 = .ok (.ireturn, 1) := by decide +kernel
theorem dX7_isPieceSize_0 : decode cX7_isPieceSize 0 = .ok (.iload_n 0, 1) := by decide +kernel
theorem dX7_isPieceSize_1 : decode cX7_isPieceSize 1 = .ok (.iconst 1, 1) := by decide +kernel
theorem dX7_isPieceSize_2 : decode cX7_isPieceSize 2 = .ok (.if_icmp .lt 13, 3) := by decide +kernel
theorem dX7_isPieceSize_5 : decode cX7_isPieceSize 5 = .ok (.iload_n 0, 1) := by decide +kernel
theorem dX7_isPieceSize_6 : decode cX7_isPieceSize 6 = .ok (.bipush 20, 2) := by decide +kernel
theorem dX7_isPieceSize_8 : decode cX7_isPieceSize 8 = .ok (.if_icmp .gt 7, 3) := by decide +kernel
theorem dX7_isPieceSize_11 : decode cX7_isPieceSize 11 = .ok (.iconst 1, 1) := by decide +kernel
theorem dX7_isPieceSize_12 : decode cX7_isPieceSize 12 = .ok (.goto 4, 3) := by decide +kernel
theorem dX7_isPieceSize_15 : decode cX7_isPieceSize 15 = .ok (.iconst 0, 1) := by decide +kernel
theorem dX7_isPieceSize_16 : decode cX7_isPieceSize 16 = .ok (.ireturn, 1) := by decide +kernel
theorem dX7_isReach_0 : decode cX7_isReach 0 = .ok (.iload_n 0, 1) := by decide +kernel
theorem dX7_isReach_1 : decode cX7_isReach 1 = .ok (.iconst 5, 1) := by decide +kernel
theorem dX7_isReach_2 : decode cX7_isReach 2 = .ok (.if_icmp .lt 13, 3) := by decide +kernel
theorem dX7_isReach_5 : decode cX7_isReach 5 = .ok (.iload_n 0, 1) := by decide +kernel
theorem dX7_isReach_6 : decode cX7_isReach 6 = .ok (.bipush 100, 2) := by decide +kernel
theorem dX7_isReach_8 : decode cX7_isReach 8 = .ok (.if_icmp .gt 7, 3) := by decide +kernel
theorem dX7_isReach_11 : decode cX7_isReach 11 = .ok (.iconst 1, 1) := by decide +kernel
theorem dX7_isReach_12 : decode cX7_isReach 12 = .ok (.goto 4, 3) := by decide +kernel
theorem dX7_isReach_15 : decode cX7_isReach 15 = .ok (.iconst 0, 1) := by decide +kernel
theorem dX7_isReach_16 : decode cX7_isReach 16 = .ok (.ireturn, 1) := by decide +kernel
set_option maxRecDepth 20000 in
theorem ggX7_isStanding_X4_get : GoodIn wsX7_isStanding wsX4_get := goodIn_r _ [8, 9, 29] (by decide +kernel) (by decide +kernel)
set_option maxRecDepth 20000 in
theorem gX7_isStanding_X4_get : GoodIn wsX7_isStanding (wsV RX7 109 RX4 yX4_get wsX4_get) := goodIn_app (goodIn_of _ (by decide +kernel)) ggX7_isStanding_X4_get
theorem dX7_isStanding_0 : decode cX7_isStanding 0 = .ok (.aload_n 0, 1) := by decide +kernel
theorem dX7_isStanding_1 : decode cX7_isStanding 1 = .ok (.getfield 26, 3) := by decide +kernel
theorem dX7_isStanding_4 : decode cX7_isStanding 4 = .ok (.getfield 116, 3) := by decide +kernel
theorem dX7_isStanding_7 : decode cX7_isStanding 7 = .ok (.getfield 205, 3) := by decide +kernel
theorem dX7_isStanding_10 : decode cX7_isStanding 10 = .ok (.iload_n 1, 1) := by decide +kernel
theorem dX7_isStanding_11 : decode cX7_isStanding 11 = .ok (.invokevirtual 109, 3) := by decide +kernel
theorem dX7_isStanding_14 : decode cX7_isStanding 14 = .ok (.iconst (-1), 1) := by decide +kernel
theorem dX7_isStanding_15 : decode cX7_isStanding 15 = .ok (.if_icmp .eq 7, 3) := by decide +kernel
theorem dX7_isStanding_18 : decode cX7_isStanding 18 = .ok (.iconst 1, 1) := by decide +kernel
theorem dX7_isStanding_19 : decode cX7_isStanding 19 = .ok (.goto 4, 3) := by decide +kernel
theorem dX7_isStanding_22 : decode cX7_isStanding 22 = .ok (.iconst 0, 1) := by decide +kernel
theorem dX7_isStanding_23 : decode cX7_isStanding 23 = .ok (.ireturn, 1) := by decide +kernel
set_option maxRecDepth 20000 in
theorem ggX7_isHeld_X4_get : GoodIn wsX7_isHeld wsX4_get := goodIn_r _ [8, 9, 32] (by decide +kernel) (by decide +kernel)
set_option maxRecDepth 20000 in
theorem gX7_isHeld_X4_get : GoodIn wsX7_isHeld (wsV RX7 109 RX4 yX4_get wsX4_get) := goodIn_app (goodIn_of _ (by decide +kernel)) ggX7_isHeld_X4_get
set_option maxRecDepth 20000 in
theorem ggX7_isHeld_X3_waitingFor : GoodIn wsX7_isHeld wsX3_waitingFor := goodIn_r _ [14, 15, 16, 17, 18, 19, 20, 13, 21, 22, 23, 5, 6, 7, 8, 9, 33, 34, 35, 36, 37, 38, 39, 40, 41, 42, 43, 44, 45, 46, 32] (by decide +kernel) (by decide +kernel)
set_option maxRecDepth 20000 in
theorem gX7_isHeld_X3_waitingFor : GoodIn wsX7_isHeld (wsV RX7 310 RX3 yX3_waitingFor wsX3_waitingFor) := goodIn_app (goodIn_of _ (by decide +kernel)) ggX7_isHeld_X3_waitingFor
theorem dX7_isHeld_0 : decode cX7_isHeld 0 = .ok (.aload_n 0, 1) := by decide +kernel
theorem dX7_isHeld_1 : decode cX7_isHeld 1 = .ok (.getfield 52, 3) := by decide +kernel
theorem dX7_isHeld_4 : decode cX7_isHeld 4 = .ok (.iload_n 1, 1) := by decide +kernel
theorem dX7_isHeld_5 : decode cX7_isHeld 5 = .ok (.invokevirtual 109, 3) := by decide +kernel
theorem dX7_isHeld_8 : decode cX7_isHeld 8 = .ok (.iconst 1, 1) := by decide +kernel
theorem dX7_isHeld_9 : decode cX7_isHeld 9 = .ok (.if_icmp .ne 22, 3) := by decide +kernel
theorem dX7_isHeld_12 : decode cX7_isHeld 12 = .ok (.aload_n 0, 1) := by decide +kernel
theorem dX7_isHeld_13 : decode cX7_isHeld 13 = .ok (.getfield 43, 3) := by decide +kernel
theorem dX7_isHeld_16 : decode cX7_isHeld 16 = .ok (.aload_n 0, 1) := by decide +kernel
theorem dX7_isHeld_17 : decode cX7_isHeld 17 = .ok (.getfield 12, 3) := by decide +kernel
theorem dX7_isHeld_20 : decode cX7_isHeld 20 = .ok (.iload_n 1, 1) := by decide +kernel
theorem dX7_isHeld_21 : decode cX7_isHeld 21 = .ok (.invokevirtual 310, 3) := by decide +kernel
theorem dX7_isHeld_24 : decode cX7_isHeld 24 = .ok (.ifCond .le 7, 3) := by decide +kernel
theorem dX7_isHeld_27 : decode cX7_isHeld 27 = .ok (.iconst 1, 1) := by decide +kernel
theorem dX7_isHeld_28 : decode cX7_isHeld 28 = .ok (.goto 4, 3) := by decide +kernel
theorem dX7_isHeld_31 : decode cX7_isHeld 31 = .ok (.iconst 0, 1) := by decide +kernel
theorem dX7_isHeld_32 : decode cX7_isHeld 32 = .ok (.ireturn, 1) := by decide +kernel
set_option maxRecDepth 20000 in
theorem ggX7_tellFault_X4_get : GoodIn wsX7_tellFault wsX4_get := goodIn_r _ [8, 9, 28] (by decide +kernel) (by decide +kernel)
set_option maxRecDepth 20000 in
theorem gX7_tellFault_X4_get : GoodIn wsX7_tellFault (wsV RX7 109 RX4 yX4_get wsX4_get) := goodIn_app (goodIn_of _ (by decide +kernel)) ggX7_tellFault_X4_get
theorem dX7_tellFault_0 : decode cX7_tellFault 0 = .ok (.iload_n 2, 1) := by decide +kernel
theorem dX7_tellFault_1 : decode cX7_tellFault 1 = .ok (.ifCond .ne 17, 3) := by decide +kernel
theorem dX7_tellFault_4 : decode cX7_tellFault 4 = .ok (.aload_n 0, 1) := by decide +kernel
theorem dX7_tellFault_5 : decode cX7_tellFault 5 = .ok (.getfield 19, 3) := by decide +kernel
theorem dX7_tellFault_8 : decode cX7_tellFault 8 = .ok (.getfield 314, 3) := by decide +kernel
theorem dX7_tellFault_11 : decode cX7_tellFault 11 = .ok (.iload_n 1, 1) := by decide +kernel
theorem dX7_tellFault_12 : decode cX7_tellFault 12 = .ok (.invokevirtual 109, 3) := by decide +kernel
theorem dX7_tellFault_15 : decode cX7_tellFault 15 = .ok (.goto 14, 3) := by decide +kernel
theorem dX7_tellFault_18 : decode cX7_tellFault 18 = .ok (.aload_n 0, 1) := by decide +kernel
theorem dX7_tellFault_19 : decode cX7_tellFault 19 = .ok (.getfield 19, 3) := by decide +kernel
theorem dX7_tellFault_22 : decode cX7_tellFault 22 = .ok (.getfield 317, 3) := by decide +kernel
theorem dX7_tellFault_25 : decode cX7_tellFault 25 = .ok (.iload_n 1, 1) := by decide +kernel
theorem dX7_tellFault_26 : decode cX7_tellFault 26 = .ok (.invokevirtual 109, 3) := by decide +kernel
theorem dX7_tellFault_29 : decode cX7_tellFault 29 = .ok (.ireturn, 1) := by decide +kernel
set_option maxRecDepth 20000 in
theorem ggX7_tellSymbol_X4_get : GoodIn wsX7_tellSymbol wsX4_get := goodIn_r _ [11, 12, 54] (by decide +kernel) (by decide +kernel)
set_option maxRecDepth 20000 in
theorem gX7_tellSymbol_X4_get : GoodIn wsX7_tellSymbol (wsV RX7 109 RX4 yX4_get wsX4_get) := goodIn_app (goodIn_of _ (by decide +kernel)) ggX7_tellSymbol_X4_get
set_option maxRecDepth 20000 in
theorem ggX7_tellSymbol_X1_placeOfSymbol : GoodIn wsX7_tellSymbol wsX1_placeOfSymbol := goodIn_r _ [17, 18, 19, 20, 8, 9, 10, 11, 12, 48, 49, 50, 51, 52, 53, 54] (by decide +kernel) (by decide +kernel)
set_option maxRecDepth 20000 in
theorem gX7_tellSymbol_X1_placeOfSymbol : GoodIn wsX7_tellSymbol (wsV RX7 320 RX1 yX1_placeOfSymbol wsX1_placeOfSymbol) := goodIn_app (goodIn_of _ (by decide +kernel)) ggX7_tellSymbol_X1_placeOfSymbol
set_option maxRecDepth 20000 in
theorem ggX7_tellSymbol_X3_waitingFor : GoodIn wsX7_tellSymbol wsX3_waitingFor := goodIn_r _ [25, 26, 27, 28, 29, 30, 31, 24, 32, 33, 34, 8, 9, 10, 11, 12, 55, 56, 57, 58, 59, 60, 61, 62, 63, 64, 65, 66, 67, 68, 54] (by decide +kernel) (by decide +kernel)
set_option maxRecDepth 20000 in
theorem gX7_tellSymbol_X3_waitingFor : GoodIn wsX7_tellSymbol (wsV RX7 310 RX3 yX3_waitingFor wsX3_waitingFor) := goodIn_app (goodIn_of _ (by decide +kernel)) ggX7_tellSymbol_X3_waitingFor
theorem dX7_tellSymbol_0 : decode cX7_tellSymbol 0 = .ok (.iload_n 2, 1) := by decide +kernel
theorem dX7_tellSymbol_1 : decode cX7_tellSymbol 1 = .ok (.tableswitch 66 0 2 #[27, 42, 54], 27) := by decide +kernel
theorem dX7_tellSymbol_28 : decode cX7_tellSymbol 28 = .ok (.aload_n 0, 1) := by decide +kernel
theorem dX7_tellSymbol_29 : decode cX7_tellSymbol 29 = .ok (.getfield 26, 3) := by decide +kernel
theorem dX7_tellSymbol_32 : decode cX7_tellSymbol 32 = .ok (.getfield 116, 3) := by decide +kernel
theorem dX7_tellSymbol_35 : decode cX7_tellSymbol 35 = .ok (.getfield 205, 3) := by decide +kernel
theorem dX7_tellSymbol_38 : decode cX7_tellSymbol 38 = .ok (.iload_n 1, 1) := by decide +kernel
theorem dX7_tellSymbol_39 : decode cX7_tellSymbol 39 = .ok (.invokevirtual 109, 3) := by decide +kernel
theorem dX7_tellSymbol_42 : decode cX7_tellSymbol 42 = .ok (.ireturn, 1) := by decide +kernel
theorem dX7_tellSymbol_43 : decode cX7_tellSymbol 43 = .ok (.aload_n 0, 1) := by decide +kernel
theorem dX7_tellSymbol_44 : decode cX7_tellSymbol 44 = .ok (.getfield 26, 3) := by decide +kernel
theorem dX7_tellSymbol_47 : decode cX7_tellSymbol 47 = .ok (.getfield 116, 3) := by decide +kernel
theorem dX7_tellSymbol_50 : decode cX7_tellSymbol 50 = .ok (.iload_n 1, 1) := by decide +kernel
theorem dX7_tellSymbol_51 : decode cX7_tellSymbol 51 = .ok (.invokevirtual 320, 3) := by decide +kernel
theorem dX7_tellSymbol_54 : decode cX7_tellSymbol 54 = .ok (.ireturn, 1) := by decide +kernel
theorem dX7_tellSymbol_55 : decode cX7_tellSymbol 55 = .ok (.aload_n 0, 1) := by decide +kernel
theorem dX7_tellSymbol_56 : decode cX7_tellSymbol 56 = .ok (.getfield 26, 3) := by decide +kernel
theorem dX7_tellSymbol_59 : decode cX7_tellSymbol 59 = .ok (.getfield 323, 3) := by decide +kernel
theorem dX7_tellSymbol_62 : decode cX7_tellSymbol 62 = .ok (.iload_n 1, 1) := by decide +kernel
theorem dX7_tellSymbol_63 : decode cX7_tellSymbol 63 = .ok (.invokevirtual 109, 3) := by decide +kernel
theorem dX7_tellSymbol_66 : decode cX7_tellSymbol 66 = .ok (.ireturn, 1) := by decide +kernel
theorem dX7_tellSymbol_67 : decode cX7_tellSymbol 67 = .ok (.aload_n 0, 1) := by decide +kernel
theorem dX7_tellSymbol_68 : decode cX7_tellSymbol 68 = .ok (.getfield 43, 3) := by decide +kernel
theorem dX7_tellSymbol_71 : decode cX7_tellSymbol 71 = .ok (.aload_n 0, 1) := by decide +kernel
theorem dX7_tellSymbol_72 : decode cX7_tellSymbol 72 = .ok (.getfield 12, 3) := by decide +kernel
theorem dX7_tellSymbol_75 : decode cX7_tellSymbol 75 = .ok (.iload_n 1, 1) := by decide +kernel
theorem dX7_tellSymbol_76 : decode cX7_tellSymbol 76 = .ok (.invokevirtual 310, 3) := by decide +kernel
theorem dX7_tellSymbol_79 : decode cX7_tellSymbol 79 = .ok (.ireturn, 1) := by decide +kernel
set_option maxRecDepth 20000 in
theorem ggX7_tellPiece_X4_get : GoodIn wsX7_tellPiece wsX4_get := goodIn_r _ [15, 16, 58] (by decide +kernel) (by decide +kernel)
set_option maxRecDepth 20000 in
theorem gX7_tellPiece_X4_get : GoodIn wsX7_tellPiece (wsV RX7 109 RX4 yX4_get wsX4_get) := goodIn_app (goodIn_of _ (by decide +kernel)) ggX7_tellPiece_X4_get
set_option maxRecDepth 20000 in
theorem ggX7_tellPiece_X5_runsWith : GoodIn wsX7_tellPiece wsX5_runsWith := goodIn_r _ [21, 22, 23, 24, 20, 25, 26, 27, 28, 12, 13, 14, 15, 16, 59, 60, 58] (by decide +kernel) (by decide +kernel)
set_option maxRecDepth 20000 in
theorem gX7_tellPiece_X5_runsWith : GoodIn wsX7_tellPiece (wsV RX7 338 RX5 yX5_runsWith wsX5_runsWith) := goodIn_app (goodIn_of _ (by decide +kernel)) ggX7_tellPiece_X5_runsWith
theorem dX7_tellPiece_0 : decode cX7_tellPiece 0 = .ok (.iload_n 2, 1) := by decide +kernel
theorem dX7_tellPiece_1 : decode cX7_tellPiece 1 = .ok (.tableswitch 114 0 5 #[39, 51, 63, 75, 87, 99], 39) := by decide +kernel
theorem dX7_tellPiece_40 : decode cX7_tellPiece 40 = .ok (.aload_n 0, 1) := by decide +kernel
theorem dX7_tellPiece_41 : decode cX7_tellPiece 41 = .ok (.getfield 12, 3) := by decide +kernel
theorem dX7_tellPiece_44 : decode cX7_tellPiece 44 = .ok (.getfield 326, 3) := by decide +kernel
theorem dX7_tellPiece_47 : decode cX7_tellPiece 47 = .ok (.iload_n 1, 1) := by decide +kernel
theorem dX7_tellPiece_48 : decode cX7_tellPiece 48 = .ok (.invokevirtual 109, 3) := by decide +kernel
theorem dX7_tellPiece_51 : decode cX7_tellPiece 51 = .ok (.ireturn, 1) := by decide +kernel
theorem dX7_tellPiece_52 : decode cX7_tellPiece 52 = .ok (.aload_n 0, 1) := by decide +kernel
theorem dX7_tellPiece_53 : decode cX7_tellPiece 53 = .ok (.getfield 12, 3) := by decide +kernel
theorem dX7_tellPiece_56 : decode cX7_tellPiece 56 = .ok (.getfield 266, 3) := by decide +kernel
theorem dX7_tellPiece_59 : decode cX7_tellPiece 59 = .ok (.iload_n 1, 1) := by decide +kernel
theorem dX7_tellPiece_60 : decode cX7_tellPiece 60 = .ok (.invokevirtual 109, 3) := by decide +kernel
theorem dX7_tellPiece_63 : decode cX7_tellPiece 63 = .ok (.ireturn, 1) := by decide +kernel
theorem dX7_tellPiece_64 : decode cX7_tellPiece 64 = .ok (.aload_n 0, 1) := by decide +kernel
theorem dX7_tellPiece_65 : decode cX7_tellPiece 65 = .ok (.getfield 12, 3) := by decide +kernel
theorem dX7_tellPiece_68 : decode cX7_tellPiece 68 = .ok (.getfield 329, 3) := by decide +kernel
theorem dX7_tellPiece_71 : decode cX7_tellPiece 71 = .ok (.iload_n 1, 1) := by decide +kernel
theorem dX7_tellPiece_72 : decode cX7_tellPiece 72 = .ok (.invokevirtual 109, 3) := by decide +kernel
theorem dX7_tellPiece_75 : decode cX7_tellPiece 75 = .ok (.ireturn, 1) := by decide +kernel
theorem dX7_tellPiece_76 : decode cX7_tellPiece 76 = .ok (.aload_n 0, 1) := by decide +kernel
theorem dX7_tellPiece_77 : decode cX7_tellPiece 77 = .ok (.getfield 12, 3) := by decide +kernel
theorem dX7_tellPiece_80 : decode cX7_tellPiece 80 = .ok (.getfield 332, 3) := by decide +kernel
theorem dX7_tellPiece_83 : decode cX7_tellPiece 83 = .ok (.iload_n 1, 1) := by decide +kernel
theorem dX7_tellPiece_84 : decode cX7_tellPiece 84 = .ok (.invokevirtual 109, 3) := by decide +kernel
theorem dX7_tellPiece_87 : decode cX7_tellPiece 87 = .ok (.ireturn, 1) := by decide +kernel
theorem dX7_tellPiece_88 : decode cX7_tellPiece 88 = .ok (.aload_n 0, 1) := by decide +kernel
theorem dX7_tellPiece_89 : decode cX7_tellPiece 89 = .ok (.getfield 12, 3) := by decide +kernel
theorem dX7_tellPiece_92 : decode cX7_tellPiece 92 = .ok (.getfield 106, 3) := by decide +kernel
theorem dX7_tellPiece_95 : decode cX7_tellPiece 95 = .ok (.iload_n 1, 1) := by decide +kernel
theorem dX7_tellPiece_96 : decode cX7_tellPiece 96 = .ok (.invokevirtual 109, 3) := by decide +kernel
theorem dX7_tellPiece_99 : decode cX7_tellPiece 99 = .ok (.ireturn, 1) := by decide +kernel
theorem dX7_tellPiece_100 : decode cX7_tellPiece 100 = .ok (.aload_n 0, 1) := by decide +kernel
theorem dX7_tellPiece_101 : decode cX7_tellPiece 101 = .ok (.getfield 26, 3) := by decide +kernel
theorem dX7_tellPiece_104 : decode cX7_tellPiece 104 = .ok (.getfield 116, 3) := by decide +kernel
theorem dX7_tellPiece_107 : decode cX7_tellPiece 107 = .ok (.getfield 335, 3) := by decide +kernel
theorem dX7_tellPiece_110 : decode cX7_tellPiece 110 = .ok (.iload_n 1, 1) := by decide +kernel
theorem dX7_tellPiece_111 : decode cX7_tellPiece 111 = .ok (.invokevirtual 109, 3) := by decide +kernel
theorem dX7_tellPiece_114 : decode cX7_tellPiece 114 = .ok (.ireturn, 1) := by decide +kernel
theorem dX7_tellPiece_115 : decode cX7_tellPiece 115 = .ok (.aload_n 0, 1) := by decide +kernel
theorem dX7_tellPiece_116 : decode cX7_tellPiece 116 = .ok (.getfield 36, 3) := by decide +kernel
theorem dX7_tellPiece_119 : decode cX7_tellPiece 119 = .ok (.iload_n 1, 1) := by decide +kernel
theorem dX7_tellPiece_120 : decode cX7_tellPiece 120 = .ok (.invokevirtual 338, 3) := by decide +kernel
theorem dX7_tellPiece_123 : decode cX7_tellPiece 123 = .ok (.ireturn, 1) := by decide +kernel
set_option maxRecDepth 20000 in
theorem ggX7_tellSteps_X6_isNear : GoodIn wsX7_tellSteps wsX6_isNear := goodIn_r _ [8, 9, 10, 11, 12, 13, 14, 15, 47, 48, 49, 50, 51, 52, 53, 54, 55, 56, 57] (by decide +kernel) (by decide +kernel)
set_option maxRecDepth 20000 in
theorem gX7_tellSteps_X6_isNear : GoodIn wsX7_tellSteps (wsV RX7 341 RX6 yX6_isNear wsX6_isNear) := goodIn_app (goodIn_of _ (by decide +kernel)) ggX7_tellSteps_X6_isNear
set_option maxRecDepth 20000 in
theorem ggX7_tellSteps_X6_target : GoodIn wsX7_tellSteps wsX6_target := goodIn_r _ [19, 20, 10, 11, 12, 13, 14, 15, 47, 48, 49, 50, 51, 52, 53, 54, 55, 56, 57] (by decide +kernel) (by decide +kernel)
set_option maxRecDepth 20000 in
theorem gX7_tellSteps_X6_target : GoodIn wsX7_tellSteps (wsV RX7 219 RX6 yX6_target wsX6_target) := goodIn_app (goodIn_of _ (by decide +kernel)) ggX7_tellSteps_X6_target
set_option maxRecDepth 20000 in
theorem ggX7_tellSteps_X1_reachesSymbol : GoodIn wsX7_tellSteps wsX1_reachesSymbol := goodIn_r _ [25, 26, 27, 28, 11, 12, 13, 14, 15, 29, 30, 31, 24, 32, 33, 58, 59, 60, 61, 62, 63, 57] (by decide +kernel) (by decide +kernel)
set_option maxRecDepth 20000 in
theorem gX7_tellSteps_X1_reachesSymbol : GoodIn wsX7_tellSteps (wsV RX7 344 RX1 yX1_reachesSymbol wsX1_reachesSymbol) := goodIn_app (goodIn_of _ (by decide +kernel)) ggX7_tellSteps_X1_reachesSymbol
theorem dX7_tellSteps_0 : decode cX7_tellSteps 0 = .ok (.aload_n 0, 1) := by decide +kernel
theorem dX7_tellSteps_1 : decode cX7_tellSteps 1 = .ok (.getfield 12, 3) := by decide +kernel
theorem dX7_tellSteps_4 : decode cX7_tellSteps 4 = .ok (.iload_n 1, 1) := by decide +kernel
theorem dX7_tellSteps_5 : decode cX7_tellSteps 5 = .ok (.iload_n 2, 1) := by decide +kernel
theorem dX7_tellSteps_6 : decode cX7_tellSteps 6 = .ok (.invokevirtual 341, 3) := by decide +kernel
theorem dX7_tellSteps_9 : decode cX7_tellSteps 9 = .ok (.ifCond .eq 26, 3) := by decide +kernel
theorem dX7_tellSteps_12 : decode cX7_tellSteps 12 = .ok (.aload_n 0, 1) := by decide +kernel
theorem dX7_tellSteps_13 : decode cX7_tellSteps 13 = .ok (.getfield 26, 3) := by decide +kernel
theorem dX7_tellSteps_16 : decode cX7_tellSteps 16 = .ok (.getfield 116, 3) := by decide +kernel
theorem dX7_tellSteps_19 : decode cX7_tellSteps 19 = .ok (.iload_n 1, 1) := by decide +kernel
theorem dX7_tellSteps_20 : decode cX7_tellSteps 20 = .ok (.aload_n 0, 1) := by decide +kernel
theorem dX7_tellSteps_21 : decode cX7_tellSteps 21 = .ok (.getfield 12, 3) := by decide +kernel
theorem dX7_tellSteps_24 : decode cX7_tellSteps 24 = .ok (.iload_n 1, 1) := by decide +kernel
theorem dX7_tellSteps_25 : decode cX7_tellSteps 25 = .ok (.iload_n 2, 1) := by decide +kernel
theorem dX7_tellSteps_26 : decode cX7_tellSteps 26 = .ok (.invokevirtual 219, 3) := by decide +kernel
theorem dX7_tellSteps_29 : decode cX7_tellSteps 29 = .ok (.invokevirtual 344, 3) := by decide +kernel
theorem dX7_tellSteps_32 : decode cX7_tellSteps 32 = .ok (.ifCond .eq 7, 3) := by decide +kernel
theorem dX7_tellSteps_35 : decode cX7_tellSteps 35 = .ok (.iconst 1, 1) := by decide +kernel
theorem dX7_tellSteps_36 : decode cX7_tellSteps 36 = .ok (.goto 4, 3) := by decide +kernel
theorem dX7_tellSteps_39 : decode cX7_tellSteps 39 = .ok (.iconst 0, 1) := by decide +kernel
theorem dX7_tellSteps_40 : decode cX7_tellSteps 40 = .ok (.istore_n 3, 1) := by decide +kernel
theorem dX7_tellSteps_41 : decode cX7_tellSteps 41 = .ok (.iload_n 3, 1) := by decide +kernel
theorem dX7_tellSteps_42 : decode cX7_tellSteps 42 = .ok (.ifCond .eq 7, 3) := by decide +kernel
theorem dX7_tellSteps_45 : decode cX7_tellSteps 45 = .ok (.iconst 1, 1) := by decide +kernel
theorem dX7_tellSteps_46 : decode cX7_tellSteps 46 = .ok (.goto 4, 3) := by decide +kernel
theorem dX7_tellSteps_49 : decode cX7_tellSteps 49 = .ok (.iconst 2, 1) := by decide +kernel
theorem dX7_tellSteps_50 : decode cX7_tellSteps 50 = .ok (.ireturn, 1) := by decide +kernel
set_option maxRecDepth 20000 in
theorem ggX7_tellWord_X4_get : GoodIn wsX7_tellWord wsX4_get := goodIn_r _ [8, 9, 23] (by decide +kernel) (by decide +kernel)
set_option maxRecDepth 20000 in
theorem gX7_tellWord_X4_get : GoodIn wsX7_tellWord (wsV RX7 109 RX4 yX4_get wsX4_get) := goodIn_app (goodIn_of _ (by decide +kernel)) ggX7_tellWord_X4_get
theorem dX7_tellWord_0 : decode cX7_tellWord 0 = .ok (.iload_n 2, 1) := by decide +kernel
theorem dX7_tellWord_1 : decode cX7_tellWord 1 = .ok (.ifCond .ne 17, 3) := by decide +kernel
theorem dX7_tellWord_4 : decode cX7_tellWord 4 = .ok (.aload_n 0, 1) := by decide +kernel
theorem dX7_tellWord_5 : decode cX7_tellWord 5 = .ok (.getfield 26, 3) := by decide +kernel
theorem dX7_tellWord_8 : decode cX7_tellWord 8 = .ok (.getfield 347, 3) := by decide +kernel
theorem dX7_tellWord_11 : decode cX7_tellWord 11 = .ok (.iload_n 1, 1) := by decide +kernel
theorem dX7_tellWord_12 : decode cX7_tellWord 12 = .ok (.invokevirtual 109, 3) := by decide +kernel
theorem dX7_tellWord_15 : decode cX7_tellWord 15 = .ok (.goto 14, 3) := by decide +kernel
theorem dX7_tellWord_18 : decode cX7_tellWord 18 = .ok (.aload_n 0, 1) := by decide +kernel
theorem dX7_tellWord_19 : decode cX7_tellWord 19 = .ok (.getfield 26, 3) := by decide +kernel
theorem dX7_tellWord_22 : decode cX7_tellWord 22 = .ok (.getfield 350, 3) := by decide +kernel
theorem dX7_tellWord_25 : decode cX7_tellWord 25 = .ok (.iload_n 1, 1) := by decide +kernel
theorem dX7_tellWord_26 : decode cX7_tellWord 26 = .ok (.invokevirtual 109, 3) := by decide +kernel
theorem dX7_tellWord_29 : decode cX7_tellWord 29 = .ok (.ireturn, 1) := by decide +kernel
set_option maxRecDepth 20000 in
theorem ggX7_tellMany_X4_count : GoodIn wsX7_tellMany wsX4_count := goodIn_r _ [16, 17, 73] (by decide +kernel) (by decide +kernel)
set_option maxRecDepth 20000 in
theorem gX7_tellMany_X4_count : GoodIn wsX7_tellMany (wsV RX7 356 RX4 yX4_count wsX4_count) := goodIn_app (goodIn_of _ (by decide +kernel)) ggX7_tellMany_X4_count
set_option maxRecDepth 20000 in
theorem ggX7_tellMany_X5_count : GoodIn wsX7_tellMany wsX5_count := goodIn_r _ [22, 23, 24, 13, 14, 15, 16, 17, 74, 75, 73] (by decide +kernel) (by decide +kernel)
set_option maxRecDepth 20000 in
theorem gX7_tellMany_X5_count : GoodIn wsX7_tellMany (wsV RX7 136 RX5 yX5_count wsX5_count) := goodIn_app (goodIn_of _ (by decide +kernel)) ggX7_tellMany_X5_count
set_option maxRecDepth 20000 in
theorem ggX7_tellMany_X3_waiting : GoodIn wsX7_tellMany wsX3_waiting := goodIn_r _ [29, 30, 31, 32, 33, 28, 34, 35, 36, 37, 38, 15, 39, 17, 69, 70, 71, 72, 73] (by decide +kernel) (by decide +kernel)
set_option maxRecDepth 20000 in
theorem gX7_tellMany_X3_waiting : GoodIn wsX7_tellMany (wsV RX7 358 RX3 yX3_waiting wsX3_waiting) := goodIn_app (goodIn_of _ (by decide +kernel)) ggX7_tellMany_X3_waiting
theorem dX7_tellMany_0 : decode cX7_tellMany 0 = .ok (.iload_n 1, 1) := by decide +kernel
theorem dX7_tellMany_1 : decode cX7_tellMany 1 = .ok (.tableswitch 142 0 8 #[51, 59, 67, 78, 94, 106, 118, 126, 134], 51) := by decide +kernel
theorem dX7_tellMany_52 : decode cX7_tellMany 52 = .ok (.aload_n 0, 1) := by decide +kernel
theorem dX7_tellMany_53 : decode cX7_tellMany 53 = .ok (.getfield 12, 3) := by decide +kernel
theorem dX7_tellMany_56 : decode cX7_tellMany 56 = .ok (.getfield 60, 3) := by decide +kernel
theorem dX7_tellMany_59 : decode cX7_tellMany 59 = .ok (.ireturn, 1) := by decide +kernel
theorem dX7_tellMany_60 : decode cX7_tellMany 60 = .ok (.aload_n 0, 1) := by decide +kernel
theorem dX7_tellMany_61 : decode cX7_tellMany 61 = .ok (.getfield 12, 3) := by decide +kernel
theorem dX7_tellMany_64 : decode cX7_tellMany 64 = .ok (.getfield 95, 3) := by decide +kernel
theorem dX7_tellMany_67 : decode cX7_tellMany 67 = .ok (.ireturn, 1) := by decide +kernel
theorem dX7_tellMany_68 : decode cX7_tellMany 68 = .ok (.aload_n 0, 1) := by decide +kernel
theorem dX7_tellMany_69 : decode cX7_tellMany 69 = .ok (.getfield 26, 3) := by decide +kernel
theorem dX7_tellMany_72 : decode cX7_tellMany 72 = .ok (.getfield 116, 3) := by decide +kernel
theorem dX7_tellMany_75 : decode cX7_tellMany 75 = .ok (.getfield 353, 3) := by decide +kernel
theorem dX7_tellMany_78 : decode cX7_tellMany 78 = .ok (.ireturn, 1) := by decide +kernel
theorem dX7_tellMany_79 : decode cX7_tellMany 79 = .ok (.sipush 200, 3) := by decide +kernel
theorem dX7_tellMany_82 : decode cX7_tellMany 82 = .ok (.aload_n 0, 1) := by decide +kernel
theorem dX7_tellMany_83 : decode cX7_tellMany 83 = .ok (.getfield 26, 3) := by decide +kernel
theorem dX7_tellMany_86 : decode cX7_tellMany 86 = .ok (.getfield 347, 3) := by decide +kernel
theorem dX7_tellMany_89 : decode cX7_tellMany 89 = .ok (.iconst 0, 1) := by decide +kernel
theorem dX7_tellMany_90 : decode cX7_tellMany 90 = .ok (.invokevirtual 356, 3) := by decide +kernel
theorem dX7_tellMany_93 : decode cX7_tellMany 93 = .ok (.isub, 1) := by decide +kernel
theorem dX7_tellMany_94 : decode cX7_tellMany 94 = .ok (.ireturn, 1) := by decide +kernel
theorem dX7_tellMany_95 : decode cX7_tellMany 95 = .ok (.aload_n 0, 1) := by decide +kernel
theorem dX7_tellMany_96 : decode cX7_tellMany 96 = .ok (.getfield 26, 3) := by decide +kernel
theorem dX7_tellMany_99 : decode cX7_tellMany 99 = .ok (.getfield 347, 3) := by decide +kernel
theorem dX7_tellMany_102 : decode cX7_tellMany 102 = .ok (.iconst 2, 1) := by decide +kernel
theorem dX7_tellMany_103 : decode cX7_tellMany 103 = .ok (.invokevirtual 356, 3) := by decide +kernel
theorem dX7_tellMany_106 : decode cX7_tellMany 106 = .ok (.ireturn, 1) := by decide +kernel
theorem dX7_tellMany_107 : decode cX7_tellMany 107 = .ok (.aload_n 0, 1) := by decide +kernel
theorem dX7_tellMany_108 : decode cX7_tellMany 108 = .ok (.getfield 26, 3) := by decide +kernel
theorem dX7_tellMany_111 : decode cX7_tellMany 111 = .ok (.getfield 347, 3) := by decide +kernel
theorem dX7_tellMany_114 : decode cX7_tellMany 114 = .ok (.iconst 3, 1) := by decide +kernel
theorem dX7_tellMany_115 : decode cX7_tellMany 115 = .ok (.invokevirtual 356, 3) := by decide +kernel
theorem dX7_tellMany_118 : decode cX7_tellMany 118 = .ok (.ireturn, 1) := by decide +kernel
theorem dX7_tellMany_119 : decode cX7_tellMany 119 = .ok (.aload_n 0, 1) := by decide +kernel
theorem dX7_tellMany_120 : decode cX7_tellMany 120 = .ok (.getfield 36, 3) := by decide +kernel
theorem dX7_tellMany_123 : decode cX7_tellMany 123 = .ok (.invokevirtual 136, 3) := by decide +kernel
theorem dX7_tellMany_126 : decode cX7_tellMany 126 = .ok (.ireturn, 1) := by decide +kernel
theorem dX7_tellMany_127 : decode cX7_tellMany 127 = .ok (.aload_n 0, 1) := by decide +kernel
theorem dX7_tellMany_128 : decode cX7_tellMany 128 = .ok (.getfield 43, 3) := by decide +kernel
theorem dX7_tellMany_131 : decode cX7_tellMany 131 = .ok (.getfield 246, 3) := by decide +kernel
theorem dX7_tellMany_134 : decode cX7_tellMany 134 = .ok (.ireturn, 1) := by decide +kernel
theorem dX7_tellMany_135 : decode cX7_tellMany 135 = .ok (.aload_n 0, 1) := by decide +kernel
theorem dX7_tellMany_136 : decode cX7_tellMany 136 = .ok (.getfield 43, 3) := by decide +kernel
theorem dX7_tellMany_139 : decode cX7_tellMany 139 = .ok (.invokevirtual 358, 3) := by decide +kernel
theorem dX7_tellMany_142 : decode cX7_tellMany 142 = .ok (.ireturn, 1) := by decide +kernel
theorem dX7_tellMany_143 : decode cX7_tellMany 143 = .ok (.aload_n 0, 1) := by decide +kernel
theorem dX7_tellMany_144 : decode cX7_tellMany 144 = .ok (.getfield 26, 3) := by decide +kernel
theorem dX7_tellMany_147 : decode cX7_tellMany 147 = .ok (.getfield 361, 3) := by decide +kernel
theorem dX7_tellMany_150 : decode cX7_tellMany 150 = .ok (.ifCond .eq 7, 3) := by decide +kernel
theorem dX7_tellMany_153 : decode cX7_tellMany 153 = .ok (.iconst 1, 1) := by decide +kernel
theorem dX7_tellMany_154 : decode cX7_tellMany 154 = .ok (.goto 4, 3) := by decide +kernel
theorem dX7_tellMany_157 : decode cX7_tellMany 157 = .ok (.iconst 0, 1) := by decide +kernel
theorem dX7_tellMany_158 : decode cX7_tellMany 158 = .ok (.ireturn, 1) := by decide +kernel
set_option maxRecDepth 20000 in
theorem ggX7_tellPatch_X4_get : GoodIn wsX7_tellPatch wsX4_get := goodIn_r _ [11, 12, 35] (by decide +kernel) (by decide +kernel)
set_option maxRecDepth 20000 in
theorem gX7_tellPatch_X4_get : GoodIn wsX7_tellPatch (wsV RX7 109 RX4 yX4_get wsX4_get) := goodIn_app (goodIn_of _ (by decide +kernel)) ggX7_tellPatch_X4_get
theorem dX7_tellPatch_0 : decode cX7_tellPatch 0 = .ok (.iload_n 2, 1) := by decide +kernel
theorem dX7_tellPatch_1 : decode cX7_tellPatch 1 = .ok (.tableswitch 73 0 2 #[27, 49, 61], 27) := by decide +kernel
theorem dX7_tellPatch_28 : decode cX7_tellPatch 28 = .ok (.aload_n 0, 1) := by decide +kernel
theorem dX7_tellPatch_29 : decode cX7_tellPatch 29 = .ok (.getfield 12, 3) := by decide +kernel
theorem dX7_tellPatch_32 : decode cX7_tellPatch 32 = .ok (.getfield 266, 3) := by decide +kernel
theorem dX7_tellPatch_35 : decode cX7_tellPatch 35 = .ok (.aload_n 0, 1) := by decide +kernel
theorem dX7_tellPatch_36 : decode cX7_tellPatch 36 = .ok (.getfield 43, 3) := by decide +kernel
theorem dX7_tellPatch_39 : decode cX7_tellPatch 39 = .ok (.getfield 269, 3) := by decide +kernel
theorem dX7_tellPatch_42 : decode cX7_tellPatch 42 = .ok (.iload_n 1, 1) := by decide +kernel
theorem dX7_tellPatch_43 : decode cX7_tellPatch 43 = .ok (.invokevirtual 109, 3) := by decide +kernel
theorem dX7_tellPatch_46 : decode cX7_tellPatch 46 = .ok (.invokevirtual 109, 3) := by decide +kernel
theorem dX7_tellPatch_49 : decode cX7_tellPatch 49 = .ok (.ireturn, 1) := by decide +kernel
theorem dX7_tellPatch_50 : decode cX7_tellPatch 50 = .ok (.aload_n 0, 1) := by decide +kernel
theorem dX7_tellPatch_51 : decode cX7_tellPatch 51 = .ok (.getfield 43, 3) := by decide +kernel
theorem dX7_tellPatch_54 : decode cX7_tellPatch 54 = .ok (.getfield 269, 3) := by decide +kernel
theorem dX7_tellPatch_57 : decode cX7_tellPatch 57 = .ok (.iload_n 1, 1) := by decide +kernel
theorem dX7_tellPatch_58 : decode cX7_tellPatch 58 = .ok (.invokevirtual 109, 3) := by decide +kernel
theorem dX7_tellPatch_61 : decode cX7_tellPatch 61 = .ok (.ireturn, 1) := by decide +kernel
theorem dX7_tellPatch_62 : decode cX7_tellPatch 62 = .ok (.aload_n 0, 1) := by decide +kernel
theorem dX7_tellPatch_63 : decode cX7_tellPatch 63 = .ok (.getfield 43, 3) := by decide +kernel
theorem dX7_tellPatch_66 : decode cX7_tellPatch 66 = .ok (.getfield 364, 3) := by decide +kernel
theorem dX7_tellPatch_69 : decode cX7_tellPatch 69 = .ok (.iload_n 1, 1) := by decide +kernel
theorem dX7_tellPatch_70 : decode cX7_tellPatch 70 = .ok (.invokevirtual 109, 3) := by decide +kernel
theorem dX7_tellPatch_73 : decode cX7_tellPatch 73 = .ok (.ireturn, 1) := by decide +kernel
theorem dX7_tellPatch_74 : decode cX7_tellPatch 74 = .ok (.aload_n 0, 1) := by decide +kernel
theorem dX7_tellPatch_75 : decode cX7_tellPatch 75 = .ok (.getfield 43, 3) := by decide +kernel
theorem dX7_tellPatch_78 : decode cX7_tellPatch 78 = .ok (.getfield 367, 3) := by decide +kernel
theorem dX7_tellPatch_81 : decode cX7_tellPatch 81 = .ok (.iload_n 1, 1) := by decide +kernel
theorem dX7_tellPatch_82 : decode cX7_tellPatch 82 = .ok (.invokevirtual 109, 3) := by decide +kernel
theorem dX7_tellPatch_85 : decode cX7_tellPatch 85 = .ok (.ireturn, 1) := by decide +kernel
set_option maxRecDepth 20000 in
theorem ggX7_carryOutPatches_X7_canBeDone : GoodIn wsX7_carryOutPatches wsX7_canBeDone := goodIn_r _ [7, 1, 2, 8, 9, 10, 11, 12, 13, 14, 15, 16, 17, 18, 19, 20, 21, 22, 23, 24, 25, 26, 27, 28, 29, 6, 30, 31, 32, 33, 34, 35, 36, 37, 38, 39, 40, 41, 42, 43, 44, 45, 46, 47, 48, 49, 50, 51, 52, 53, 54, 55, 56, 57, 58, 59, 60, 61, 62, 63, 64, 156, 157, 158, 159, 160, 161, 162, 163, 164, 165, 166, 167, 168, 169, 170, 171, 172, 173, 174, 175, 176, 177, 178, 179, 180, 181, 182, 183, 184, 185, 186, 187, 188, 189, 190, 191] (by decide +kernel) (by decide +kernel)
set_option maxRecDepth 20000 in
theorem gX7_carryOutPatches_X7_canBeDone : GoodIn wsX7_carryOutPatches (wsV RX7 370 RX7 yX7_canBeDone wsX7_canBeDone) := goodIn_app (goodIn_of _ (by decide +kernel)) ggX7_carryOutPatches_X7_canBeDone
set_option maxRecDepth 20000 in
theorem ggX7_carryOutPatches_X7_carryOut : GoodIn wsX7_carryOutPatches wsX7_carryOut := goodIn_r _ [68, 69, 33, 1, 2, 31, 32, 70, 71, 72, 61, 73, 74, 75, 63, 76, 77, 78, 79, 80, 81, 82, 83, 84, 85, 86, 87, 88, 89, 90, 91, 18, 92, 20, 93, 21, 22, 23, 11, 24, 25, 15, 16, 17, 19, 26, 9, 10, 12, 13, 14, 45, 94, 95, 96, 97, 98, 99, 100, 101, 64, 102, 59, 60, 62, 103, 104, 105, 106, 107, 108, 109, 110, 111, 112, 113, 114, 115, 116, 117, 118, 119, 120, 121, 122, 123, 124, 125, 126, 127, 128, 129, 130, 131, 132, 133, 134, 135, 136, 137, 138, 139, 140, 141, 142, 143, 144, 145, 146, 147, 148, 149, 150, 151, 152, 153, 154, 155, 156, 157, 158, 159, 160, 161, 162, 163, 164, 165, 166, 167, 169, 170, 171, 172, 173, 174, 175, 176, 177, 178, 179, 168, 180, 181, 182, 183, 184, 185, 186, 187, 188, 189] (by decide +kernel) (by decide +kernel)
set_option maxRecDepth 20000 in
theorem gX7_carryOutPatches_X7_carryOut : GoodIn wsX7_carryOutPatches (wsV RX7 373 RX7 yX7_carryOut wsX7_carryOut) := goodIn_app (goodIn_of _ (by decide +kernel)) ggX7_carryOutPatches_X7_carryOut
theorem dX7_carryOutPatches_0 : decode cX7_carryOutPatches 0 = .ok (.iconst 0, 1) := by decide +kernel
theorem dX7_carryOutPatches_1 : decode cX7_carryOutPatches 1 = .ok (.istore_n 1, 1) := by decide +kernel
theorem dX7_carryOutPatches_2 : decode cX7_carryOutPatches 2 = .ok (.iload_n 1, 1) := by decide +kernel
theorem dX7_carryOutPatches_3 : decode cX7_carryOutPatches 3 = .ok (.bipush 8, 2) := by decide +kernel
theorem dX7_carryOutPatches_5 : decode cX7_carryOutPatches 5 = .ok (.if_icmp .ge 60, 3) := by decide +kernel
theorem dX7_carryOutPatches_8 : decode cX7_carryOutPatches 8 = .ok (.iconst (-1), 1) := by decide +kernel
theorem dX7_carryOutPatches_9 : decode cX7_carryOutPatches 9 = .ok (.istore_n 2, 1) := by decide +kernel
theorem dX7_carryOutPatches_10 : decode cX7_carryOutPatches 10 = .ok (.iconst 0, 1) := by decide +kernel
theorem dX7_carryOutPatches_11 : decode cX7_carryOutPatches 11 = .ok (.istore_n 3, 1) := by decide +kernel
theorem dX7_carryOutPatches_12 : decode cX7_carryOutPatches 12 = .ok (.iload_n 3, 1) := by decide +kernel
theorem dX7_carryOutPatches_13 : decode cX7_carryOutPatches 13 = .ok (.aload_n 0, 1) := by decide +kernel
theorem dX7_carryOutPatches_14 : decode cX7_carryOutPatches 14 = .ok (.getfield 43, 3) := by decide +kernel
theorem dX7_carryOutPatches_17 : decode cX7_carryOutPatches 17 = .ok (.getfield 246, 3) := by decide +kernel
theorem dX7_carryOutPatches_20 : decode cX7_carryOutPatches 20 = .ok (.if_icmp .ge 28, 3) := by decide +kernel
theorem dX7_carryOutPatches_23 : decode cX7_carryOutPatches 23 = .ok (.iload_n 2, 1) := by decide +kernel
theorem dX7_carryOutPatches_24 : decode cX7_carryOutPatches 24 = .ok (.iconst (-1), 1) := by decide +kernel
theorem dX7_carryOutPatches_25 : decode cX7_carryOutPatches 25 = .ok (.if_icmp .ne 23, 3) := by decide +kernel
theorem dX7_carryOutPatches_28 : decode cX7_carryOutPatches 28 = .ok (.aload_n 0, 1) := by decide +kernel
theorem dX7_carryOutPatches_29 : decode cX7_carryOutPatches 29 = .ok (.iload_n 3, 1) := by decide +kernel
theorem dX7_carryOutPatches_30 : decode cX7_carryOutPatches 30 = .ok (.invokevirtual 370, 3) := by decide +kernel
theorem dX7_carryOutPatches_33 : decode cX7_carryOutPatches 33 = .ok (.ifCond .eq 7, 3) := by decide +kernel
theorem dX7_carryOutPatches_36 : decode cX7_carryOutPatches 36 = .ok (.iload_n 3, 1) := by decide +kernel
theorem dX7_carryOutPatches_37 : decode cX7_carryOutPatches 37 = .ok (.goto 4, 3) := by decide +kernel
theorem dX7_carryOutPatches_40 : decode cX7_carryOutPatches 40 = .ok (.iconst (-1), 1) := by decide +kernel
theorem dX7_carryOutPatches_41 : decode cX7_carryOutPatches 41 = .ok (.istore_n 2, 1) := by decide +kernel
theorem dX7_carryOutPatches_42 : decode cX7_carryOutPatches 42 = .ok (.iinc 3 1, 3) := by decide +kernel
theorem dX7_carryOutPatches_45 : decode cX7_carryOutPatches 45 = .ok (.goto (-33), 3) := by decide +kernel
theorem dX7_carryOutPatches_48 : decode cX7_carryOutPatches 48 = .ok (.iload_n 2, 1) := by decide +kernel
theorem dX7_carryOutPatches_49 : decode cX7_carryOutPatches 49 = .ok (.iconst (-1), 1) := by decide +kernel
theorem dX7_carryOutPatches_50 : decode cX7_carryOutPatches 50 = .ok (.if_icmp .ne 4, 3) := by decide +kernel
theorem dX7_carryOutPatches_53 : decode cX7_carryOutPatches 53 = .ok (.return_, 1) := by decide +kernel
theorem dX7_carryOutPatches_54 : decode cX7_carryOutPatches 54 = .ok (.aload_n 0, 1) := by decide +kernel
theorem dX7_carryOutPatches_55 : decode cX7_carryOutPatches 55 = .ok (.iload_n 2, 1) := by decide +kernel
theorem dX7_carryOutPatches_56 : decode cX7_carryOutPatches 56 = .ok (.invokevirtual 373, 3) := by decide +kernel
theorem dX7_carryOutPatches_59 : decode cX7_carryOutPatches 59 = .ok (.iinc 1 1, 3) := by decide +kernel
theorem dX7_carryOutPatches_62 : decode cX7_carryOutPatches 62 = .ok (.goto (-60), 3) := by decide +kernel
theorem dX7_carryOutPatches_65 : decode cX7_carryOutPatches 65 = .ok (.return_, 1) := by decide +kernel
set_option maxRecDepth 20000 in
theorem ggX7_canBeDone_X3_isWaiting : GoodIn wsX7_canBeDone wsX3_isWaiting := goodIn_r _ [7, 8, 9, 10, 11, 12, 13, 14, 15, 69, 70, 71, 72, 73] (by decide +kernel) (by decide +kernel)
set_option maxRecDepth 20000 in
theorem gX7_canBeDone_X3_isWaiting : GoodIn wsX7_canBeDone (wsV RX7 261 RX3 yX3_isWaiting wsX3_isWaiting) := goodIn_app (goodIn_of _ (by decide +kernel)) ggX7_canBeDone_X3_isWaiting
set_option maxRecDepth 20000 in
theorem ggX7_canBeDone_X3_goesWith : GoodIn wsX7_canBeDone wsX3_goesWith := goodIn_r _ [19, 20, 10, 11, 12, 13, 14, 15, 21, 4, 5, 6, 7, 8, 9, 69, 70, 71, 72, 73] (by decide +kernel) (by decide +kernel)
set_option maxRecDepth 20000 in
theorem gX7_canBeDone_X3_goesWith : GoodIn wsX7_canBeDone (wsV RX7 376 RX3 yX3_goesWith wsX3_goesWith) := goodIn_app (goodIn_of _ (by decide +kernel)) ggX7_canBeDone_X3_goesWith
set_option maxRecDepth 20000 in
theorem ggX7_canBeDone_X7_isClear : GoodIn wsX7_canBeDone wsX7_isClear := goodIn_r _ [26, 1, 27, 28, 29, 30, 31, 32, 33, 34, 35, 36, 37, 6, 38, 39, 40, 10, 11, 12, 13, 14, 15, 21, 4, 5, 7, 8, 9, 41, 42, 43, 44, 45, 46, 47, 48, 49, 50, 51, 52, 53, 54, 55, 56, 57, 58, 59, 60, 61, 62, 63, 64, 65, 66, 67, 68, 69, 70, 71, 72, 74, 75, 76, 77, 78, 79, 80, 81, 82, 83, 84, 85, 86, 87, 88, 89, 90, 91, 92, 93, 94, 73, 95, 96] (by decide +kernel) (by decide +kernel)
set_option maxRecDepth 20000 in
theorem gX7_canBeDone_X7_isClear : GoodIn wsX7_canBeDone (wsV RX7 379 RX7 yX7_isClear wsX7_isClear) := goodIn_app (goodIn_of _ (by decide +kernel)) ggX7_canBeDone_X7_isClear
theorem dX7_canBeDone_0 : decode cX7_canBeDone 0 = .ok (.aload_n 0, 1) := by decide +kernel
theorem dX7_canBeDone_1 : decode cX7_canBeDone 1 = .ok (.getfield 43, 3) := by decide +kernel
theorem dX7_canBeDone_4 : decode cX7_canBeDone 4 = .ok (.iload_n 1, 1) := by decide +kernel
theorem dX7_canBeDone_5 : decode cX7_canBeDone 5 = .ok (.invokevirtual 261, 3) := by decide +kernel
theorem dX7_canBeDone_8 : decode cX7_canBeDone 8 = .ok (.ifCond .ne 5, 3) := by decide +kernel
theorem dX7_canBeDone_11 : decode cX7_canBeDone 11 = .ok (.iconst 0, 1) := by decide +kernel
theorem dX7_canBeDone_12 : decode cX7_canBeDone 12 = .ok (.ireturn, 1) := by decide +kernel
theorem dX7_canBeDone_13 : decode cX7_canBeDone 13 = .ok (.iconst 0, 1) := by decide +kernel
theorem dX7_canBeDone_14 : decode cX7_canBeDone 14 = .ok (.istore_n 2, 1) := by decide +kernel
theorem dX7_canBeDone_15 : decode cX7_canBeDone 15 = .ok (.iload_n 2, 1) := by decide +kernel
theorem dX7_canBeDone_16 : decode cX7_canBeDone 16 = .ok (.aload_n 0, 1) := by decide +kernel
theorem dX7_canBeDone_17 : decode cX7_canBeDone 17 = .ok (.getfield 43, 3) := by decide +kernel
theorem dX7_canBeDone_20 : decode cX7_canBeDone 20 = .ok (.getfield 246, 3) := by decide +kernel
theorem dX7_canBeDone_23 : decode cX7_canBeDone 23 = .ok (.if_icmp .ge 31, 3) := by decide +kernel
theorem dX7_canBeDone_26 : decode cX7_canBeDone 26 = .ok (.aload_n 0, 1) := by decide +kernel
theorem dX7_canBeDone_27 : decode cX7_canBeDone 27 = .ok (.getfield 43, 3) := by decide +kernel
theorem dX7_canBeDone_30 : decode cX7_canBeDone 30 = .ok (.iload_n 2, 1) := by decide +kernel
theorem dX7_canBeDone_31 : decode cX7_canBeDone 31 = .ok (.iload_n 1, 1) := by decide +kernel
theorem dX7_canBeDone_32 : decode cX7_canBeDone 32 = .ok (.invokevirtual 376, 3) := by decide +kernel
theorem dX7_canBeDone_35 : decode cX7_canBeDone 35 = .ok (.ifCond .eq 13, 3) := by decide +kernel
theorem dX7_canBeDone_38 : decode cX7_canBeDone 38 = .ok (.aload_n 0, 1) := by decide +kernel
theorem dX7_canBeDone_39 : decode cX7_canBeDone 39 = .ok (.iload_n 2, 1) := by decide +kernel
theorem dX7_canBeDone_40 : decode cX7_canBeDone 40 = .ok (.invokevirtual 379, 3) := by decide +kernel
theorem dX7_canBeDone_43 : decode cX7_canBeDone 43 = .ok (.ifCond .ne 5, 3) := by decide +kernel
theorem dX7_canBeDone_46 : decode cX7_canBeDone 46 = .ok (.iconst 0, 1) := by decide +kernel
theorem dX7_canBeDone_47 : decode cX7_canBeDone 47 = .ok (.ireturn, 1) := by decide +kernel
theorem dX7_canBeDone_48 : decode cX7_canBeDone 48 = .ok (.iinc 2 1, 3) := by decide +kernel
theorem dX7_canBeDone_51 : decode cX7_canBeDone 51 = .ok (.goto (-36), 3) := by decide +kernel
theorem dX7_canBeDone_54 : decode cX7_canBeDone 54 = .ok (.iconst 1, 1) := by decide +kernel
theorem dX7_canBeDone_55 : decode cX7_canBeDone 55 = .ok (.ireturn, 1) := by decide +kernel
set_option maxRecDepth 20000 in
theorem ggX7_isClear_X3_waitsBehind : GoodIn wsX7_isClear wsX3_waitsBehind := goodIn_r _ [14, 15, 16, 17, 18, 19, 20, 21, 22, 23, 24, 25, 13, 26, 27, 28, 72, 73, 74, 75, 76, 77, 78, 79, 80, 81, 57, 58, 59, 60, 82] (by decide +kernel) (by decide +kernel)
set_option maxRecDepth 20000 in
theorem gX7_isClear_X3_waitsBehind : GoodIn wsX7_isClear (wsV RX7 382 RX3 yX3_waitsBehind wsX3_waitsBehind) := goodIn_app (goodIn_of _ (by decide +kernel)) ggX7_isClear_X3_waitsBehind
set_option maxRecDepth 20000 in
theorem ggX7_isClear_X4_get : GoodIn wsX7_isClear wsX4_get := goodIn_r _ [21, 22, 82] (by decide +kernel) (by decide +kernel)
set_option maxRecDepth 20000 in
theorem gX7_isClear_X4_get : GoodIn wsX7_isClear (wsV RX7 109 RX4 yX4_get wsX4_get) := goodIn_app (goodIn_of _ (by decide +kernel)) ggX7_isClear_X4_get
set_option maxRecDepth 20000 in
theorem ggX7_isClear_X5_runsWith : GoodIn wsX7_isClear wsX5_runsWith := goodIn_r _ [34, 35, 36, 37, 33, 38, 39, 40, 41, 18, 19, 20, 21, 22, 83, 84, 82] (by decide +kernel) (by decide +kernel)
set_option maxRecDepth 20000 in
theorem gX7_isClear_X5_runsWith : GoodIn wsX7_isClear (wsV RX7 338 RX5 yX5_runsWith wsX5_runsWith) := goodIn_app (goodIn_of _ (by decide +kernel)) ggX7_isClear_X5_runsWith
set_option maxRecDepth 20000 in
theorem ggX7_isClear_X0_room : GoodIn wsX7_isClear wsX0_room := goodIn_r _ [46, 47, 48, 18, 19, 20, 21, 22, 61, 62, 63, 64, 65, 82] (by decide +kernel) (by decide +kernel)
set_option maxRecDepth 20000 in
theorem gX7_isClear_X0_room : GoodIn wsX7_isClear (wsV RX7 282 RX0 yX0_room wsX0_room) := goodIn_app (goodIn_of _ (by decide +kernel)) ggX7_isClear_X0_room
theorem dX7_isClear_0 : decode cX7_isClear 0 = .ok (.aload_n 0, 1) := by decide +kernel
theorem dX7_isClear_1 : decode cX7_isClear 1 = .ok (.getfield 43, 3) := by decide +kernel
theorem dX7_isClear_4 : decode cX7_isClear 4 = .ok (.aload_n 0, 1) := by decide +kernel
theorem dX7_isClear_5 : decode cX7_isClear 5 = .ok (.getfield 12, 3) := by decide +kernel
theorem dX7_isClear_8 : decode cX7_isClear 8 = .ok (.iload_n 1, 1) := by decide +kernel
theorem dX7_isClear_9 : decode cX7_isClear 9 = .ok (.invokevirtual 382, 3) := by decide +kernel
theorem dX7_isClear_12 : decode cX7_isClear 12 = .ok (.ifCond .eq 5, 3) := by decide +kernel
theorem dX7_isClear_15 : decode cX7_isClear 15 = .ok (.iconst 0, 1) := by decide +kernel
theorem dX7_isClear_16 : decode cX7_isClear 16 = .ok (.ireturn, 1) := by decide +kernel
theorem dX7_isClear_17 : decode cX7_isClear 17 = .ok (.aload_n 0, 1) := by decide +kernel
theorem dX7_isClear_18 : decode cX7_isClear 18 = .ok (.getfield 43, 3) := by decide +kernel
theorem dX7_isClear_21 : decode cX7_isClear 21 = .ok (.getfield 269, 3) := by decide +kernel
theorem dX7_isClear_24 : decode cX7_isClear 24 = .ok (.iload_n 1, 1) := by decide +kernel
theorem dX7_isClear_25 : decode cX7_isClear 25 = .ok (.invokevirtual 109, 3) := by decide +kernel
theorem dX7_isClear_28 : decode cX7_isClear 28 = .ok (.istore_n 2, 1) := by decide +kernel
theorem dX7_isClear_29 : decode cX7_isClear 29 = .ok (.aload_n 0, 1) := by decide +kernel
theorem dX7_isClear_30 : decode cX7_isClear 30 = .ok (.getfield 26, 3) := by decide +kernel
theorem dX7_isClear_33 : decode cX7_isClear 33 = .ok (.getfield 116, 3) := by decide +kernel
theorem dX7_isClear_36 : decode cX7_isClear 36 = .ok (.getfield 205, 3) := by decide +kernel
theorem dX7_isClear_39 : decode cX7_isClear 39 = .ok (.aload_n 0, 1) := by decide +kernel
theorem dX7_isClear_40 : decode cX7_isClear 40 = .ok (.getfield 12, 3) := by decide +kernel
theorem dX7_isClear_43 : decode cX7_isClear 43 = .ok (.getfield 266, 3) := by decide +kernel
theorem dX7_isClear_46 : decode cX7_isClear 46 = .ok (.iload_n 2, 1) := by decide +kernel
theorem dX7_isClear_47 : decode cX7_isClear 47 = .ok (.invokevirtual 109, 3) := by decide +kernel
theorem dX7_isClear_50 : decode cX7_isClear 50 = .ok (.invokevirtual 109, 3) := by decide +kernel
theorem dX7_isClear_53 : decode cX7_isClear 53 = .ok (.istore_n 3, 1) := by decide +kernel
theorem dX7_isClear_54 : decode cX7_isClear 54 = .ok (.aload_n 0, 1) := by decide +kernel
theorem dX7_isClear_55 : decode cX7_isClear 55 = .ok (.getfield 36, 3) := by decide +kernel
theorem dX7_isClear_58 : decode cX7_isClear 58 = .ok (.iload_n 3, 1) := by decide +kernel
theorem dX7_isClear_59 : decode cX7_isClear 59 = .ok (.invokevirtual 338, 3) := by decide +kernel
theorem dX7_isClear_62 : decode cX7_isClear 62 = .ok (.ifCond .ne 29, 3) := by decide +kernel
theorem dX7_isClear_65 : decode cX7_isClear 65 = .ok (.aload_n 0, 1) := by decide +kernel
theorem dX7_isClear_66 : decode cX7_isClear 66 = .ok (.getfield 26, 3) := by decide +kernel
theorem dX7_isClear_69 : decode cX7_isClear 69 = .ok (.aload_n 0, 1) := by decide +kernel
theorem dX7_isClear_70 : decode cX7_isClear 70 = .ok (.getfield 12, 3) := by decide +kernel
theorem dX7_isClear_73 : decode cX7_isClear 73 = .ok (.getfield 329, 3) := by decide +kernel
theorem dX7_isClear_76 : decode cX7_isClear 76 = .ok (.iload_n 2, 1) := by decide +kernel
theorem dX7_isClear_77 : decode cX7_isClear 77 = .ok (.invokevirtual 109, 3) := by decide +kernel
theorem dX7_isClear_80 : decode cX7_isClear 80 = .ok (.invokevirtual 282, 3) := by decide +kernel
theorem dX7_isClear_83 : decode cX7_isClear 83 = .ok (.iconst (-1), 1) := by decide +kernel
theorem dX7_isClear_84 : decode cX7_isClear 84 = .ok (.if_icmp .eq 7, 3) := by decide +kernel
theorem dX7_isClear_87 : decode cX7_isClear 87 = .ok (.iconst 1, 1) := by decide +kernel
theorem dX7_isClear_88 : decode cX7_isClear 88 = .ok (.goto 4, 3) := by decide +kernel
theorem dX7_isClear_91 : decode cX7_isClear 91 = .ok (.iconst 0, 1) := by decide +kernel
theorem dX7_isClear_92 : decode cX7_isClear 92 = .ok (.ireturn, 1) := by decide +kernel
set_option maxRecDepth 20000 in
theorem ggX7_carryOut_X0_copy : GoodIn wsX7_carryOut wsX0_copy := goodIn_r _ [11, 12, 13, 14, 15, 16, 17, 18, 19, 20, 21, 22, 23, 24, 25, 26, 27, 28, 29, 30, 31, 32, 33, 34, 130, 131, 132, 133, 134, 135, 136, 137, 138, 139, 140, 141] (by decide +kernel) (by decide +kernel)
set_option maxRecDepth 20000 in
theorem gX7_carryOut_X0_copy : GoodIn wsX7_carryOut (wsV RX7 386 RX0 yX0_copy wsX0_copy) := goodIn_app (goodIn_of _ (by decide +kernel)) ggX7_carryOut_X0_copy
set_option maxRecDepth 20000 in
theorem ggX7_carryOut_X3_goesWith : GoodIn wsX7_carryOut wsX3_goesWith := goodIn_r _ [39, 40, 41, 42, 43, 31, 44, 33, 45, 46, 47, 38, 48, 49, 50, 126, 127, 128, 129, 141] (by decide +kernel) (by decide +kernel)
set_option maxRecDepth 20000 in
theorem gX7_carryOut_X3_goesWith : GoodIn wsX7_carryOut (wsV RX7 376 RX3 yX3_goesWith wsX3_goesWith) := goodIn_app (goodIn_of _ (by decide +kernel)) ggX7_carryOut_X3_goesWith
set_option maxRecDepth 20000 in
theorem ggX7_carryOut_X4_get : GoodIn wsX7_carryOut wsX4_get := goodIn_r _ [44, 33, 141] (by decide +kernel) (by decide +kernel)
set_option maxRecDepth 20000 in
theorem gX7_carryOut_X4_get : GoodIn wsX7_carryOut (wsV RX7 109 RX4 yX4_get wsX4_get) := goodIn_app (goodIn_of _ (by decide +kernel)) ggX7_carryOut_X4_get
set_option maxRecDepth 20000 in
theorem ggX7_carryOut_X0_replace : GoodIn wsX7_carryOut wsX0_replace := goodIn_r _ [55, 56, 57, 13, 58, 59, 16, 60, 42, 43, 31, 44, 33, 61, 62, 63, 10, 64, 14, 65, 66, 67, 68, 15, 69, 70, 71, 72, 73, 74, 75, 20, 76, 77, 78, 79, 80, 81, 82, 83, 26, 84, 85, 86, 87, 88, 89, 90, 91, 92, 93, 94, 95, 96, 97, 98, 99, 100, 25, 101, 102, 103, 104, 22, 105, 106, 107, 108, 27, 109, 110, 111, 142, 143, 144, 145, 146, 147, 148, 149, 150, 151, 130, 131, 132, 133, 134, 135, 136, 137, 138, 139, 140, 141] (by decide +kernel) (by decide +kernel)
set_option maxRecDepth 20000 in
theorem gX7_carryOut_X0_replace : GoodIn wsX7_carryOut (wsV RX7 390 RX0 yX0_replace wsX0_replace) := goodIn_app (goodIn_of _ (by decide +kernel)) ggX7_carryOut_X0_replace
set_option maxRecDepth 20000 in
theorem ggX7_carryOut_X3_end : GoodIn wsX7_carryOut wsX3_end := goodIn_r _ [115, 49, 50, 116, 36, 37, 38, 39, 40, 41, 42, 43, 31, 44, 33, 45, 46, 47, 48, 117, 70, 71, 72, 126, 127, 128, 129, 141] (by decide +kernel) (by decide +kernel)
set_option maxRecDepth 20000 in
theorem gX7_carryOut_X3_end : GoodIn wsX7_carryOut (wsV RX7 393 RX3 yX3_end wsX3_end) := goodIn_app (goodIn_of _ (by decide +kernel)) ggX7_carryOut_X3_end
theorem dX7_carryOut_0 : decode cX7_carryOut 0 = .ok (.aload_n 0, 1) := by decide +kernel
theorem dX7_carryOut_1 : decode cX7_carryOut 1 = .ok (.getfield 30, 3) := by decide +kernel
theorem dX7_carryOut_4 : decode cX7_carryOut 4 = .ok (.aload_n 0, 1) := by decide +kernel
theorem dX7_carryOut_5 : decode cX7_carryOut 5 = .ok (.getfield 26, 3) := by decide +kernel
theorem dX7_carryOut_8 : decode cX7_carryOut 8 = .ok (.invokevirtual 386, 3) := by decide +kernel
theorem dX7_carryOut_11 : decode cX7_carryOut 11 = .ok (.iconst 1, 1) := by decide +kernel
theorem dX7_carryOut_12 : decode cX7_carryOut 12 = .ok (.istore_n 2, 1) := by decide +kernel
theorem dX7_carryOut_13 : decode cX7_carryOut 13 = .ok (.iconst 0, 1) := by decide +kernel
theorem dX7_carryOut_14 : decode cX7_carryOut 14 = .ok (.istore_n 3, 1) := by decide +kernel
theorem dX7_carryOut_15 : decode cX7_carryOut 15 = .ok (.iload_n 3, 1) := by decide +kernel
theorem dX7_carryOut_16 : decode cX7_carryOut 16 = .ok (.aload_n 0, 1) := by decide +kernel
theorem dX7_carryOut_17 : decode cX7_carryOut 17 = .ok (.getfield 43, 3) := by decide +kernel
theorem dX7_carryOut_20 : decode cX7_carryOut 20 = .ok (.getfield 246, 3) := by decide +kernel
theorem dX7_carryOut_23 : decode cX7_carryOut 23 = .ok (.if_icmp .ge 48, 3) := by decide +kernel
theorem dX7_carryOut_26 : decode cX7_carryOut 26 = .ok (.iload_n 2, 1) := by decide +kernel
theorem dX7_carryOut_27 : decode cX7_carryOut 27 = .ok (.ifCond .eq 44, 3) := by decide +kernel
theorem dX7_carryOut_30 : decode cX7_carryOut 30 = .ok (.aload_n 0, 1) := by decide +kernel
theorem dX7_carryOut_31 : decode cX7_carryOut 31 = .ok (.getfield 43, 3) := by decide +kernel
theorem dX7_carryOut_34 : decode cX7_carryOut 34 = .ok (.iload_n 3, 1) := by decide +kernel
theorem dX7_carryOut_35 : decode cX7_carryOut 35 = .ok (.iload_n 1, 1) := by decide +kernel
theorem dX7_carryOut_36 : decode cX7_carryOut 36 = .ok (.invokevirtual 376, 3) := by decide +kernel
theorem dX7_carryOut_39 : decode cX7_carryOut 39 = .ok (.ifCond .eq 26, 3) := by decide +kernel
theorem dX7_carryOut_42 : decode cX7_carryOut 42 = .ok (.aload_n 0, 1) := by decide +kernel
theorem dX7_carryOut_43 : decode cX7_carryOut 43 = .ok (.getfield 30, 3) := by decide +kernel
theorem dX7_carryOut_46 : decode cX7_carryOut 46 = .ok (.aload_n 0, 1) := by decide +kernel
theorem dX7_carryOut_47 : decode cX7_carryOut 47 = .ok (.getfield 12, 3) := by decide +kernel
theorem dX7_carryOut_50 : decode cX7_carryOut 50 = .ok (.aload_n 0, 1) := by decide +kernel
theorem dX7_carryOut_51 : decode cX7_carryOut 51 = .ok (.getfield 43, 3) := by decide +kernel
theorem dX7_carryOut_54 : decode cX7_carryOut 54 = .ok (.getfield 269, 3) := by decide +kernel
theorem dX7_carryOut_57 : decode cX7_carryOut 57 = .ok (.iload_n 3, 1) := by decide +kernel
theorem dX7_carryOut_58 : decode cX7_carryOut 58 = .ok (.invokevirtual 109, 3) := by decide +kernel
theorem dX7_carryOut_61 : decode cX7_carryOut 61 = .ok (.invokevirtual 390, 3) := by decide +kernel
theorem dX7_carryOut_64 : decode cX7_carryOut 64 = .ok (.istore_n 2, 1) := by decide +kernel
theorem dX7_carryOut_65 : decode cX7_carryOut 65 = .ok (.iinc 3 1, 3) := by decide +kernel
theorem dX7_carryOut_68 : decode cX7_carryOut 68 = .ok (.goto (-53), 3) := by decide +kernel
theorem dX7_carryOut_71 : decode cX7_carryOut 71 = .ok (.iload_n 2, 1) := by decide +kernel
theorem dX7_carryOut_72 : decode cX7_carryOut 72 = .ok (.ifCond .eq 14, 3) := by decide +kernel
theorem dX7_carryOut_75 : decode cX7_carryOut 75 = .ok (.aload_n 0, 1) := by decide +kernel
theorem dX7_carryOut_76 : decode cX7_carryOut 76 = .ok (.getfield 26, 3) := by decide +kernel
theorem dX7_carryOut_79 : decode cX7_carryOut 79 = .ok (.aload_n 0, 1) := by decide +kernel
theorem dX7_carryOut_80 : decode cX7_carryOut 80 = .ok (.getfield 30, 3) := by decide +kernel
theorem dX7_carryOut_83 : decode cX7_carryOut 83 = .ok (.invokevirtual 386, 3) := by decide +kernel
theorem dX7_carryOut_86 : decode cX7_carryOut 86 = .ok (.aload_n 0, 1) := by decide +kernel
theorem dX7_carryOut_87 : decode cX7_carryOut 87 = .ok (.getfield 43, 3) := by decide +kernel
theorem dX7_carryOut_90 : decode cX7_carryOut 90 = .ok (.iload_n 1, 1) := by decide +kernel
theorem dX7_carryOut_91 : decode cX7_carryOut 91 = .ok (.iload_n 2, 1) := by decide +kernel
theorem dX7_carryOut_92 : decode cX7_carryOut 92 = .ok (.ifCond .eq 7, 3) := by decide +kernel
theorem dX7_carryOut_95 : decode cX7_carryOut 95 = .ok (.iconst 1, 1) := by decide +kernel
theorem dX7_carryOut_96 : decode cX7_carryOut 96 = .ok (.goto 4, 3) := by decide +kernel
theorem dX7_carryOut_99 : decode cX7_carryOut 99 = .ok (.iconst 2, 1) := by decide +kernel
theorem dX7_carryOut_100 : decode cX7_carryOut 100 = .ok (.invokevirtual 393, 3) := by decide +kernel
theorem dX7_carryOut_103 : decode cX7_carryOut 103 = .ok (.return_, 1) := by decide +kernel
theorem dX7_mix_0 : decode cX7_mix 0 = .ok (.lload_n 0, 1) := by decide +kernel
theorem dX7_mix_1 : decode cX7_mix 1 = .ok (.ldc2_w 396, 3) := by decide +kernel
theorem dX7_mix_4 : decode cX7_mix 4 = .ok (.lmul, 1) := by decide +kernel
theorem dX7_mix_5 : decode cX7_mix 5 = .ok (.lload_n 2, 1) := by decide +kernel
theorem dX7_mix_6 : decode cX7_mix 6 = .ok (.ladd, 1) := by decide +kernel
theorem dX7_mix_7 : decode cX7_mix 7 = .ok (.lreturn, 1) := by decide +kernel
set_option maxRecDepth 20000 in
theorem ggX7_mixSymbols_X7_tellSymbol : GoodIn wsX7_mixSymbols wsX7_tellSymbol := goodIn_r _ [5, 6, 7, 8, 9, 10, 11, 12, 13, 14, 15, 16, 17, 18, 19, 20, 21, 22, 23, 24, 25, 26, 27, 28, 29, 30, 31, 32, 33, 34, 35, 36, 37, 38, 39, 44, 45, 46, 47, 48, 49, 50, 51, 52, 53, 54, 55, 56, 57, 58, 59, 60, 61, 62, 63, 64, 65, 66, 67, 68, 69, 70, 71, 72, 73, 74, 75, 76, 77] (by decide +kernel) (by decide +kernel)
set_option maxRecDepth 20000 in
theorem gX7_mixSymbols_X7_tellSymbol : GoodIn wsX7_mixSymbols (wsV RX7 169 RX7 yX7_tellSymbol wsX7_tellSymbol) := goodIn_app (goodIn_of _ (by decide +kernel)) ggX7_mixSymbols_X7_tellSymbol
set_option maxRecDepth 20000 in
theorem ggX7_mixSymbols_X7_mix : GoodIn wsX7_mixSymbols wsX7_mix := goodIn_r _ [42, 43] (by decide +kernel) (by decide +kernel)
set_option maxRecDepth 20000 in
theorem gX7_mixSymbols_X7_mix : GoodIn wsX7_mixSymbols (va_wsS RX7 287 yX7_mix wsX7_mix) := goodIn_app (goodIn_of _ (by decide +kernel)) ggX7_mixSymbols_X7_mix
theorem dX7_mixSymbols_0 : decode cX7_mixSymbols 0 = .ok (.lload_n 1, 1) := by decide +kernel
theorem dX7_mixSymbols_1 : decode cX7_mixSymbols 1 = .ok (.lstore_n 3, 1) := by decide +kernel
theorem dX7_mixSymbols_2 : decode cX7_mixSymbols 2 = .ok (.iconst 0, 1) := by decide +kernel
theorem dX7_mixSymbols_3 : decode cX7_mixSymbols 3 = .ok (.istore 5, 2) := by decide +kernel
theorem dX7_mixSymbols_5 : decode cX7_mixSymbols 5 = .ok (.iload 5, 2) := by decide +kernel
theorem dX7_mixSymbols_7 : decode cX7_mixSymbols 7 = .ok (.bipush 16, 2) := by decide +kernel
theorem dX7_mixSymbols_9 : decode cX7_mixSymbols 9 = .ok (.if_icmp .ge 38, 3) := by decide +kernel
theorem dX7_mixSymbols_12 : decode cX7_mixSymbols 12 = .ok (.iconst 0, 1) := by decide +kernel
theorem dX7_mixSymbols_13 : decode cX7_mixSymbols 13 = .ok (.istore 6, 2) := by decide +kernel
theorem dX7_mixSymbols_15 : decode cX7_mixSymbols 15 = .ok (.iload 6, 2) := by decide +kernel
theorem dX7_mixSymbols_17 : decode cX7_mixSymbols 17 = .ok (.iconst 4, 1) := by decide +kernel
theorem dX7_mixSymbols_18 : decode cX7_mixSymbols 18 = .ok (.if_icmp .ge 23, 3) := by decide +kernel
theorem dX7_mixSymbols_21 : decode cX7_mixSymbols 21 = .ok (.lload_n 3, 1) := by decide +kernel
theorem dX7_mixSymbols_22 : decode cX7_mixSymbols 22 = .ok (.aload_n 0, 1) := by decide +kernel
theorem dX7_mixSymbols_23 : decode cX7_mixSymbols 23 = .ok (.iload 5, 2) := by decide +kernel
theorem dX7_mixSymbols_25 : decode cX7_mixSymbols 25 = .ok (.iload 6, 2) := by decide +kernel
theorem dX7_mixSymbols_27 : decode cX7_mixSymbols 27 = .ok (.invokevirtual 169, 3) := by decide +kernel
theorem dX7_mixSymbols_30 : decode cX7_mixSymbols 30 = .ok (.i2l, 1) := by decide +kernel
theorem dX7_mixSymbols_31 : decode cX7_mixSymbols 31 = .ok (.invokestatic 287, 3) := by decide +kernel
theorem dX7_mixSymbols_34 : decode cX7_mixSymbols 34 = .ok (.lstore_n 3, 1) := by decide +kernel
theorem dX7_mixSymbols_35 : decode cX7_mixSymbols 35 = .ok (.iinc 6 1, 3) := by decide +kernel
theorem dX7_mixSymbols_38 : decode cX7_mixSymbols 38 = .ok (.goto (-23), 3) := by decide +kernel
theorem dX7_mixSymbols_41 : decode cX7_mixSymbols 41 = .ok (.iinc 5 1, 3) := by decide +kernel
theorem dX7_mixSymbols_44 : decode cX7_mixSymbols 44 = .ok (.goto (-39), 3) := by decide +kernel
theorem dX7_mixSymbols_47 : decode cX7_mixSymbols 47 = .ok (.lload_n 3, 1) := by decide +kernel
theorem dX7_mixSymbols_48 : decode cX7_mixSymbols 48 = .ok (.lreturn, 1) := by decide +kernel
set_option maxRecDepth 20000 in
theorem ggX7_mixPieces_X7_tellPiece : GoodIn wsX7_mixPieces wsX7_tellPiece := goodIn_r _ [10, 1, 11, 12, 13, 14, 5, 3, 4, 15, 16, 17, 18, 19, 20, 21, 22, 23, 24, 25, 26, 27, 28, 29, 30, 31, 32, 33, 34, 72, 73, 74, 75, 76, 77, 78, 79, 80, 81, 82, 83, 84, 85, 86, 87, 88, 89, 90, 91, 92, 93, 94, 95, 96, 97, 98, 99, 100, 101, 102, 103] (by decide +kernel) (by decide +kernel)
set_option maxRecDepth 20000 in
theorem gX7_mixPieces_X7_tellPiece : GoodIn wsX7_mixPieces (wsV RX7 176 RX7 yX7_tellPiece wsX7_tellPiece) := goodIn_app (goodIn_of _ (by decide +kernel)) ggX7_mixPieces_X7_tellPiece
set_option maxRecDepth 20000 in
theorem ggX7_mixPieces_X7_mix : GoodIn wsX7_mixPieces wsX7_mix := goodIn_r _ [37, 38] (by decide +kernel) (by decide +kernel)
set_option maxRecDepth 20000 in
theorem gX7_mixPieces_X7_mix : GoodIn wsX7_mixPieces (va_wsS RX7 287 yX7_mix wsX7_mix) := goodIn_app (goodIn_of _ (by decide +kernel)) ggX7_mixPieces_X7_mix
set_option maxRecDepth 20000 in
theorem ggX7_mixPieces_X1_isLaid : GoodIn wsX7_mixPieces wsX1_isLaid := goodIn_r _ [43, 44, 45, 18, 19, 20, 21, 22, 95, 96, 97, 98, 99, 100, 101] (by decide +kernel) (by decide +kernel)
set_option maxRecDepth 20000 in
theorem gX7_mixPieces_X1_isLaid : GoodIn wsX7_mixPieces (wsV RX7 120 RX1 yX1_isLaid wsX1_isLaid) := goodIn_app (goodIn_of _ (by decide +kernel)) ggX7_mixPieces_X1_isLaid
set_option maxRecDepth 20000 in
theorem ggX7_mixPieces_X4_get : GoodIn wsX7_mixPieces wsX4_get := goodIn_r _ [21, 22, 101] (by decide +kernel) (by decide +kernel)
set_option maxRecDepth 20000 in
theorem gX7_mixPieces_X4_get : GoodIn wsX7_mixPieces (wsV RX7 109 RX4 yX4_get wsX4_get) := goodIn_app (goodIn_of _ (by decide +kernel)) ggX7_mixPieces_X4_get
set_option maxRecDepth 20000 in
theorem ggX7_mixPieces_X7_tellSteps : GoodIn wsX7_mixPieces wsX7_tellSteps := goodIn_r _ [49, 1, 3, 4, 50, 51, 52, 53, 54, 55, 56, 18, 19, 20, 21, 22, 57, 58, 59, 60, 61, 62, 63, 64, 42, 65, 44, 66, 45, 67, 68, 69, 70, 71, 72, 73, 74, 75, 76, 77, 78, 79, 90, 91, 92, 93, 94, 80, 81, 82, 83, 84, 85, 86, 87, 88, 89, 101, 95, 96, 97, 98, 99, 100] (by decide +kernel) (by decide +kernel)
set_option maxRecDepth 20000 in
theorem gX7_mixPieces_X7_tellSteps : GoodIn wsX7_mixPieces (wsV RX7 181 RX7 yX7_tellSteps wsX7_tellSteps) := goodIn_app (goodIn_of _ (by decide +kernel)) ggX7_mixPieces_X7_tellSteps
theorem dX7_mixPieces_0 : decode cX7_mixPieces 0 = .ok (.lload_n 1, 1) := by decide +kernel
theorem dX7_mixPieces_1 : decode cX7_mixPieces 1 = .ok (.lstore_n 3, 1) := by decide +kernel
theorem dX7_mixPieces_2 : decode cX7_mixPieces 2 = .ok (.iconst 0, 1) := by decide +kernel
theorem dX7_mixPieces_3 : decode cX7_mixPieces 3 = .ok (.istore 5, 2) := by decide +kernel
theorem dX7_mixPieces_5 : decode cX7_mixPieces 5 = .ok (.iload 5, 2) := by decide +kernel
theorem dX7_mixPieces_7 : decode cX7_mixPieces 7 = .ok (.aload_n 0, 1) := by decide +kernel
theorem dX7_mixPieces_8 : decode cX7_mixPieces 8 = .ok (.getfield 12, 3) := by decide +kernel
theorem dX7_mixPieces_11 : decode cX7_mixPieces 11 = .ok (.getfield 95, 3) := by decide +kernel
theorem dX7_mixPieces_14 : decode cX7_mixPieces 14 = .ok (.if_icmp .ge 102, 3) := by decide +kernel
theorem dX7_mixPieces_17 : decode cX7_mixPieces 17 = .ok (.iconst 0, 1) := by decide +kernel
theorem dX7_mixPieces_18 : decode cX7_mixPieces 18 = .ok (.istore 6, 2) := by decide +kernel
theorem dX7_mixPieces_20 : decode cX7_mixPieces 20 = .ok (.iload 6, 2) := by decide +kernel
theorem dX7_mixPieces_22 : decode cX7_mixPieces 22 = .ok (.bipush 7, 2) := by decide +kernel
theorem dX7_mixPieces_24 : decode cX7_mixPieces 24 = .ok (.if_icmp .ge 23, 3) := by decide +kernel
theorem dX7_mixPieces_27 : decode cX7_mixPieces 27 = .ok (.lload_n 3, 1) := by decide +kernel
theorem dX7_mixPieces_28 : decode cX7_mixPieces 28 = .ok (.aload_n 0, 1) := by decide +kernel
theorem dX7_mixPieces_29 : decode cX7_mixPieces 29 = .ok (.iload 5, 2) := by decide +kernel
theorem dX7_mixPieces_31 : decode cX7_mixPieces 31 = .ok (.iload 6, 2) := by decide +kernel
theorem dX7_mixPieces_33 : decode cX7_mixPieces 33 = .ok (.invokevirtual 176, 3) := by decide +kernel
theorem dX7_mixPieces_36 : decode cX7_mixPieces 36 = .ok (.i2l, 1) := by decide +kernel
theorem dX7_mixPieces_37 : decode cX7_mixPieces 37 = .ok (.invokestatic 287, 3) := by decide +kernel
theorem dX7_mixPieces_40 : decode cX7_mixPieces 40 = .ok (.lstore_n 3, 1) := by decide +kernel
theorem dX7_mixPieces_41 : decode cX7_mixPieces 41 = .ok (.iinc 6 1, 3) := by decide +kernel
theorem dX7_mixPieces_44 : decode cX7_mixPieces 44 = .ok (.goto (-24), 3) := by decide +kernel
theorem dX7_mixPieces_47 : decode cX7_mixPieces 47 = .ok (.aload_n 0, 1) := by decide +kernel
theorem dX7_mixPieces_48 : decode cX7_mixPieces 48 = .ok (.getfield 26, 3) := by decide +kernel
theorem dX7_mixPieces_51 : decode cX7_mixPieces 51 = .ok (.getfield 116, 3) := by decide +kernel
theorem dX7_mixPieces_54 : decode cX7_mixPieces 54 = .ok (.iload 5, 2) := by decide +kernel
theorem dX7_mixPieces_56 : decode cX7_mixPieces 56 = .ok (.invokevirtual 120, 3) := by decide +kernel
theorem dX7_mixPieces_59 : decode cX7_mixPieces 59 = .ok (.ifCond .eq 18, 3) := by decide +kernel
theorem dX7_mixPieces_62 : decode cX7_mixPieces 62 = .ok (.aload_n 0, 1) := by decide +kernel
theorem dX7_mixPieces_63 : decode cX7_mixPieces 63 = .ok (.getfield 12, 3) := by decide +kernel
theorem dX7_mixPieces_66 : decode cX7_mixPieces 66 = .ok (.getfield 106, 3) := by decide +kernel
theorem dX7_mixPieces_69 : decode cX7_mixPieces 69 = .ok (.iload 5, 2) := by decide +kernel
theorem dX7_mixPieces_71 : decode cX7_mixPieces 71 = .ok (.invokevirtual 109, 3) := by decide +kernel
theorem dX7_mixPieces_74 : decode cX7_mixPieces 74 = .ok (.goto 4, 3) := by decide +kernel
theorem dX7_mixPieces_77 : decode cX7_mixPieces 77 = .ok (.iconst 0, 1) := by decide +kernel
theorem dX7_mixPieces_78 : decode cX7_mixPieces 78 = .ok (.istore 6, 2) := by decide +kernel
theorem dX7_mixPieces_80 : decode cX7_mixPieces 80 = .ok (.iconst 0, 1) := by decide +kernel
theorem dX7_mixPieces_81 : decode cX7_mixPieces 81 = .ok (.istore 7, 2) := by decide +kernel
theorem dX7_mixPieces_83 : decode cX7_mixPieces 83 = .ok (.iload 7, 2) := by decide +kernel
theorem dX7_mixPieces_85 : decode cX7_mixPieces 85 = .ok (.iload 6, 2) := by decide +kernel
theorem dX7_mixPieces_87 : decode cX7_mixPieces 87 = .ok (.if_icmp .ge 23, 3) := by decide +kernel
theorem dX7_mixPieces_90 : decode cX7_mixPieces 90 = .ok (.lload_n 3, 1) := by decide +kernel
theorem dX7_mixPieces_91 : decode cX7_mixPieces 91 = .ok (.aload_n 0, 1) := by decide +kernel
theorem dX7_mixPieces_92 : decode cX7_mixPieces 92 = .ok (.iload 5, 2) := by decide +kernel
theorem dX7_mixPieces_94 : decode cX7_mixPieces 94 = .ok (.iload 7, 2) := by decide +kernel
theorem dX7_mixPieces_96 : decode cX7_mixPieces 96 = .ok (.invokevirtual 181, 3) := by decide +kernel
theorem dX7_mixPieces_99 : decode cX7_mixPieces 99 = .ok (.i2l, 1) := by decide +kernel
theorem dX7_mixPieces_100 : decode cX7_mixPieces 100 = .ok (.invokestatic 287, 3) := by decide +kernel
theorem dX7_mixPieces_103 : decode cX7_mixPieces 103 = .ok (.lstore_n 3, 1) := by decide +kernel
theorem dX7_mixPieces_104 : decode cX7_mixPieces 104 = .ok (.iinc 7 1, 3) := by decide +kernel
theorem dX7_mixPieces_107 : decode cX7_mixPieces 107 = .ok (.goto (-24), 3) := by decide +kernel
theorem dX7_mixPieces_110 : decode cX7_mixPieces 110 = .ok (.iinc 5 1, 3) := by decide +kernel
theorem dX7_mixPieces_113 : decode cX7_mixPieces 113 = .ok (.goto (-108), 3) := by decide +kernel
theorem dX7_mixPieces_116 : decode cX7_mixPieces 116 = .ok (.lload_n 3, 1) := by decide +kernel
theorem dX7_mixPieces_117 : decode cX7_mixPieces 117 = .ok (.lreturn, 1) := by decide +kernel
set_option maxRecDepth 20000 in
theorem ggX7_mixWords_X7_tellWord : GoodIn wsX7_mixWords wsX7_tellWord := goodIn_r _ [5, 6, 7, 8, 9, 10, 11, 12, 13, 14, 19, 20, 21, 22, 23, 24, 25, 26, 27, 28, 29, 30, 31, 32] (by decide +kernel) (by decide +kernel)
set_option maxRecDepth 20000 in
theorem gX7_mixWords_X7_tellWord : GoodIn wsX7_mixWords (wsV RX7 186 RX7 yX7_tellWord wsX7_tellWord) := goodIn_app (goodIn_of _ (by decide +kernel)) ggX7_mixWords_X7_tellWord
set_option maxRecDepth 20000 in
theorem ggX7_mixWords_X7_mix : GoodIn wsX7_mixWords wsX7_mix := goodIn_r _ [17, 18] (by decide +kernel) (by decide +kernel)
set_option maxRecDepth 20000 in
theorem gX7_mixWords_X7_mix : GoodIn wsX7_mixWords (va_wsS RX7 287 yX7_mix wsX7_mix) := goodIn_app (goodIn_of _ (by decide +kernel)) ggX7_mixWords_X7_mix
theorem dX7_mixWords_0 : decode cX7_mixWords 0 = .ok (.lload_n 1, 1) := by decide +kernel
theorem dX7_mixWords_1 : decode cX7_mixWords 1 = .ok (.lstore_n 3, 1) := by decide +kernel
theorem dX7_mixWords_2 : decode cX7_mixWords 2 = .ok (.iconst 0, 1) := by decide +kernel
theorem dX7_mixWords_3 : decode cX7_mixWords 3 = .ok (.istore 5, 2) := by decide +kernel
theorem dX7_mixWords_5 : decode cX7_mixWords 5 = .ok (.iload 5, 2) := by decide +kernel
theorem dX7_mixWords_7 : decode cX7_mixWords 7 = .ok (.sipush 200, 3) := by decide +kernel
theorem dX7_mixWords_10 : decode cX7_mixWords 10 = .ok (.if_icmp .ge 35, 3) := by decide +kernel
theorem dX7_mixWords_13 : decode cX7_mixWords 13 = .ok (.lload_n 3, 1) := by decide +kernel
theorem dX7_mixWords_14 : decode cX7_mixWords 14 = .ok (.aload_n 0, 1) := by decide +kernel
theorem dX7_mixWords_15 : decode cX7_mixWords 15 = .ok (.iload 5, 2) := by decide +kernel
theorem dX7_mixWords_17 : decode cX7_mixWords 17 = .ok (.iconst 0, 1) := by decide +kernel
theorem dX7_mixWords_18 : decode cX7_mixWords 18 = .ok (.invokevirtual 186, 3) := by decide +kernel
theorem dX7_mixWords_21 : decode cX7_mixWords 21 = .ok (.i2l, 1) := by decide +kernel
theorem dX7_mixWords_22 : decode cX7_mixWords 22 = .ok (.invokestatic 287, 3) := by decide +kernel
theorem dX7_mixWords_25 : decode cX7_mixWords 25 = .ok (.lstore_n 3, 1) := by decide +kernel
theorem dX7_mixWords_26 : decode cX7_mixWords 26 = .ok (.lload_n 3, 1) := by decide +kernel
theorem dX7_mixWords_27 : decode cX7_mixWords 27 = .ok (.aload_n 0, 1) := by decide +kernel
theorem dX7_mixWords_28 : decode cX7_mixWords 28 = .ok (.iload 5, 2) := by decide +kernel
theorem dX7_mixWords_30 : decode cX7_mixWords 30 = .ok (.iconst 1, 1) := by decide +kernel
theorem dX7_mixWords_31 : decode cX7_mixWords 31 = .ok (.invokevirtual 186, 3) := by decide +kernel
theorem dX7_mixWords_34 : decode cX7_mixWords 34 = .ok (.i2l, 1) := by decide +kernel
theorem dX7_mixWords_35 : decode cX7_mixWords 35 = .ok (.invokestatic 287, 3) := by decide +kernel
theorem dX7_mixWords_38 : decode cX7_mixWords 38 = .ok (.lstore_n 3, 1) := by decide +kernel
theorem dX7_mixWords_39 : decode cX7_mixWords 39 = .ok (.iinc 5 1, 3) := by decide +kernel
theorem dX7_mixWords_42 : decode cX7_mixWords 42 = .ok (.goto (-37), 3) := by decide +kernel
theorem dX7_mixWords_45 : decode cX7_mixWords 45 = .ok (.lload_n 3, 1) := by decide +kernel
theorem dX7_mixWords_46 : decode cX7_mixWords 46 = .ok (.lreturn, 1) := by decide +kernel
set_option maxRecDepth 20000 in
theorem ggX7_mixRuns_X5_isThere : GoodIn wsX7_mixRuns wsX5_isThere := goodIn_r _ [7, 8, 9, 10, 11, 12, 13, 14, 34, 35, 36] (by decide +kernel) (by decide +kernel)
set_option maxRecDepth 20000 in
theorem gX7_mixRuns_X5_isThere : GoodIn wsX7_mixRuns (wsV RX7 211 RX5 yX5_isThere wsX5_isThere) := goodIn_app (goodIn_of _ (by decide +kernel)) ggX7_mixRuns_X5_isThere
set_option maxRecDepth 20000 in
theorem ggX7_mixRuns_X7_mix : GoodIn wsX7_mixRuns wsX7_mix := goodIn_r _ [18, 19] (by decide +kernel) (by decide +kernel)
set_option maxRecDepth 20000 in
theorem gX7_mixRuns_X7_mix : GoodIn wsX7_mixRuns (va_wsS RX7 287 yX7_mix wsX7_mix) := goodIn_app (goodIn_of _ (by decide +kernel)) ggX7_mixRuns_X7_mix
set_option maxRecDepth 20000 in
theorem ggX7_mixRuns_X4_get : GoodIn wsX7_mixRuns wsX4_get := goodIn_r _ [13, 14, 36] (by decide +kernel) (by decide +kernel)
set_option maxRecDepth 20000 in
theorem gX7_mixRuns_X4_get : GoodIn wsX7_mixRuns (wsV RX7 109 RX4 yX4_get wsX4_get) := goodIn_app (goodIn_of _ (by decide +kernel)) ggX7_mixRuns_X4_get
set_option maxRecDepth 20000 in
theorem ggX7_mixRuns_X5_entry : GoodIn wsX7_mixRuns wsX5_entry := goodIn_r _ [24, 25, 9, 10, 11, 12, 13, 14, 34, 35, 36] (by decide +kernel) (by decide +kernel)
set_option maxRecDepth 20000 in
theorem gX7_mixRuns_X5_entry : GoodIn wsX7_mixRuns (wsV RX7 238 RX5 yX5_entry wsX5_entry) := goodIn_app (goodIn_of _ (by decide +kernel)) ggX7_mixRuns_X5_entry
theorem dX7_mixRuns_0 : decode cX7_mixRuns 0 = .ok (.lload_n 1, 1) := by decide +kernel
theorem dX7_mixRuns_1 : decode cX7_mixRuns 1 = .ok (.lstore_n 3, 1) := by decide +kernel
theorem dX7_mixRuns_2 : decode cX7_mixRuns 2 = .ok (.iconst 0, 1) := by decide +kernel
theorem dX7_mixRuns_3 : decode cX7_mixRuns 3 = .ok (.istore 5, 2) := by decide +kernel
theorem dX7_mixRuns_5 : decode cX7_mixRuns 5 = .ok (.iload 5, 2) := by decide +kernel
theorem dX7_mixRuns_7 : decode cX7_mixRuns 7 = .ok (.iconst 4, 1) := by decide +kernel
theorem dX7_mixRuns_8 : decode cX7_mixRuns 8 = .ok (.if_icmp .ge 72, 3) := by decide +kernel
theorem dX7_mixRuns_11 : decode cX7_mixRuns 11 = .ok (.aload_n 0, 1) := by decide +kernel
theorem dX7_mixRuns_12 : decode cX7_mixRuns 12 = .ok (.getfield 36, 3) := by decide +kernel
theorem dX7_mixRuns_15 : decode cX7_mixRuns 15 = .ok (.iload 5, 2) := by decide +kernel
theorem dX7_mixRuns_17 : decode cX7_mixRuns 17 = .ok (.invokevirtual 211, 3) := by decide +kernel
theorem dX7_mixRuns_20 : decode cX7_mixRuns 20 = .ok (.ifCond .eq 11, 3) := by decide +kernel
theorem dX7_mixRuns_23 : decode cX7_mixRuns 23 = .ok (.lload_n 3, 1) := by decide +kernel
theorem dX7_mixRuns_24 : decode cX7_mixRuns 24 = .ok (.iload 5, 2) := by decide +kernel
theorem dX7_mixRuns_26 : decode cX7_mixRuns 26 = .ok (.i2l, 1) := by decide +kernel
theorem dX7_mixRuns_27 : decode cX7_mixRuns 27 = .ok (.invokestatic 287, 3) := by decide +kernel
theorem dX7_mixRuns_30 : decode cX7_mixRuns 30 = .ok (.lstore_n 3, 1) := by decide +kernel
theorem dX7_mixRuns_31 : decode cX7_mixRuns 31 = .ok (.iconst 0, 1) := by decide +kernel
theorem dX7_mixRuns_32 : decode cX7_mixRuns 32 = .ok (.istore 6, 2) := by decide +kernel
theorem dX7_mixRuns_34 : decode cX7_mixRuns 34 = .ok (.iload 6, 2) := by decide +kernel
theorem dX7_mixRuns_36 : decode cX7_mixRuns 36 = .ok (.aload_n 0, 1) := by decide +kernel
theorem dX7_mixRuns_37 : decode cX7_mixRuns 37 = .ok (.getfield 36, 3) := by decide +kernel
theorem dX7_mixRuns_40 : decode cX7_mixRuns 40 = .ok (.getfield 222, 3) := by decide +kernel
theorem dX7_mixRuns_43 : decode cX7_mixRuns 43 = .ok (.iload 5, 2) := by decide +kernel
theorem dX7_mixRuns_45 : decode cX7_mixRuns 45 = .ok (.invokevirtual 109, 3) := by decide +kernel
theorem dX7_mixRuns_48 : decode cX7_mixRuns 48 = .ok (.if_icmp .ge 26, 3) := by decide +kernel
theorem dX7_mixRuns_51 : decode cX7_mixRuns 51 = .ok (.lload_n 3, 1) := by decide +kernel
theorem dX7_mixRuns_52 : decode cX7_mixRuns 52 = .ok (.aload_n 0, 1) := by decide +kernel
theorem dX7_mixRuns_53 : decode cX7_mixRuns 53 = .ok (.getfield 36, 3) := by decide +kernel
theorem dX7_mixRuns_56 : decode cX7_mixRuns 56 = .ok (.iload 5, 2) := by decide +kernel
theorem dX7_mixRuns_58 : decode cX7_mixRuns 58 = .ok (.iload 6, 2) := by decide +kernel
theorem dX7_mixRuns_60 : decode cX7_mixRuns 60 = .ok (.invokevirtual 238, 3) := by decide +kernel
theorem dX7_mixRuns_63 : decode cX7_mixRuns 63 = .ok (.i2l, 1) := by decide +kernel
theorem dX7_mixRuns_64 : decode cX7_mixRuns 64 = .ok (.invokestatic 287, 3) := by decide +kernel
theorem dX7_mixRuns_67 : decode cX7_mixRuns 67 = .ok (.lstore_n 3, 1) := by decide +kernel
theorem dX7_mixRuns_68 : decode cX7_mixRuns 68 = .ok (.iinc 6 1, 3) := by decide +kernel
theorem dX7_mixRuns_71 : decode cX7_mixRuns 71 = .ok (.goto (-37), 3) := by decide +kernel
theorem dX7_mixRuns_74 : decode cX7_mixRuns 74 = .ok (.iinc 5 1, 3) := by decide +kernel
theorem dX7_mixRuns_77 : decode cX7_mixRuns 77 = .ok (.goto (-72), 3) := by decide +kernel
theorem dX7_mixRuns_80 : decode cX7_mixRuns 80 = .ok (.lload_n 3, 1) := by decide +kernel
theorem dX7_mixRuns_81 : decode cX7_mixRuns 81 = .ok (.lreturn, 1) := by decide +kernel
set_option maxRecDepth 20000 in
theorem ggX7_mixPatches_X7_tellPatch : GoodIn wsX7_mixPatches wsX7_tellPatch := goodIn_r _ [7, 8, 9, 1, 10, 11, 12, 13, 14, 15, 16, 17, 18, 23, 24, 25, 26, 27, 28, 29, 30, 35, 36, 37, 38, 39, 40, 41, 42, 43, 44, 31, 32, 33, 34, 45] (by decide +kernel) (by decide +kernel)
set_option maxRecDepth 20000 in
theorem gX7_mixPatches_X7_tellPatch : GoodIn wsX7_mixPatches (wsV RX7 258 RX7 yX7_tellPatch wsX7_tellPatch) := goodIn_app (goodIn_of _ (by decide +kernel)) ggX7_mixPatches_X7_tellPatch
set_option maxRecDepth 20000 in
theorem ggX7_mixPatches_X7_mix : GoodIn wsX7_mixPatches wsX7_mix := goodIn_r _ [21, 22] (by decide +kernel) (by decide +kernel)
set_option maxRecDepth 20000 in
theorem gX7_mixPatches_X7_mix : GoodIn wsX7_mixPatches (va_wsS RX7 287 yX7_mix wsX7_mix) := goodIn_app (goodIn_of _ (by decide +kernel)) ggX7_mixPatches_X7_mix
theorem dX7_mixPatches_0 : decode cX7_mixPatches 0 = .ok (.lload_n 1, 1) := by decide +kernel
theorem dX7_mixPatches_1 : decode cX7_mixPatches 1 = .ok (.lstore_n 3, 1) := by decide +kernel
theorem dX7_mixPatches_2 : decode cX7_mixPatches 2 = .ok (.iconst 0, 1) := by decide +kernel
theorem dX7_mixPatches_3 : decode cX7_mixPatches 3 = .ok (.istore 5, 2) := by decide +kernel
theorem dX7_mixPatches_5 : decode cX7_mixPatches 5 = .ok (.iload 5, 2) := by decide +kernel
theorem dX7_mixPatches_7 : decode cX7_mixPatches 7 = .ok (.aload_n 0, 1) := by decide +kernel
theorem dX7_mixPatches_8 : decode cX7_mixPatches 8 = .ok (.getfield 43, 3) := by decide +kernel
theorem dX7_mixPatches_11 : decode cX7_mixPatches 11 = .ok (.getfield 246, 3) := by decide +kernel
theorem dX7_mixPatches_14 : decode cX7_mixPatches 14 = .ok (.if_icmp .ge 38, 3) := by decide +kernel
theorem dX7_mixPatches_17 : decode cX7_mixPatches 17 = .ok (.iconst 0, 1) := by decide +kernel
theorem dX7_mixPatches_18 : decode cX7_mixPatches 18 = .ok (.istore 6, 2) := by decide +kernel
theorem dX7_mixPatches_20 : decode cX7_mixPatches 20 = .ok (.iload 6, 2) := by decide +kernel
theorem dX7_mixPatches_22 : decode cX7_mixPatches 22 = .ok (.iconst 4, 1) := by decide +kernel
theorem dX7_mixPatches_23 : decode cX7_mixPatches 23 = .ok (.if_icmp .ge 23, 3) := by decide +kernel
theorem dX7_mixPatches_26 : decode cX7_mixPatches 26 = .ok (.lload_n 3, 1) := by decide +kernel
theorem dX7_mixPatches_27 : decode cX7_mixPatches 27 = .ok (.aload_n 0, 1) := by decide +kernel
theorem dX7_mixPatches_28 : decode cX7_mixPatches 28 = .ok (.iload 5, 2) := by decide +kernel
theorem dX7_mixPatches_30 : decode cX7_mixPatches 30 = .ok (.iload 6, 2) := by decide +kernel
theorem dX7_mixPatches_32 : decode cX7_mixPatches 32 = .ok (.invokevirtual 258, 3) := by decide +kernel
theorem dX7_mixPatches_35 : decode cX7_mixPatches 35 = .ok (.i2l, 1) := by decide +kernel
theorem dX7_mixPatches_36 : decode cX7_mixPatches 36 = .ok (.invokestatic 287, 3) := by decide +kernel
theorem dX7_mixPatches_39 : decode cX7_mixPatches 39 = .ok (.lstore_n 3, 1) := by decide +kernel
theorem dX7_mixPatches_40 : decode cX7_mixPatches 40 = .ok (.iinc 6 1, 3) := by decide +kernel
theorem dX7_mixPatches_43 : decode cX7_mixPatches 43 = .ok (.goto (-23), 3) := by decide +kernel
theorem dX7_mixPatches_46 : decode cX7_mixPatches 46 = .ok (.iinc 5 1, 3) := by decide +kernel
theorem dX7_mixPatches_49 : decode cX7_mixPatches 49 = .ok (.goto (-44), 3) := by decide +kernel
theorem dX7_mixPatches_52 : decode cX7_mixPatches 52 = .ok (.lload_n 3, 1) := by decide +kernel
theorem dX7_mixPatches_53 : decode cX7_mixPatches 53 = .ok (.lreturn, 1) := by decide +kernel
set_option maxRecDepth 20000 in
theorem ggX7_mixFaults_X7_tellFault : GoodIn wsX7_mixFaults wsX7_tellFault := goodIn_r _ [7, 1, 8, 9, 10, 11, 12, 13, 14, 15, 20, 21, 22, 23, 24, 25, 26, 27, 28, 29, 30, 31, 32, 33, 34, 35, 36, 37, 38] (by decide +kernel) (by decide +kernel)
set_option maxRecDepth 20000 in
theorem gX7_mixFaults_X7_tellFault : GoodIn wsX7_mixFaults (wsV RX7 161 RX7 yX7_tellFault wsX7_tellFault) := goodIn_app (goodIn_of _ (by decide +kernel)) ggX7_mixFaults_X7_tellFault
set_option maxRecDepth 20000 in
theorem ggX7_mixFaults_X7_mix : GoodIn wsX7_mixFaults wsX7_mix := goodIn_r _ [18, 19] (by decide +kernel) (by decide +kernel)
set_option maxRecDepth 20000 in
theorem gX7_mixFaults_X7_mix : GoodIn wsX7_mixFaults (va_wsS RX7 287 yX7_mix wsX7_mix) := goodIn_app (goodIn_of _ (by decide +kernel)) ggX7_mixFaults_X7_mix
theorem dX7_mixFaults_0 : decode cX7_mixFaults 0 = .ok (.lload_n 1, 1) := by decide +kernel
theorem dX7_mixFaults_1 : decode cX7_mixFaults 1 = .ok (.lstore_n 3, 1) := by decide +kernel
theorem dX7_mixFaults_2 : decode cX7_mixFaults 2 = .ok (.iconst 0, 1) := by decide +kernel
theorem dX7_mixFaults_3 : decode cX7_mixFaults 3 = .ok (.istore 5, 2) := by decide +kernel
theorem dX7_mixFaults_5 : decode cX7_mixFaults 5 = .ok (.iload 5, 2) := by decide +kernel
theorem dX7_mixFaults_7 : decode cX7_mixFaults 7 = .ok (.aload_n 0, 1) := by decide +kernel
theorem dX7_mixFaults_8 : decode cX7_mixFaults 8 = .ok (.getfield 19, 3) := by decide +kernel
theorem dX7_mixFaults_11 : decode cX7_mixFaults 11 = .ok (.getfield 146, 3) := by decide +kernel
theorem dX7_mixFaults_14 : decode cX7_mixFaults 14 = .ok (.if_icmp .ge 35, 3) := by decide +kernel
theorem dX7_mixFaults_17 : decode cX7_mixFaults 17 = .ok (.lload_n 3, 1) := by decide +kernel
theorem dX7_mixFaults_18 : decode cX7_mixFaults 18 = .ok (.aload_n 0, 1) := by decide +kernel
theorem dX7_mixFaults_19 : decode cX7_mixFaults 19 = .ok (.iload 5, 2) := by decide +kernel
theorem dX7_mixFaults_21 : decode cX7_mixFaults 21 = .ok (.iconst 0, 1) := by decide +kernel
theorem dX7_mixFaults_22 : decode cX7_mixFaults 22 = .ok (.invokevirtual 161, 3) := by decide +kernel
theorem dX7_mixFaults_25 : decode cX7_mixFaults 25 = .ok (.i2l, 1) := by decide +kernel
theorem dX7_mixFaults_26 : decode cX7_mixFaults 26 = .ok (.invokestatic 287, 3) := by decide +kernel
theorem dX7_mixFaults_29 : decode cX7_mixFaults 29 = .ok (.lstore_n 3, 1) := by decide +kernel
theorem dX7_mixFaults_30 : decode cX7_mixFaults 30 = .ok (.lload_n 3, 1) := by decide +kernel
theorem dX7_mixFaults_31 : decode cX7_mixFaults 31 = .ok (.aload_n 0, 1) := by decide +kernel
theorem dX7_mixFaults_32 : decode cX7_mixFaults 32 = .ok (.iload 5, 2) := by decide +kernel
theorem dX7_mixFaults_34 : decode cX7_mixFaults 34 = .ok (.iconst 1, 1) := by decide +kernel
theorem dX7_mixFaults_35 : decode cX7_mixFaults 35 = .ok (.invokevirtual 161, 3) := by decide +kernel
theorem dX7_mixFaults_38 : decode cX7_mixFaults 38 = .ok (.i2l, 1) := by decide +kernel
theorem dX7_mixFaults_39 : decode cX7_mixFaults 39 = .ok (.invokestatic 287, 3) := by decide +kernel
theorem dX7_mixFaults_42 : decode cX7_mixFaults 42 = .ok (.lstore_n 3, 1) := by decide +kernel
theorem dX7_mixFaults_43 : decode cX7_mixFaults 43 = .ok (.iinc 5 1, 3) := by decide +kernel
theorem dX7_mixFaults_46 : decode cX7_mixFaults 46 = .ok (.goto (-41), 3) := by decide +kernel
theorem dX7_mixFaults_49 : decode cX7_mixFaults 49 = .ok (.lload_n 3, 1) := by decide +kernel
theorem dX7_mixFaults_50 : decode cX7_mixFaults 50 = .ok (.lreturn, 1) := by decide +kernel
abbrev vwCl : List vw_C := [(RX0, TX0, 5), (RX1, TX1, 6), (RX2, TX2, 10), (RX3, TX3, 4), (RX4, TX4, 1), (RX5, TX5, 2), (RX6, TX6, 10), (RX7, TX7, 8)]
/-! ===== END printed: names ===== -/



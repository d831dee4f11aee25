set_option maxRecDepth 20000 in
theorem ggL_law_X7_digest_0 : GoodIn wsL_law (((wsX7_digest).drop 0).take 40) := goodIn_r _ [588, 589, 16, 12, 34, 200, 590, 385, 386, 387, 2, 388, 136, 151, 20, 170, 389, 390, 25, 29, 391, 392, 393, 206, 207, 32, 208, 54, 201, 202, 203, 24, 204, 99, 205, 394, 395, 396, 28, 397] (by decide +kernel) (by decide +kernel)
set_option maxRecDepth 20000 in
theorem ggL_law_X7_digest_1 : GoodIn wsL_law (((wsX7_digest).drop 40).take 40) := goodIn_r _ [109, 398, 399, 400, 401, 108, 402, 172, 173, 174, 591, 592, 593, 594, 595, 596, 597, 598, 467, 468, 469, 470, 424, 471, 171, 472, 473, 474, 60, 475, 80, 79, 184, 433, 434, 435, 436, 437, 106, 599] (by decide +kernel) (by decide +kernel)
set_option maxRecDepth 20000 in
theorem ggL_law_X7_digest_2 : GoodIn wsL_law (((wsX7_digest).drop 80).take 40) := goodIn_r _ [600, 601, 602, 169, 490, 491, 492, 493, 494, 411, 495, 496, 497, 498, 499, 500, 501, 502, 503, 504, 505, 100, 446, 180, 181, 182, 183, 603, 604, 605, 606, 607, 319, 320, 11, 321, 47, 179, 485, 248] (by decide +kernel) (by decide +kernel)
set_option maxRecDepth 20000 in
theorem ggL_law_X7_digest_3 : GoodIn wsL_law (((wsX7_digest).drop 120).take 40) := goodIn_r _ [249, 250, 46, 608, 323, 324, 325, 326, 327, 328, 329, 75, 609, 610, 611, 612, 613, 614, 615, 616, 617, 618, 619, 620, 621, 457, 458, 443, 444, 445, 459, 460, 461, 462, 622, 623, 624, 625, 407, 408] (by decide +kernel) (by decide +kernel)
set_option maxRecDepth 20000 in
theorem ggL_law_X7_digest_4 : GoodIn wsL_law (((wsX7_digest).drop 160).take 40) := goodIn_r _ [409, 410, 412, 413, 414, 209, 210, 211, 15, 212, 65, 71, 213, 214, 215, 216, 61, 67, 69, 70, 217, 218, 219, 220, 76, 77, 81, 221, 222, 223, 224, 225, 226, 227, 228, 229, 230, 231, 232, 233] (by decide +kernel) (by decide +kernel)
set_option maxRecDepth 20000 in
theorem ggL_law_X7_digest_5 : GoodIn wsL_law (((wsX7_digest).drop 200).take 40) := goodIn_r _ [234, 235, 236, 66, 237, 238, 142, 143, 144, 239, 240, 241, 242, 48, 41, 42, 243, 244, 245, 246, 45, 247, 251, 252, 253, 254, 255, 256, 257, 258, 259, 260, 261, 262, 263, 264, 265, 266, 267, 268] (by decide +kernel) (by decide +kernel)
set_option maxRecDepth 20000 in
theorem ggL_law_X7_digest_6 : GoodIn wsL_law (((wsX7_digest).drop 240).take 40) := goodIn_r _ [269, 270, 271, 272, 190, 191, 192, 193, 194, 273, 274, 275, 276, 277, 278, 279, 280, 63, 64, 281, 282, 283, 284, 285, 286, 287, 288, 68, 289, 290, 291, 292, 293, 294, 295, 296, 297, 298, 299, 300] (by decide +kernel) (by decide +kernel)
set_option maxRecDepth 20000 in
theorem ggL_law_X7_digest_7 : GoodIn wsL_law (((wsX7_digest).drop 280).take 40) := goodIn_r _ [301, 302, 303, 304, 305, 306, 307, 308, 309, 310, 311, 312, 313, 314, 315, 316, 317, 318, 322, 330, 331, 332, 333, 334, 335, 336, 337, 338, 339, 340, 341, 342, 343, 344, 345, 346, 347, 348, 349, 626] (by decide +kernel) (by decide +kernel)
set_option maxRecDepth 20000 in
theorem ggL_law_X7_digest_8 : GoodIn wsL_law (((wsX7_digest).drop 320).take 40) := goodIn_r _ [627, 628, 629, 199, 579, 580, 581, 582, 583, 584, 672, 673, 674, 675, 676, 677, 678, 679, 690, 691, 692, 693, 694, 695, 696, 697, 698, 699, 712, 713, 714, 715, 716, 717, 680, 681, 682, 683, 684, 685] (by decide +kernel) (by decide +kernel)
set_option maxRecDepth 20000 in
theorem ggL_law_X7_digest_9 : GoodIn wsL_law ((wsX7_digest).drop 360) := goodIn_r _ [686, 687, 688, 689, 700, 701, 702, 703, 704, 707, 708, 709, 710, 711, 705, 706] (by decide +kernel) (by decide +kernel)
theorem ggL_law_X7_digest : GoodIn wsL_law (wsX7_digest) := by
  have h := (goodIn_td 0 40 ggL_law_X7_digest_0 (goodIn_td 40 40 ggL_law_X7_digest_1 (goodIn_td 80 40 ggL_law_X7_digest_2 (goodIn_td 120 40 ggL_law_X7_digest_3 (goodIn_td 160 40 ggL_law_X7_digest_4 (goodIn_td 200 40 ggL_law_X7_digest_5 (goodIn_td 240 40 ggL_law_X7_digest_6 (goodIn_td 280 40 ggL_law_X7_digest_7 (goodIn_td 320 40 ggL_law_X7_digest_8 ggL_law_X7_digest_9)))))))))
  exact h
set_option maxRecDepth 20000 in
theorem gL_law_X7_digest : GoodIn wsL_law (wsV RL 50 RX7 yX7_digest wsX7_digest) := goodIn_app (goodIn_of _ (by decide +kernel)) ggL_law_X7_digest
set_option maxRecDepth 20000 in
theorem ggL_law_L_areSymbolsRight : GoodIn wsL_law wsL_areSymbolsRight := goodIn_ca (goodIn_ca (goodIn_r _ [632, 381, 382, 383, 2, 384, 125, 126, 152, 153, 154, 385, 386, 387, 388, 12, 136, 151, 20, 170, 389, 390, 25, 29, 391, 392, 393, 206, 207, 32, 208, 54, 201, 202, 203, 24, 204, 99, 205, 394, 395, 396, 28, 397, 109, 398, 399, 400, 401, 108, 402, 172, 173, 174, 486, 487, 488, 489, 149, 150, 490, 491, 492, 493, 494, 411, 495, 496, 169, 497, 171, 498, 499, 500, 501, 502, 503, 504, 505, 100, 446, 463, 464, 465, 466, 155, 156, 157, 467, 468, 469, 470, 424, 471, 472, 473, 474, 60, 475, 80, 79, 184, 433, 434, 435, 436, 437, 106, 633, 634, 635, 636, 613, 614, 615, 616, 617, 672, 673, 674, 675, 676, 677, 678, 679, 680, 681, 682, 683, 684, 685, 686, 687, 688, 689, 700, 701, 702, 703, 704, 712, 713, 714, 715, 716, 717, 707, 708, 709, 710, 711, 705, 706] (by decide +kernel) (by decide +kernel)) (goodIn_sub (fun _ h => List.mem_append_left _ (List.mem_append_left _ (List.mem_append_right _ h))) (by decide +kernel))) (goodIn_sub (fun _ h => List.mem_append_right _ h) (by decide +kernel))
set_option maxRecDepth 20000 in
theorem gL_law_L_areSymbolsRight : GoodIn wsL_law (va_wsS RL 54 yL_areSymbolsRight wsL_areSymbolsRight) := goodIn_app (goodIn_of _ (by decide +kernel)) ggL_law_L_areSymbolsRight
set_option maxRecDepth 20000 in
theorem ggL_law_L_arePatchesRight : GoodIn wsL_law wsL_arePatchesRight := goodIn_ca (goodIn_ca (goodIn_r _ [639, 381, 382, 383, 2, 384, 125, 126, 152, 153, 154, 385, 386, 387, 388, 12, 136, 151, 20, 170, 389, 390, 25, 29, 391, 392, 393, 206, 207, 32, 208, 54, 201, 202, 203, 24, 204, 99, 205, 394, 395, 396, 28, 397, 109, 398, 399, 400, 401, 108, 402, 172, 173, 174, 403, 404, 405, 406, 149, 150, 407, 408, 409, 410, 411, 412, 413, 414, 171, 486, 487, 488, 489, 490, 491, 492, 493, 494, 495, 496, 169, 497, 498, 499, 500, 501, 502, 503, 504, 505, 100, 446, 463, 464, 465, 466, 155, 156, 157, 467, 468, 469, 470, 424, 471, 472, 473, 474, 60, 475, 80, 79, 184, 433, 434, 435, 436, 437, 106, 640, 641, 642, 643, 522, 644, 645, 646, 647, 648, 649, 650, 651, 535, 536, 537, 19, 538, 91, 373, 672, 673, 674, 675, 676, 677, 678, 679, 680, 681, 682, 683, 684, 685, 686, 687, 688, 689, 700, 701, 702, 703, 704, 712, 713, 714, 715, 716, 717, 707, 708, 709, 710, 711, 705, 706] (by decide +kernel) (by decide +kernel)) (goodIn_sub (fun _ h => List.mem_append_left _ (List.mem_append_left _ (List.mem_append_right _ h))) (by decide +kernel))) (goodIn_sub (fun _ h => List.mem_append_right _ h) (by decide +kernel))
set_option maxRecDepth 20000 in
theorem gL_law_L_arePatchesRight : GoodIn wsL_law (va_wsS RL 58 yL_arePatchesRight wsL_arePatchesRight) := goodIn_app (goodIn_of _ (by decide +kernel)) ggL_law_L_arePatchesRight
set_option maxRecDepth 20000 in
theorem ggL_law_L_areNumbersRight : GoodIn wsL_law wsL_areNumbersRight := goodIn_ca (goodIn_ca (goodIn_r _ [654, 655, 117, 118, 114, 119, 120, 648, 649, 650, 2, 651, 125, 126, 20, 535, 536, 537, 19, 538, 91, 373, 172, 173, 32, 174, 54, 633, 634, 635, 636, 149, 150, 152, 153, 154, 613, 614, 615, 616, 390, 617, 171, 381, 382, 383, 384, 385, 386, 387, 388, 12, 136, 151, 170, 389, 25, 29, 391, 392, 393, 206, 207, 208, 201, 202, 203, 24, 204, 99, 205, 394, 395, 396, 28, 397, 109, 398, 399, 400, 401, 108, 402, 656, 657, 658, 659, 16, 200, 590, 127, 128, 129, 209, 210, 211, 15, 212, 65, 71, 213, 214, 215, 216, 61, 67, 69, 70, 217, 218, 219, 60, 220, 75, 76, 77, 79, 80, 81, 221, 222, 223, 224, 225, 226, 227, 228, 229, 230, 231, 232, 233, 234, 235, 236, 66, 237, 238, 142, 143, 144, 239, 240, 241, 11, 242, 48, 41, 42, 179, 243, 244, 245, 246, 45, 247, 248, 249, 250, 46, 251, 252, 253, 254, 255, 256, 257, 258, 259, 260, 261, 262, 263, 264, 265, 266, 267, 268, 269, 270, 271, 272, 190, 191, 192, 193, 194, 273, 274, 275, 276, 277, 278, 279, 280, 63, 64, 281, 282, 283, 284, 285, 286, 287, 288, 68, 289, 290, 291, 292, 293, 294, 295, 296, 297, 298, 299, 300, 301, 302, 303, 304, 305, 306, 307, 308, 309, 310, 311, 312, 313, 314, 315, 316, 317, 318, 319, 320, 321, 47, 322, 323, 324, 325, 184, 326, 327, 328, 329, 330, 331, 332, 333, 334, 335, 336, 337, 338, 339, 340, 341, 181, 182, 183, 342, 343, 344, 345, 346, 347, 348, 349, 660, 661, 662, 663, 34, 199, 664, 665, 666, 667, 668, 669, 670, 671, 446, 672, 673, 674, 675, 676, 677, 678, 679, 700, 701, 702, 703, 704, 711, 680, 681, 682, 683, 684, 685, 686, 687, 688, 689, 712, 713, 714, 715, 716, 717, 707, 708, 709, 710, 705, 706, 690, 691, 692, 693, 694, 695, 696, 697, 698, 699] (by decide +kernel) (by decide +kernel)) (goodIn_sub (fun _ h => List.mem_append_left _ (List.mem_append_left _ (List.mem_append_right _ h))) (by decide +kernel))) (goodIn_sub (fun _ h => List.mem_append_right _ h) (by decide +kernel))
set_option maxRecDepth 20000 in
theorem gL_law_L_areNumbersRight : GoodIn wsL_law (va_wsS RL 61 yL_areNumbersRight wsL_areNumbersRight) := goodIn_app (goodIn_of _ (by decide +kernel)) ggL_law_L_areNumbersRight
theorem dL_law_0 : decode cL_law 0 = .ok (.new 9, 3) := by decide +kernel
theorem dL_law_3 : decode cL_law 3 = .ok (.dup, 1) := by decide +kernel
theorem dL_law_4 : decode cL_law 4 = .ok (.invokespecial 11, 3) := by decide +kernel
theorem dL_law_7 : decode cL_law 7 = .ok (.astore_n 1, 1) := by decide +kernel
theorem dL_law_8 : decode cL_law 8 = .ok (.aload_n 1, 1) := by decide +kernel
theorem dL_law_9 : decode cL_law 9 = .ok (.bipush 10, 2) := by decide +kernel
theorem dL_law_11 : decode cL_law 11 = .ok (.aload_n 0, 1) := by decide +kernel
theorem dL_law_12 : decode cL_law 12 = .ok (.iconst 0, 1) := by decide +kernel
theorem dL_law_13 : decode cL_law 13 = .ok (.invokestatic 12, 3) := by decide +kernel
theorem dL_law_16 : decode cL_law 16 = .ok (.bipush 40, 2) := by decide +kernel
theorem dL_law_18 : decode cL_law 18 = .ok (.invokestatic 18, 3) := by decide +kernel
theorem dL_law_21 : decode cL_law 21 = .ok (.iadd, 1) := by decide +kernel
theorem dL_law_22 : decode cL_law 22 = .ok (.invokevirtual 22, 3) := by decide +kernel
theorem dL_law_25 : decode cL_law 25 = .ok (.pop, 1) := by decide +kernel
theorem dL_law_26 : decode cL_law 26 = .ok (.iconst 0, 1) := by decide +kernel
theorem dL_law_27 : decode cL_law 27 = .ok (.istore_n 2, 1) := by decide +kernel
theorem dL_law_28 : decode cL_law 28 = .ok (.iload_n 2, 1) := by decide +kernel
theorem dL_law_29 : decode cL_law 29 = .ok (.iconst 3, 1) := by decide +kernel
theorem dL_law_30 : decode cL_law 30 = .ok (.if_icmp .ge 39, 3) := by decide +kernel
theorem dL_law_33 : decode cL_law 33 = .ok (.aload_n 1, 1) := by decide +kernel
theorem dL_law_34 : decode cL_law 34 = .ok (.iload_n 2, 1) := by decide +kernel
theorem dL_law_35 : decode cL_law 35 = .ok (.ifCond .le 23, 3) := by decide +kernel
theorem dL_law_38 : decode cL_law 38 = .ok (.aload_n 0, 1) := by decide +kernel
theorem dL_law_39 : decode cL_law 39 = .ok (.iconst 0, 1) := by decide +kernel
theorem dL_law_40 : decode cL_law 40 = .ok (.invokestatic 12, 3) := by decide +kernel
theorem dL_law_43 : decode cL_law 43 = .ok (.iconst 4, 1) := by decide +kernel
theorem dL_law_44 : decode cL_law 44 = .ok (.iload_n 2, 1) := by decide +kernel
theorem dL_law_45 : decode cL_law 45 = .ok (.iadd, 1) := by decide +kernel
theorem dL_law_46 : decode cL_law 46 = .ok (.ishr, 1) := by decide +kernel
theorem dL_law_47 : decode cL_law 47 = .ok (.iconst 2, 1) := by decide +kernel
theorem dL_law_48 : decode cL_law 48 = .ok (.invokestatic 18, 3) := by decide +kernel
theorem dL_law_51 : decode cL_law 51 = .ok (.ifCond .ne 7, 3) := by decide +kernel
theorem dL_law_54 : decode cL_law 54 = .ok (.iconst 1, 1) := by decide +kernel
theorem dL_law_55 : decode cL_law 55 = .ok (.goto 4, 3) := by decide +kernel
theorem dL_law_58 : decode cL_law 58 = .ok (.iconst 0, 1) := by decide +kernel
theorem dL_law_59 : decode cL_law 59 = .ok (.invokevirtual 26, 3) := by decide +kernel
theorem dL_law_62 : decode cL_law 62 = .ok (.pop, 1) := by decide +kernel
theorem dL_law_63 : decode cL_law 63 = .ok (.iinc 2 1, 3) := by decide +kernel
theorem dL_law_66 : decode cL_law 66 = .ok (.goto (-38), 3) := by decide +kernel
theorem dL_law_69 : decode cL_law 69 = .ok (.iconst 0, 1) := by decide +kernel
theorem dL_law_70 : decode cL_law 70 = .ok (.istore_n 2, 1) := by decide +kernel
theorem dL_law_71 : decode cL_law 71 = .ok (.iload_n 2, 1) := by decide +kernel
theorem dL_law_72 : decode cL_law 72 = .ok (.bipush 6, 2) := by decide +kernel
theorem dL_law_74 : decode cL_law 74 = .ok (.if_icmp .ge 111, 3) := by decide +kernel
theorem dL_law_77 : decode cL_law 77 = .ok (.aload_n 1, 1) := by decide +kernel
theorem dL_law_78 : decode cL_law 78 = .ok (.aload_n 0, 1) := by decide +kernel
theorem dL_law_79 : decode cL_law 79 = .ok (.iconst 1, 1) := by decide +kernel
theorem dL_law_80 : decode cL_law 80 = .ok (.iload_n 2, 1) := by decide +kernel
theorem dL_law_81 : decode cL_law 81 = .ok (.iadd, 1) := by decide +kernel
theorem dL_law_82 : decode cL_law 82 = .ok (.invokestatic 12, 3) := by decide +kernel
theorem dL_law_85 : decode cL_law 85 = .ok (.iconst 3, 1) := by decide +kernel
theorem dL_law_86 : decode cL_law 86 = .ok (.invokestatic 18, 3) := by decide +kernel
theorem dL_law_89 : decode cL_law 89 = .ok (.iload_n 2, 1) := by decide +kernel
theorem dL_law_90 : decode cL_law 90 = .ok (.iconst 1, 1) := by decide +kernel
theorem dL_law_91 : decode cL_law 91 = .ok (.aload_n 0, 1) := by decide +kernel
theorem dL_law_92 : decode cL_law 92 = .ok (.iconst 1, 1) := by decide +kernel
theorem dL_law_93 : decode cL_law 93 = .ok (.iload_n 2, 1) := by decide +kernel
theorem dL_law_94 : decode cL_law 94 = .ok (.iadd, 1) := by decide +kernel
theorem dL_law_95 : decode cL_law 95 = .ok (.invokestatic 12, 3) := by decide +kernel
theorem dL_law_98 : decode cL_law 98 = .ok (.iconst 3, 1) := by decide +kernel
theorem dL_law_99 : decode cL_law 99 = .ok (.ishr, 1) := by decide +kernel
theorem dL_law_100 : decode cL_law 100 = .ok (.bipush 20, 2) := by decide +kernel
theorem dL_law_102 : decode cL_law 102 = .ok (.invokestatic 18, 3) := by decide +kernel
theorem dL_law_105 : decode cL_law 105 = .ok (.iadd, 1) := by decide +kernel
theorem dL_law_106 : decode cL_law 106 = .ok (.iconst 0, 1) := by decide +kernel
theorem dL_law_107 : decode cL_law 107 = .ok (.invokevirtual 30, 3) := by decide +kernel
theorem dL_law_110 : decode cL_law 110 = .ok (.pop, 1) := by decide +kernel
theorem dL_law_111 : decode cL_law 111 = .ok (.aload_n 0, 1) := by decide +kernel
theorem dL_law_112 : decode cL_law 112 = .ok (.iconst 1, 1) := by decide +kernel
theorem dL_law_113 : decode cL_law 113 = .ok (.iload_n 2, 1) := by decide +kernel
theorem dL_law_114 : decode cL_law 114 = .ok (.iadd, 1) := by decide +kernel
theorem dL_law_115 : decode cL_law 115 = .ok (.invokestatic 12, 3) := by decide +kernel
theorem dL_law_118 : decode cL_law 118 = .ok (.iconst 5, 1) := by decide +kernel
theorem dL_law_119 : decode cL_law 119 = .ok (.ishr, 1) := by decide +kernel
theorem dL_law_120 : decode cL_law 120 = .ok (.iconst 3, 1) := by decide +kernel
theorem dL_law_121 : decode cL_law 121 = .ok (.invokestatic 18, 3) := by decide +kernel
theorem dL_law_124 : decode cL_law 124 = .ok (.istore_n 3, 1) := by decide +kernel
theorem dL_law_125 : decode cL_law 125 = .ok (.iload_n 3, 1) := by decide +kernel
theorem dL_law_126 : decode cL_law 126 = .ok (.ifCond .le 53, 3) := by decide +kernel
theorem dL_law_129 : decode cL_law 129 = .ok (.aload_n 1, 1) := by decide +kernel
theorem dL_law_130 : decode cL_law 130 = .ok (.iload_n 2, 1) := by decide +kernel
theorem dL_law_131 : decode cL_law 131 = .ok (.aload_n 0, 1) := by decide +kernel
theorem dL_law_132 : decode cL_law 132 = .ok (.iconst 1, 1) := by decide +kernel
theorem dL_law_133 : decode cL_law 133 = .ok (.iload_n 2, 1) := by decide +kernel
theorem dL_law_134 : decode cL_law 134 = .ok (.iadd, 1) := by decide +kernel
theorem dL_law_135 : decode cL_law 135 = .ok (.invokestatic 12, 3) := by decide +kernel
theorem dL_law_138 : decode cL_law 138 = .ok (.iconst 3, 1) := by decide +kernel
theorem dL_law_139 : decode cL_law 139 = .ok (.iload_n 3, 1) := by decide +kernel
theorem dL_law_140 : decode cL_law 140 = .ok (.imul, 1) := by decide +kernel
theorem dL_law_141 : decode cL_law 141 = .ok (.ishr, 1) := by decide +kernel
theorem dL_law_142 : decode cL_law 142 = .ok (.bipush 6, 2) := by decide +kernel
theorem dL_law_144 : decode cL_law 144 = .ok (.invokestatic 18, 3) := by decide +kernel
theorem dL_law_147 : decode cL_law 147 = .ok (.aload_n 0, 1) := by decide +kernel
theorem dL_law_148 : decode cL_law 148 = .ok (.iconst 1, 1) := by decide +kernel

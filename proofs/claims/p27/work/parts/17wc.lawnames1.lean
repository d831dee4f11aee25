def wsL_act0 : List Cond := .codeWith yL_act cL_act 11 (some .boolean) [(25, 133, 504, 99), (134, 181, 504, 99), (182, 228, 504, 99), (229, 322, 504, 99), (323, 366, 504, 99), (367, 413, 504, 99), (414, 503, 504, 99), (25, 133, 523, 101), (134, 181, 523, 101), (182, 228, 523, 101), (229, 322, 523, 101), (323, 366, 523, 101), (367, 413, 523, 101), (414, 503, 523, 101)] :: ((wsL_act_r1 ++ (wsL_act_r2 ++ (wsL_act_r3 ++ (wsL_act_r4 ++ (wsL_act_r5 ++ (wsL_act_r6 ++ (wsL_act_r7 ++ (wsL_act_r8 ++ (wsL_act_r9 ++ (wsL_act_r10 ++ (wsL_act_r11 ++ (wsL_act_r12 ++ (wsL_act_r13 ++ (wsL_act_r14 ++ (wsL_act_r15 ++ (wsL_act_r16 ++ (wsL_act_r17 ++ (wsL_act_r18 ++ (wsL_act_r19 ++ (wsL_act_r20 ++ wsL_act_r21)))))))))))))))))))) ++ wsX70 ++ wsX60 ++ wsX00 ++ wsX10 ++ wsX30 ++ wsX40 ++ wsX50 ++ wsX20)
set_option maxRecDepth 20000 in
theorem ggL_law_act0_0 : GoodIn wsL_law (((wsL_act0).drop 0).take 40) := goodIn_r _ [417, 418, 419, 117, 118, 114, 119, 120, 381, 382, 383, 2, 384, 125, 126, 152, 153, 154, 385, 386, 387, 388, 12, 136, 151, 20, 170, 389, 390, 25, 29, 391, 392, 393, 206, 207, 32, 208, 54, 201] (by decide +kernel) (by decide +kernel)
set_option maxRecDepth 20000 in
theorem ggL_law_act0_1 : GoodIn wsL_law (((wsL_act0).drop 40).take 40) := goodIn_r _ [202, 203, 24, 204, 99, 205, 394, 395, 396, 28, 397, 109, 398, 399, 400, 401, 108, 402, 172, 173, 174, 420, 421, 422, 423, 149, 150, 134, 135, 424, 155, 156, 157, 425, 426, 427, 428, 171, 429, 430] (by decide +kernel) (by decide +kernel)
set_option maxRecDepth 20000 in
theorem ggL_law_act0_2 : GoodIn wsL_law (((wsL_act0).drop 80).take 40) := goodIn_r _ [431, 432, 33, 433, 434, 435, 436, 437, 106, 438, 439, 440, 441, 442, 443, 444, 445, 446, 447, 448, 449, 450, 100, 451, 142, 143, 144, 452, 190, 191, 192, 193, 194, 453, 454, 455, 456, 457, 458, 459] (by decide +kernel) (by decide +kernel)
set_option maxRecDepth 20000 in
theorem ggL_law_act0_3 : GoodIn wsL_law (((wsL_act0).drop 120).take 40) := goodIn_r _ [460, 461, 462, 463, 464, 465, 466, 467, 468, 469, 470, 471, 472, 473, 474, 60, 475, 80, 79, 184, 476, 477, 478, 479, 169, 480, 481, 482, 483, 484, 485, 248, 249, 11, 250, 46, 179, 486, 487, 488] (by decide +kernel) (by decide +kernel)
set_option maxRecDepth 20000 in
theorem ggL_law_act0_4 : GoodIn wsL_law (((wsL_act0).drop 160).take 40) := goodIn_r _ [489, 490, 491, 492, 493, 494, 411, 495, 496, 497, 498, 499, 500, 501, 502, 503, 504, 505, 506, 507, 508, 509, 510, 511, 512, 513, 514, 515, 516, 517, 518, 519, 520, 521, 522, 523, 524, 525, 526, 107] (by decide +kernel) (by decide +kernel)
set_option maxRecDepth 20000 in
theorem ggL_law_act0_5 : GoodIn wsL_law (((wsL_act0).drop 200).take 40) := goodIn_r _ [527, 528, 529, 530, 412, 531, 532, 533, 534, 535, 536, 537, 19, 538, 91, 373, 539, 540, 541, 542, 21, 543, 544, 545, 546, 87, 89, 92, 93, 358, 359, 360, 361, 75, 76, 77, 81, 362, 363, 364] (by decide +kernel) (by decide +kernel)
set_option maxRecDepth 20000 in
theorem ggL_law_act0_6 : GoodIn wsL_law (((wsL_act0).drop 240).take 40) := goodIn_r _ [365, 547, 548, 549, 550, 551, 356, 552, 553, 355, 554, 367, 368, 369, 370, 371, 555, 335, 336, 337, 338, 339, 340, 341, 181, 182, 183, 342, 319, 320, 321, 47, 343, 344, 323, 324, 325, 326, 327, 328] (by decide +kernel) (by decide +kernel)
set_option maxRecDepth 20000 in
theorem ggL_law_act0_7 : GoodIn wsL_law (((wsL_act0).drop 280).take 40) := goodIn_r _ [329, 345, 346, 347, 348, 349, 316, 317, 556, 557, 558, 559, 560, 561, 562, 563, 564, 565, 158, 159, 160, 161, 162, 163, 164, 41, 48, 42, 43, 44, 141, 185, 186, 187, 188, 45, 189, 566, 567, 568] (by decide +kernel) (by decide +kernel)
set_option maxRecDepth 20000 in
theorem ggL_law_act0_8 : GoodIn wsL_law (((wsL_act0).drop 320).take 40) := goodIn_r _ [569, 403, 404, 405, 406, 407, 408, 409, 410, 413, 414, 570, 571, 572, 573, 574, 145, 146, 147, 148, 195, 196, 197, 198, 16, 34, 199, 200, 209, 210, 211, 15, 212, 65, 71, 213, 214, 215, 216, 61] (by decide +kernel) (by decide +kernel)
set_option maxRecDepth 20000 in
theorem ggL_law_act0_9 : GoodIn wsL_law (((wsL_act0).drop 360).take 40) := goodIn_r _ [67, 69, 70, 217, 218, 219, 220, 221, 222, 223, 224, 225, 226, 227, 228, 229, 230, 231, 232, 233, 234, 235, 236, 66, 237, 238, 239, 240, 241, 242, 243, 244, 245, 246, 247, 251, 252, 253, 254, 255] (by decide +kernel) (by decide +kernel)
set_option maxRecDepth 20000 in
theorem ggL_law_act0_10 : GoodIn wsL_law (((wsL_act0).drop 400).take 40) := goodIn_r _ [256, 257, 258, 259, 260, 261, 262, 263, 264, 265, 266, 267, 268, 269, 270, 271, 272, 273, 274, 275, 276, 277, 278, 279, 280, 63, 64, 281, 282, 283, 284, 285, 286, 287, 288, 68, 289, 290, 291, 292] (by decide +kernel) (by decide +kernel)
set_option maxRecDepth 20000 in
theorem ggL_law_act0_11 : GoodIn wsL_law (((wsL_act0).drop 440).take 40) := goodIn_r _ [293, 294, 295, 296, 297, 298, 299, 300, 301, 302, 303, 304, 305, 306, 307, 308, 309, 310, 311, 312, 313, 314, 315, 318, 322, 330, 331, 332, 333, 334, 350, 351, 352, 353, 354, 357, 366, 372, 374, 375] (by decide +kernel) (by decide +kernel)
set_option maxRecDepth 20000 in
theorem ggL_law_act0_12 : GoodIn wsL_law (((wsL_act0).drop 480).take 40) := goodIn_r _ [376, 377, 575, 576, 577, 578, 579, 580, 581, 582, 583, 584, 672, 673, 674, 675, 676, 677, 678, 679, 680, 681, 682, 683, 684, 685, 686, 687, 688, 689, 700, 701, 702, 703, 704, 712, 713, 714, 715, 716] (by decide +kernel) (by decide +kernel)
set_option maxRecDepth 20000 in
theorem ggL_law_act0_13 : GoodIn wsL_law ((wsL_act0).drop 520) := goodIn_r _ [717, 707, 708, 709, 710, 711, 705, 706, 690, 691, 692, 693, 694, 695, 696, 697, 698, 699] (by decide +kernel) (by decide +kernel)
theorem ggL_law_act0 : GoodIn wsL_law (wsL_act0) := by
  have h := (goodIn_td 0 40 ggL_law_act0_0 (goodIn_td 40 40 ggL_law_act0_1 (goodIn_td 80 40 ggL_law_act0_2 (goodIn_td 120 40 ggL_law_act0_3 (goodIn_td 160 40 ggL_law_act0_4 (goodIn_td 200 40 ggL_law_act0_5 (goodIn_td 240 40 ggL_law_act0_6 (goodIn_td 280 40 ggL_law_act0_7 (goodIn_td 320 40 ggL_law_act0_8 (goodIn_td 360 40 ggL_law_act0_9 (goodIn_td 400 40 ggL_law_act0_10 (goodIn_td 440 40 ggL_law_act0_11 (goodIn_td 480 40 ggL_law_act0_12 ggL_law_act0_13)))))))))))))
  exact h
set_option maxRecDepth 20000 in
theorem ggL_law_L_act : GoodIn wsL_law wsL_act := goodIn_ca (goodIn_ca (goodIn_ca ggL_law_act0 (goodIn_sub (fun _ h => List.mem_append_left _ (List.mem_append_left _ (List.mem_append_right _ h))) (by decide +kernel))) (goodIn_sub (fun _ h => List.mem_append_right _ h) (by decide +kernel))) (goodIn_sub (fun _ h => List.mem_append_left _ (List.mem_append_right _ h)) (by decide +kernel))
set_option maxRecDepth 20000 in
theorem gL_law_L_act : GoodIn wsL_law (va_wsS RL 46 yL_act wsL_act) := goodIn_app (goodIn_of _ (by decide +kernel)) ggL_law_L_act

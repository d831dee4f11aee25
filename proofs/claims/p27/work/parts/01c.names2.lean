set_option maxRecDepth 20000 in
theorem ggX1_losesSymbol_X1_isLaid : GoodIn wsX1_losesSymbol wsX1_isLaid := goodIn_r _ [8, 9, 10, 11, 12, 13, 14, 15, 56, 57, 58, 59, 60, 61, 62] (by decide +kernel) (by decide +kernel)
set_option maxRecDepth 20000 in
theorem gX1_losesSymbol_X1_isLaid : GoodIn wsX1_losesSymbol (wsV RX1 61 RX1 yX1_isLaid wsX1_isLaid) := goodIn_app (goodIn_of _ (by decide +kernel)) ggX1_losesSymbol_X1_isLaid
set_option maxRecDepth 20000 in
theorem ggX1_losesSymbol_X4_get : GoodIn wsX1_losesSymbol wsX4_get := goodIn_r _ [14, 15, 62] (by decide +kernel) (by decide +kernel)
set_option maxRecDepth 20000 in
theorem gX1_losesSymbol_X4_get : GoodIn wsX1_losesSymbol (wsV RX1 44 RX4 yX4_get wsX4_get) := goodIn_app (goodIn_of _ (by decide +kernel)) ggX1_losesSymbol_X4_get
set_option maxRecDepth 20000 in
theorem ggX1_losesSymbol_X6_isNear : GoodIn wsX1_losesSymbol wsX6_isNear := goodIn_r _ [20, 21, 22, 11, 12, 13, 14, 15, 46, 47, 48, 49, 50, 51, 52, 53, 54, 55, 62] (by decide +kernel) (by decide +kernel)
set_option maxRecDepth 20000 in
theorem gX1_losesSymbol_X6_isNear : GoodIn wsX1_losesSymbol (wsV RX1 68 RX6 yX6_isNear wsX6_isNear) := goodIn_app (goodIn_of _ (by decide +kernel)) ggX1_losesSymbol_X6_isNear
set_option maxRecDepth 20000 in
theorem ggX1_losesSymbol_X6_target : GoodIn wsX1_losesSymbol wsX6_target := goodIn_r _ [26, 27, 22, 11, 12, 13, 14, 15, 46, 47, 48, 49, 50, 51, 52, 53, 54, 55, 62] (by decide +kernel) (by decide +kernel)
set_option maxRecDepth 20000 in
theorem gX1_losesSymbol_X6_target : GoodIn wsX1_losesSymbol (wsV RX1 71 RX6 yX6_target wsX6_target) := goodIn_app (goodIn_of _ (by decide +kernel)) ggX1_losesSymbol_X6_target
set_option maxRecDepth 20000 in
theorem ggX1_losesSymbol_X1_reachesSymbol : GoodIn wsX1_losesSymbol wsX1_reachesSymbol := goodIn_r _ [31, 9, 32, 10, 11, 12, 13, 14, 15, 33, 34, 35, 7, 36, 37, 56, 57, 58, 59, 60, 61, 62] (by decide +kernel) (by decide +kernel)
set_option maxRecDepth 20000 in
theorem gX1_losesSymbol_X1_reachesSymbol : GoodIn wsX1_losesSymbol (wsV RX1 74 RX1 yX1_reachesSymbol wsX1_reachesSymbol) := goodIn_app (goodIn_of _ (by decide +kernel)) ggX1_losesSymbol_X1_reachesSymbol
set_option maxRecDepth 20000 in
theorem ggX1_losesSymbol_X1_reachesIsland : GoodIn wsX1_losesSymbol wsX1_reachesIsland := goodIn_r _ [41, 9, 42, 10, 11, 12, 13, 14, 15, 43, 44, 7, 45, 33, 34, 35, 36, 37, 56, 57, 58, 59, 60, 61, 62] (by decide +kernel) (by decide +kernel)
set_option maxRecDepth 20000 in
theorem gX1_losesSymbol_X1_reachesIsland : GoodIn wsX1_losesSymbol (wsV RX1 80 RX1 yX1_reachesIsland wsX1_reachesIsland) := goodIn_app (goodIn_of _ (by decide +kernel)) ggX1_losesSymbol_X1_reachesIsland
theorem dX1_losesSymbol_0 : decode cX1_losesSymbol 0 = .ok (.iconst 0, 1) := by decide +kernel
theorem dX1_losesSymbol_1 : decode cX1_losesSymbol 1 = .ok (.istore_n 3, 1) := by decide +kernel
theorem dX1_losesSymbol_2 : decode cX1_losesSymbol 2 = .ok (.iload_n 3, 1) := by decide +kernel
theorem dX1_losesSymbol_3 : decode cX1_losesSymbol 3 = .ok (.aload_n 1, 1) := by decide +kernel
theorem dX1_losesSymbol_4 : decode cX1_losesSymbol 4 = .ok (.getfield 56, 3) := by decide +kernel
theorem dX1_losesSymbol_7 : decode cX1_losesSymbol 7 = .ok (.if_icmp .ge 96, 3) := by decide +kernel
theorem dX1_losesSymbol_10 : decode cX1_losesSymbol 10 = .ok (.aload_n 0, 1) := by decide +kernel
theorem dX1_losesSymbol_11 : decode cX1_losesSymbol 11 = .ok (.iload_n 3, 1) := by decide +kernel
theorem dX1_losesSymbol_12 : decode cX1_losesSymbol 12 = .ok (.invokevirtual 61, 3) := by decide +kernel
theorem dX1_losesSymbol_15 : decode cX1_losesSymbol 15 = .ok (.ifCond .eq 14, 3) := by decide +kernel
theorem dX1_losesSymbol_18 : decode cX1_losesSymbol 18 = .ok (.aload_n 1, 1) := by decide +kernel
theorem dX1_losesSymbol_19 : decode cX1_losesSymbol 19 = .ok (.getfield 65, 3) := by decide +kernel
theorem dX1_losesSymbol_22 : decode cX1_losesSymbol 22 = .ok (.iload_n 3, 1) := by decide +kernel
theorem dX1_losesSymbol_23 : decode cX1_losesSymbol 23 = .ok (.invokevirtual 44, 3) := by decide +kernel
theorem dX1_losesSymbol_26 : decode cX1_losesSymbol 26 = .ok (.goto 4, 3) := by decide +kernel
theorem dX1_losesSymbol_29 : decode cX1_losesSymbol 29 = .ok (.iconst 0, 1) := by decide +kernel
theorem dX1_losesSymbol_30 : decode cX1_losesSymbol 30 = .ok (.istore 4, 2) := by decide +kernel
theorem dX1_losesSymbol_32 : decode cX1_losesSymbol 32 = .ok (.iconst 0, 1) := by decide +kernel
theorem dX1_losesSymbol_33 : decode cX1_losesSymbol 33 = .ok (.istore 5, 2) := by decide +kernel
theorem dX1_losesSymbol_35 : decode cX1_losesSymbol 35 = .ok (.iload 5, 2) := by decide +kernel
theorem dX1_losesSymbol_37 : decode cX1_losesSymbol 37 = .ok (.iload 4, 2) := by decide +kernel
theorem dX1_losesSymbol_39 : decode cX1_losesSymbol 39 = .ok (.if_icmp .ge 58, 3) := by decide +kernel
theorem dX1_losesSymbol_42 : decode cX1_losesSymbol 42 = .ok (.aload_n 1, 1) := by decide +kernel
theorem dX1_losesSymbol_43 : decode cX1_losesSymbol 43 = .ok (.iload_n 3, 1) := by decide +kernel
theorem dX1_losesSymbol_44 : decode cX1_losesSymbol 44 = .ok (.iload 5, 2) := by decide +kernel
theorem dX1_losesSymbol_46 : decode cX1_losesSymbol 46 = .ok (.invokevirtual 68, 3) := by decide +kernel
theorem dX1_losesSymbol_49 : decode cX1_losesSymbol 49 = .ok (.ifCond .eq 42, 3) := by decide +kernel
theorem dX1_losesSymbol_52 : decode cX1_losesSymbol 52 = .ok (.aload_n 1, 1) := by decide +kernel
theorem dX1_losesSymbol_53 : decode cX1_losesSymbol 53 = .ok (.iload_n 3, 1) := by decide +kernel
theorem dX1_losesSymbol_54 : decode cX1_losesSymbol 54 = .ok (.iload 5, 2) := by decide +kernel
theorem dX1_losesSymbol_56 : decode cX1_losesSymbol 56 = .ok (.invokevirtual 71, 3) := by decide +kernel
theorem dX1_losesSymbol_59 : decode cX1_losesSymbol 59 = .ok (.iload_n 2, 1) := by decide +kernel
theorem dX1_losesSymbol_60 : decode cX1_losesSymbol 60 = .ok (.if_icmp .ne 31, 3) := by decide +kernel
theorem dX1_losesSymbol_63 : decode cX1_losesSymbol 63 = .ok (.aload_n 0, 1) := by decide +kernel
theorem dX1_losesSymbol_64 : decode cX1_losesSymbol 64 = .ok (.iload_n 3, 1) := by decide +kernel
theorem dX1_losesSymbol_65 : decode cX1_losesSymbol 65 = .ok (.iload_n 2, 1) := by decide +kernel
theorem dX1_losesSymbol_66 : decode cX1_losesSymbol 66 = .ok (.invokevirtual 74, 3) := by decide +kernel
theorem dX1_losesSymbol_69 : decode cX1_losesSymbol 69 = .ok (.ifCond .ne 22, 3) := by decide +kernel
theorem dX1_losesSymbol_72 : decode cX1_losesSymbol 72 = .ok (.aload_n 0, 1) := by decide +kernel
theorem dX1_losesSymbol_73 : decode cX1_losesSymbol 73 = .ok (.iload_n 3, 1) := by decide +kernel
theorem dX1_losesSymbol_74 : decode cX1_losesSymbol 74 = .ok (.aload_n 1, 1) := by decide +kernel
theorem dX1_losesSymbol_75 : decode cX1_losesSymbol 75 = .ok (.getfield 77, 3) := by decide +kernel
theorem dX1_losesSymbol_78 : decode cX1_losesSymbol 78 = .ok (.iload_n 3, 1) := by decide +kernel
theorem dX1_losesSymbol_79 : decode cX1_losesSymbol 79 = .ok (.invokevirtual 44, 3) := by decide +kernel
theorem dX1_losesSymbol_82 : decode cX1_losesSymbol 82 = .ok (.iload_n 2, 1) := by decide +kernel
theorem dX1_losesSymbol_83 : decode cX1_losesSymbol 83 = .ok (.invokevirtual 80, 3) := by decide +kernel
theorem dX1_losesSymbol_86 : decode cX1_losesSymbol 86 = .ok (.ifCond .ne 5, 3) := by decide +kernel
theorem dX1_losesSymbol_89 : decode cX1_losesSymbol 89 = .ok (.iconst 1, 1) := by decide +kernel
theorem dX1_losesSymbol_90 : decode cX1_losesSymbol 90 = .ok (.ireturn, 1) := by decide +kernel
theorem dX1_losesSymbol_91 : decode cX1_losesSymbol 91 = .ok (.iinc 5 1, 3) := by decide +kernel
theorem dX1_losesSymbol_94 : decode cX1_losesSymbol 94 = .ok (.goto (-59), 3) := by decide +kernel
theorem dX1_losesSymbol_97 : decode cX1_losesSymbol 97 = .ok (.iinc 3 1, 3) := by decide +kernel
theorem dX1_losesSymbol_100 : decode cX1_losesSymbol 100 = .ok (.goto (-98), 3) := by decide +kernel
theorem dX1_losesSymbol_103 : decode cX1_losesSymbol 103 = .ok (.iconst 0, 1) := by decide +kernel
theorem dX1_losesSymbol_104 : decode cX1_losesSymbol 104 = .ok (.ireturn, 1) := by decide +kernel
set_option maxRecDepth 20000 in
theorem ggX2_init_X1_init : GoodIn wsX2_init wsX1_init := goodIn_r _ [21, 22, 2, 3, 23, 24, 25, 26, 9, 10, 27, 28, 29, 30, 31, 32, 33, 34, 35, 37, 38, 39, 40, 41, 42, 53] (by decide +kernel) (by decide +kernel)
set_option maxRecDepth 20000 in
theorem gX2_init_X1_init_n11 : GoodIn wsX2_init (wsX1_init) := ggX2_init_X1_init
set_option maxRecDepth 20000 in
theorem ggX2_init_X4_init : GoodIn wsX2_init wsX4_init := goodIn_r _ [32, 33, 2, 3, 34, 35, 53] (by decide +kernel) (by decide +kernel)
set_option maxRecDepth 20000 in
theorem gX2_init_X4_init : GoodIn wsX2_init (wsX4_init) := ggX2_init_X4_init
theorem dX2_init_0 : decode cX2_init 0 = .ok (.aload_n 0, 1) := by decide +kernel
theorem dX2_init_1 : decode cX2_init 1 = .ok (.invokespecial 3, 3) := by decide +kernel
theorem dX2_init_4 : decode cX2_init 4 = .ok (.aload_n 0, 1) := by decide +kernel
theorem dX2_init_5 : decode cX2_init 5 = .ok (.new 9, 3) := by decide +kernel
theorem dX2_init_8 : decode cX2_init 8 = .ok (.dup, 1) := by decide +kernel
theorem dX2_init_9 : decode cX2_init 9 = .ok (.invokespecial 11, 3) := by decide +kernel
theorem dX2_init_12 : decode cX2_init 12 = .ok (.putfield 12, 3) := by decide +kernel
theorem dX2_init_15 : decode cX2_init 15 = .ok (.aload_n 0, 1) := by decide +kernel
theorem dX2_init_16 : decode cX2_init 16 = .ok (.new 18, 3) := by decide +kernel
theorem dX2_init_19 : decode cX2_init 19 = .ok (.dup, 1) := by decide +kernel
theorem dX2_init_20 : decode cX2_init 20 = .ok (.bipush 33, 2) := by decide +kernel
theorem dX2_init_22 : decode cX2_init 22 = .ok (.iconst 0, 1) := by decide +kernel
theorem dX2_init_23 : decode cX2_init 23 = .ok (.invokespecial 20, 3) := by decide +kernel
theorem dX2_init_26 : decode cX2_init 26 = .ok (.putfield 23, 3) := by decide +kernel
theorem dX2_init_29 : decode cX2_init 29 = .ok (.aload_n 0, 1) := by decide +kernel
theorem dX2_init_30 : decode cX2_init 30 = .ok (.new 18, 3) := by decide +kernel
theorem dX2_init_33 : decode cX2_init 33 = .ok (.dup, 1) := by decide +kernel
theorem dX2_init_34 : decode cX2_init 34 = .ok (.bipush 33, 2) := by decide +kernel
theorem dX2_init_36 : decode cX2_init 36 = .ok (.iconst (-1), 1) := by decide +kernel
theorem dX2_init_37 : decode cX2_init 37 = .ok (.invokespecial 20, 3) := by decide +kernel
theorem dX2_init_40 : decode cX2_init 40 = .ok (.putfield 27, 3) := by decide +kernel
theorem dX2_init_43 : decode cX2_init 43 = .ok (.aload_n 0, 1) := by decide +kernel
theorem dX2_init_44 : decode cX2_init 44 = .ok (.iconst 0, 1) := by decide +kernel
theorem dX2_init_45 : decode cX2_init 45 = .ok (.putfield 30, 3) := by decide +kernel
theorem dX2_init_48 : decode cX2_init 48 = .ok (.aload_n 0, 1) := by decide +kernel
theorem dX2_init_49 : decode cX2_init 49 = .ok (.new 18, 3) := by decide +kernel
theorem dX2_init_52 : decode cX2_init 52 = .ok (.dup, 1) := by decide +kernel
theorem dX2_init_53 : decode cX2_init 53 = .ok (.bipush 8, 2) := by decide +kernel
theorem dX2_init_55 : decode cX2_init 55 = .ok (.iconst (-1), 1) := by decide +kernel
theorem dX2_init_56 : decode cX2_init 56 = .ok (.invokespecial 20, 3) := by decide +kernel
theorem dX2_init_59 : decode cX2_init 59 = .ok (.putfield 34, 3) := by decide +kernel
theorem dX2_init_62 : decode cX2_init 62 = .ok (.aload_n 0, 1) := by decide +kernel
theorem dX2_init_63 : decode cX2_init 63 = .ok (.new 18, 3) := by decide +kernel
theorem dX2_init_66 : decode cX2_init 66 = .ok (.dup, 1) := by decide +kernel
theorem dX2_init_67 : decode cX2_init 67 = .ok (.bipush 16, 2) := by decide +kernel
theorem dX2_init_69 : decode cX2_init 69 = .ok (.iconst 0, 1) := by decide +kernel
theorem dX2_init_70 : decode cX2_init 70 = .ok (.invokespecial 20, 3) := by decide +kernel
theorem dX2_init_73 : decode cX2_init 73 = .ok (.putfield 37, 3) := by decide +kernel
theorem dX2_init_76 : decode cX2_init 76 = .ok (.aload_n 0, 1) := by decide +kernel
theorem dX2_init_77 : decode cX2_init 77 = .ok (.new 18, 3) := by decide +kernel
theorem dX2_init_80 : decode cX2_init 80 = .ok (.dup, 1) := by decide +kernel
theorem dX2_init_81 : decode cX2_init 81 = .ok (.sipush 128, 3) := by decide +kernel
theorem dX2_init_84 : decode cX2_init 84 = .ok (.iconst (-1), 1) := by decide +kernel
theorem dX2_init_85 : decode cX2_init 85 = .ok (.invokespecial 20, 3) := by decide +kernel
theorem dX2_init_88 : decode cX2_init 88 = .ok (.putfield 40, 3) := by decide +kernel
theorem dX2_init_91 : decode cX2_init 91 = .ok (.aload_n 0, 1) := by decide +kernel
theorem dX2_init_92 : decode cX2_init 92 = .ok (.iconst 0, 1) := by decide +kernel
theorem dX2_init_93 : decode cX2_init 93 = .ok (.putfield 43, 3) := by decide +kernel
theorem dX2_init_96 : decode cX2_init 96 = .ok (.aload_n 0, 1) := by decide +kernel
theorem dX2_init_97 : decode cX2_init 97 = .ok (.iconst 0, 1) := by decide +kernel
theorem dX2_init_98 : decode cX2_init 98 = .ok (.putfield 46, 3) := by decide +kernel
theorem dX2_init_101 : decode cX2_init 101 = .ok (.aload_n 0, 1) := by decide +kernel
theorem dX2_init_102 : decode cX2_init 102 = .ok (.iconst 0, 1) := by decide +kernel
theorem dX2_init_103 : decode cX2_init 103 = .ok (.putfield 49, 3) := by decide +kernel
theorem dX2_init_106 : decode cX2_init 106 = .ok (.return_, 1) := by decide +kernel
set_option maxRecDepth 20000 in
theorem ggX2_attempt_X2_begin : GoodIn wsX2_attempt wsX2_begin := goodIn_r _ [7, 8, 9, 10, 11, 2, 1, 12, 13, 14, 15, 16, 17, 18, 19, 20, 21, 22, 23, 24, 25, 26, 27, 28, 29, 181, 182, 183, 184, 185, 186, 187, 188, 189, 190, 191, 192, 193, 194, 195, 196, 197] (by decide +kernel) (by decide +kernel)
set_option maxRecDepth 20000 in
theorem gX2_attempt_X2_begin : GoodIn wsX2_attempt (wsV RX2 52 RX2 yX2_begin wsX2_begin) := goodIn_app (goodIn_of _ (by decide +kernel)) ggX2_attempt_X2_begin
set_option maxRecDepth 20000 in
theorem ggX2_attempt_X2_takePlainObjects : GoodIn wsX2_attempt wsX2_takePlainObjects := goodIn_r _ [33, 34, 35, 36, 37, 38, 26, 39, 28, 40, 41, 42, 6, 43, 44, 8, 45, 10, 11, 46, 47, 48, 49, 50, 51, 52, 53, 54, 55, 56, 57, 58, 59, 60, 61, 62, 63, 64, 65, 66, 67, 68, 198, 199, 200, 201, 202, 203, 204, 205, 206, 207, 197, 181, 182, 183, 184, 185, 186, 187, 188, 189, 190, 191, 192, 193, 194, 195, 196] (by decide +kernel) (by decide +kernel)
set_option maxRecDepth 20000 in
theorem gX2_attempt_X2_takePlainObjects : GoodIn wsX2_attempt (wsV RX2 56 RX2 yX2_takePlainObjects wsX2_takePlainObjects) := goodIn_app (goodIn_of _ (by decide +kernel)) ggX2_attempt_X2_takePlainObjects
set_option maxRecDepth 20000 in
theorem ggX2_attempt_X2_takeNeededArchives : GoodIn wsX2_attempt wsX2_takeNeededArchives := goodIn_r _ [72, 73, 74, 75, 6, 76, 34, 35, 11, 10, 36, 37, 38, 26, 39, 28, 50, 51, 52, 53, 54, 55, 56, 57, 58, 40, 41, 42, 43, 44, 8, 45, 46, 47, 48, 49, 59, 60, 61, 62, 63, 64, 65, 66, 67, 68, 198, 199, 200, 201, 202, 203, 204, 205, 206, 207, 181, 182, 183, 184, 185, 186, 187, 188, 189, 190, 197, 191, 192, 193, 194, 195, 196] (by decide +kernel) (by decide +kernel)
set_option maxRecDepth 20000 in
theorem gX2_attempt_X2_takeNeededArchives : GoodIn wsX2_attempt (wsV RX2 60 RX2 yX2_takeNeededArchives wsX2_takeNeededArchives) := goodIn_app (goodIn_of _ (by decide +kernel)) ggX2_attempt_X2_takeNeededArchives
set_option maxRecDepth 20000 in
theorem ggX2_attempt_X2_chooseWhatStands : GoodIn wsX2_attempt wsX2_chooseWhatStands := goodIn_r _ [80, 8, 45, 81, 82, 44, 36, 37, 38, 26, 39, 28, 83, 84, 85, 6, 86, 87, 88, 9, 89, 46, 47, 48, 49, 90, 91, 92, 93, 94, 95, 181, 182, 183, 184, 185, 186, 187, 188, 189, 190, 191, 192, 193, 194, 195, 196, 198, 199, 200, 201, 202, 203, 204, 205, 206, 207, 197] (by decide +kernel) (by decide +kernel)
set_option maxRecDepth 20000 in
theorem gX2_attempt_X2_chooseWhatStands : GoodIn wsX2_attempt (wsV RX2 63 RX2 yX2_chooseWhatStands wsX2_chooseWhatStands) := goodIn_app (goodIn_of _ (by decide +kernel)) ggX2_attempt_X2_chooseWhatStands
set_option maxRecDepth 20000 in
theorem ggX2_attempt_X2_findDoubleSymbols : GoodIn wsX2_attempt wsX2_findDoubleSymbols := goodIn_r _ [99, 9, 36, 37, 38, 26, 39, 28, 100, 101, 102, 6, 103, 104, 1, 105, 46, 47, 48, 49, 181, 182, 183, 184, 185, 186, 187, 188, 189, 190, 197] (by decide +kernel) (by decide +kernel)
set_option maxRecDepth 20000 in
theorem gX2_attempt_X2_findDoubleSymbols : GoodIn wsX2_attempt (wsV RX2 67 RX2 yX2_findDoubleSymbols wsX2_findDoubleSymbols) := goodIn_app (goodIn_of _ (by decide +kernel)) ggX2_attempt_X2_findDoubleSymbols
set_option maxRecDepth 20000 in
theorem ggX2_attempt_X2_findMissingSymbols : GoodIn wsX2_attempt wsX2_findMissingSymbols := goodIn_r _ [109, 11, 8, 89, 36, 37, 38, 26, 39, 28, 100, 101, 102, 6, 103, 104, 1, 105, 46, 47, 48, 49, 181, 182, 183, 184, 185, 186, 187, 188, 189, 190, 191, 192, 193, 194, 195, 196, 197] (by decide +kernel) (by decide +kernel)
set_option maxRecDepth 20000 in
theorem gX2_attempt_X2_findMissingSymbols : GoodIn wsX2_attempt (wsV RX2 70 RX2 yX2_findMissingSymbols wsX2_findMissingSymbols) := goodIn_app (goodIn_of _ (by decide +kernel)) ggX2_attempt_X2_findMissingSymbols
set_option maxRecDepth 20000 in
theorem ggX2_attempt_X2_layWithIslands : GoodIn wsX2_attempt wsX2_layWithIslands := goodIn_r _ [113, 114, 8, 115, 116, 117, 118, 6, 119, 2, 45, 44, 36, 37, 38, 26, 39, 28, 120, 121, 122, 123, 81, 82, 124, 125, 46, 47, 48, 49, 126, 127, 128, 129, 130, 131, 132, 133, 134, 135, 136, 137, 138, 139, 140, 65, 66, 53, 67, 68, 58, 141, 142, 15, 143, 144, 145, 146, 147, 148, 149, 150, 151, 152, 21, 20, 153, 154, 155, 156, 157, 17, 181, 182, 183, 184, 185, 186, 187, 188, 189, 190, 191, 192, 193, 194, 195, 196, 197, 198, 199, 200, 201, 202, 203, 204, 205, 206, 207] (by decide +kernel) (by decide +kernel)
set_option maxRecDepth 20000 in
theorem gX2_attempt_X2_layWithIslands : GoodIn wsX2_attempt (wsV RX2 73 RX2 yX2_layWithIslands wsX2_layWithIslands) := goodIn_app (goodIn_of _ (by decide +kernel)) ggX2_attempt_X2_layWithIslands
set_option maxRecDepth 20000 in
theorem ggX2_attempt_X2_findOutOfReach : GoodIn wsX2_attempt wsX2_findOutOfReach := goodIn_r _ [161, 8, 162, 163, 164, 15, 165, 166, 167, 168, 169, 170, 171, 172, 21, 153, 37, 38, 26, 39, 28, 173, 145, 146, 53, 147, 148, 58, 174, 65, 66, 67, 68, 175, 150, 151, 152, 20, 154, 155, 156, 157, 17, 176, 177, 178, 179, 22, 180, 142, 143, 100, 101, 102, 6, 103, 104, 1, 105, 46, 47, 48, 49, 181, 182, 183, 184, 185, 186, 187, 188, 189, 190, 198, 199, 200, 201, 202, 203, 204, 205, 206, 207, 191, 192, 193, 194, 195, 196, 197] (by decide +kernel) (by decide +kernel)
set_option maxRecDepth 20000 in
theorem gX2_attempt_X2_findOutOfReach : GoodIn wsX2_attempt (wsV RX2 76 RX2 yX2_findOutOfReach wsX2_findOutOfReach) := goodIn_app (goodIn_of _ (by decide +kernel)) ggX2_attempt_X2_findOutOfReach
set_option maxRecDepth 20000 in
theorem ggX2_attempt_X2_addFault : GoodIn wsX2_attempt wsX2_addFault := goodIn_r _ [103, 104, 1, 105, 46, 47, 48, 26, 49, 28, 181, 182, 183, 184, 185, 186, 187, 188, 189, 190, 197] (by decide +kernel) (by decide +kernel)
set_option maxRecDepth 20000 in
theorem gX2_attempt_X2_addFault : GoodIn wsX2_attempt (wsV RX2 79 RX2 yX2_addFault wsX2_addFault) := goodIn_app (goodIn_of _ (by decide +kernel)) ggX2_attempt_X2_addFault
theorem dX2_attempt_0 : decode cX2_attempt 0 = .ok (.aload_n 0, 1) := by decide +kernel
theorem dX2_attempt_1 : decode cX2_attempt 1 = .ok (.iload_n 2, 1) := by decide +kernel
theorem dX2_attempt_2 : decode cX2_attempt 2 = .ok (.invokevirtual 52, 3) := by decide +kernel
theorem dX2_attempt_5 : decode cX2_attempt 5 = .ok (.aload_n 0, 1) := by decide +kernel
theorem dX2_attempt_6 : decode cX2_attempt 6 = .ok (.aload_n 1, 1) := by decide +kernel
theorem dX2_attempt_7 : decode cX2_attempt 7 = .ok (.iload_n 3, 1) := by decide +kernel
theorem dX2_attempt_8 : decode cX2_attempt 8 = .ok (.invokevirtual 56, 3) := by decide +kernel
theorem dX2_attempt_11 : decode cX2_attempt 11 = .ok (.aload_n 0, 1) := by decide +kernel
theorem dX2_attempt_12 : decode cX2_attempt 12 = .ok (.aload_n 1, 1) := by decide +kernel
theorem dX2_attempt_13 : decode cX2_attempt 13 = .ok (.iload_n 3, 1) := by decide +kernel
theorem dX2_attempt_14 : decode cX2_attempt 14 = .ok (.invokevirtual 60, 3) := by decide +kernel
theorem dX2_attempt_17 : decode cX2_attempt 17 = .ok (.aload_n 0, 1) := by decide +kernel
theorem dX2_attempt_18 : decode cX2_attempt 18 = .ok (.aload_n 1, 1) := by decide +kernel
theorem dX2_attempt_19 : decode cX2_attempt 19 = .ok (.invokevirtual 63, 3) := by decide +kernel
theorem dX2_attempt_22 : decode cX2_attempt 22 = .ok (.aload_n 0, 1) := by decide +kernel
theorem dX2_attempt_23 : decode cX2_attempt 23 = .ok (.invokevirtual 67, 3) := by decide +kernel
theorem dX2_attempt_26 : decode cX2_attempt 26 = .ok (.aload_n 0, 1) := by decide +kernel
theorem dX2_attempt_27 : decode cX2_attempt 27 = .ok (.invokevirtual 70, 3) := by decide +kernel
theorem dX2_attempt_30 : decode cX2_attempt 30 = .ok (.aload_n 0, 1) := by decide +kernel
theorem dX2_attempt_31 : decode cX2_attempt 31 = .ok (.getfield 30, 3) := by decide +kernel
theorem dX2_attempt_34 : decode cX2_attempt 34 = .ok (.ifCond .le 4, 3) := by decide +kernel
theorem dX2_attempt_37 : decode cX2_attempt 37 = .ok (.return_, 1) := by decide +kernel
theorem dX2_attempt_38 : decode cX2_attempt 38 = .ok (.aload_n 0, 1) := by decide +kernel
theorem dX2_attempt_39 : decode cX2_attempt 39 = .ok (.aload_n 1, 1) := by decide +kernel
theorem dX2_attempt_40 : decode cX2_attempt 40 = .ok (.invokevirtual 73, 3) := by decide +kernel
theorem dX2_attempt_43 : decode cX2_attempt 43 = .ok (.aload_n 0, 1) := by decide +kernel
theorem dX2_attempt_44 : decode cX2_attempt 44 = .ok (.aload_n 1, 1) := by decide +kernel
theorem dX2_attempt_45 : decode cX2_attempt 45 = .ok (.invokevirtual 76, 3) := by decide +kernel
theorem dX2_attempt_48 : decode cX2_attempt 48 = .ok (.aload_n 0, 1) := by decide +kernel
theorem dX2_attempt_49 : decode cX2_attempt 49 = .ok (.getfield 49, 3) := by decide +kernel
theorem dX2_attempt_52 : decode cX2_attempt 52 = .ok (.sipush 200, 3) := by decide +kernel
theorem dX2_attempt_55 : decode cX2_attempt 55 = .ok (.if_icmp .le 9, 3) := by decide +kernel
theorem dX2_attempt_58 : decode cX2_attempt 58 = .ok (.aload_n 0, 1) := by decide +kernel
theorem dX2_attempt_59 : decode cX2_attempt 59 = .ok (.iconst 4, 1) := by decide +kernel
theorem dX2_attempt_60 : decode cX2_attempt 60 = .ok (.iconst (-1), 1) := by decide +kernel
theorem dX2_attempt_61 : decode cX2_attempt 61 = .ok (.invokevirtual 79, 3) := by decide +kernel
theorem dX2_attempt_64 : decode cX2_attempt 64 = .ok (.return_, 1) := by decide +kernel
set_option maxRecDepth 20000 in
theorem ggX2_begin_X1_clear : GoodIn wsX2_begin wsX1_clear := goodIn_r _ [11, 12, 13, 14, 15, 16, 17, 18, 19, 20, 21, 22, 23, 35, 36, 37, 38, 39, 40, 41] (by decide +kernel) (by decide +kernel)
set_option maxRecDepth 20000 in
theorem gX2_begin_X1_clear : GoodIn wsX2_begin (wsV RX2 82 RX1 yX1_clear wsX1_clear) := goodIn_app (goodIn_of _ (by decide +kernel)) ggX2_begin_X1_clear
set_option maxRecDepth 20000 in
theorem ggX2_begin_X4_fill : GoodIn wsX2_begin wsX4_fill := goodIn_r _ [22, 23, 41] (by decide +kernel) (by decide +kernel)
set_option maxRecDepth 20000 in
theorem gX2_begin_X4_fill : GoodIn wsX2_begin (wsV RX2 85 RX4 yX4_fill wsX4_fill) := goodIn_app (goodIn_of _ (by decide +kernel)) ggX2_begin_X4_fill
theorem dX2_begin_0 : decode cX2_begin 0 = .ok (.aload_n 0, 1) := by decide +kernel
theorem dX2_begin_1 : decode cX2_begin 1 = .ok (.getfield 12, 3) := by decide +kernel
theorem dX2_begin_4 : decode cX2_begin 4 = .ok (.iload_n 1, 1) := by decide +kernel
theorem dX2_begin_5 : decode cX2_begin 5 = .ok (.invokevirtual 82, 3) := by decide +kernel
theorem dX2_begin_8 : decode cX2_begin 8 = .ok (.aload_n 0, 1) := by decide +kernel
theorem dX2_begin_9 : decode cX2_begin 9 = .ok (.getfield 37, 3) := by decide +kernel
theorem dX2_begin_12 : decode cX2_begin 12 = .ok (.iconst 0, 1) := by decide +kernel
theorem dX2_begin_13 : decode cX2_begin 13 = .ok (.invokevirtual 85, 3) := by decide +kernel
theorem dX2_begin_16 : decode cX2_begin 16 = .ok (.aload_n 0, 1) := by decide +kernel
theorem dX2_begin_17 : decode cX2_begin 17 = .ok (.iconst 0, 1) := by decide +kernel
theorem dX2_begin_18 : decode cX2_begin 18 = .ok (.putfield 43, 3) := by decide +kernel
theorem dX2_begin_21 : decode cX2_begin 21 = .ok (.aload_n 0, 1) := by decide +kernel
theorem dX2_begin_22 : decode cX2_begin 22 = .ok (.iconst 0, 1) := by decide +kernel
theorem dX2_begin_23 : decode cX2_begin 23 = .ok (.putfield 46, 3) := by decide +kernel
theorem dX2_begin_26 : decode cX2_begin 26 = .ok (.aload_n 0, 1) := by decide +kernel
theorem dX2_begin_27 : decode cX2_begin 27 = .ok (.iconst 0, 1) := by decide +kernel
theorem dX2_begin_28 : decode cX2_begin 28 = .ok (.putfield 49, 3) := by decide +kernel
theorem dX2_begin_31 : decode cX2_begin 31 = .ok (.aload_n 0, 1) := by decide +kernel
theorem dX2_begin_32 : decode cX2_begin 32 = .ok (.iconst 0, 1) := by decide +kernel
theorem dX2_begin_33 : decode cX2_begin 33 = .ok (.putfield 30, 3) := by decide +kernel
theorem dX2_begin_36 : decode cX2_begin 36 = .ok (.return_, 1) := by decide +kernel
set_option maxRecDepth 20000 in
theorem ggX2_takePlainObjects_X4_get : GoodIn wsX2_takePlainObjects wsX4_get := goodIn_r _ [7, 8, 52] (by decide +kernel) (by decide +kernel)
set_option maxRecDepth 20000 in
theorem gX2_takePlainObjects_X4_get : GoodIn wsX2_takePlainObjects (wsV RX2 96 RX4 yX4_get wsX4_get) := goodIn_app (goodIn_of _ (by decide +kernel)) ggX2_takePlainObjects_X4_get
set_option maxRecDepth 20000 in
theorem ggX2_takePlainObjects_X2_takeIn : GoodIn wsX2_takePlainObjects wsX2_takeIn := goodIn_r _ [13, 14, 15, 16, 17, 18, 19, 20, 21, 6, 22, 8, 23, 24, 25, 26, 27, 28, 29, 30, 31, 4, 5, 7, 32, 33, 34, 35, 36, 37, 38, 39, 40, 41, 53, 54, 55, 56, 57, 58, 59, 60, 61, 62, 63, 64, 65, 66, 67, 68, 52, 42, 43, 44, 45, 46, 47, 48, 49, 50, 51] (by decide +kernel) (by decide +kernel)
set_option maxRecDepth 20000 in
theorem gX2_takePlainObjects_X2_takeIn : GoodIn wsX2_takePlainObjects (wsV RX2 100 RX2 yX2_takeIn wsX2_takeIn) := goodIn_app (goodIn_of _ (by decide +kernel)) ggX2_takePlainObjects_X2_takeIn
theorem dX2_takePlainObjects_0 : decode cX2_takePlainObjects 0 = .ok (.iconst 0, 1) := by decide +kernel
theorem dX2_takePlainObjects_1 : decode cX2_takePlainObjects 1 = .ok (.istore_n 3, 1) := by decide +kernel
theorem dX2_takePlainObjects_2 : decode cX2_takePlainObjects 2 = .ok (.iload_n 3, 1) := by decide +kernel
theorem dX2_takePlainObjects_3 : decode cX2_takePlainObjects 3 = .ok (.aload_n 1, 1) := by decide +kernel
theorem dX2_takePlainObjects_4 : decode cX2_takePlainObjects 4 = .ok (.getfield 88, 3) := by decide +kernel
theorem dX2_takePlainObjects_7 : decode cX2_takePlainObjects 7 = .ok (.if_icmp .ge 31, 3) := by decide +kernel
theorem dX2_takePlainObjects_10 : decode cX2_takePlainObjects 10 = .ok (.iload_n 3, 1) := by decide +kernel
theorem dX2_takePlainObjects_11 : decode cX2_takePlainObjects 11 = .ok (.iload_n 2, 1) := by decide +kernel
theorem dX2_takePlainObjects_12 : decode cX2_takePlainObjects 12 = .ok (.if_icmp .eq 20, 3) := by decide +kernel
theorem dX2_takePlainObjects_15 : decode cX2_takePlainObjects 15 = .ok (.aload_n 1, 1) := by decide +kernel
theorem dX2_takePlainObjects_16 : decode cX2_takePlainObjects 16 = .ok (.getfield 93, 3) := by decide +kernel
theorem dX2_takePlainObjects_19 : decode cX2_takePlainObjects 19 = .ok (.iload_n 3, 1) := by decide +kernel
theorem dX2_takePlainObjects_20 : decode cX2_takePlainObjects 20 = .ok (.invokevirtual 96, 3) := by decide +kernel
theorem dX2_takePlainObjects_23 : decode cX2_takePlainObjects 23 = .ok (.ifCond .ne 9, 3) := by decide +kernel
theorem dX2_takePlainObjects_26 : decode cX2_takePlainObjects 26 = .ok (.aload_n 0, 1) := by decide +kernel
theorem dX2_takePlainObjects_27 : decode cX2_takePlainObjects 27 = .ok (.aload_n 1, 1) := by decide +kernel
theorem dX2_takePlainObjects_28 : decode cX2_takePlainObjects 28 = .ok (.iload_n 3, 1) := by decide +kernel
theorem dX2_takePlainObjects_29 : decode cX2_takePlainObjects 29 = .ok (.invokevirtual 100, 3) := by decide +kernel
theorem dX2_takePlainObjects_32 : decode cX2_takePlainObjects 32 = .ok (.iinc 3 1, 3) := by decide +kernel
theorem dX2_takePlainObjects_35 : decode cX2_takePlainObjects 35 = .ok (.goto (-33), 3) := by decide +kernel
theorem dX2_takePlainObjects_38 : decode cX2_takePlainObjects 38 = .ok (.return_, 1) := by decide +kernel
set_option maxRecDepth 20000 in
theorem ggX2_takeNeededArchives_X2_firstNeededArchive : GoodIn wsX2_takeNeededArchives wsX2_firstNeededArchive := goodIn_r _ [5, 6, 7, 8, 9, 10, 11, 12, 13, 14, 15, 16, 17, 18, 19, 20, 21, 22, 23, 24, 46, 47, 48, 49, 50, 51, 52, 53, 54, 55, 56, 57, 58, 59, 60, 61, 62, 63, 64, 65, 66] (by decide +kernel) (by decide +kernel)
set_option maxRecDepth 20000 in
theorem gX2_takeNeededArchives_X2_firstNeededArchive : GoodIn wsX2_takeNeededArchives (wsV RX2 103 RX2 yX2_firstNeededArchive wsX2_firstNeededArchive) := goodIn_app (goodIn_of _ (by decide +kernel)) ggX2_takeNeededArchives_X2_firstNeededArchive
set_option maxRecDepth 20000 in
theorem ggX2_takeNeededArchives_X2_takeIn : GoodIn wsX2_takeNeededArchives wsX2_takeIn := goodIn_r _ [28, 29, 30, 31, 9, 8, 32, 33, 34, 13, 35, 15, 16, 17, 18, 19, 20, 21, 22, 23, 24, 11, 12, 14, 36, 37, 38, 39, 40, 41, 42, 43, 44, 45, 56, 57, 58, 59, 60, 61, 62, 63, 64, 65, 67, 68, 69, 70, 71, 72, 66, 46, 47, 48, 49, 50, 51, 52, 53, 54, 55] (by decide +kernel) (by decide +kernel)
set_option maxRecDepth 20000 in
theorem gX2_takeNeededArchives_X2_takeIn : GoodIn wsX2_takeNeededArchives (wsV RX2 100 RX2 yX2_takeIn wsX2_takeIn) := goodIn_app (goodIn_of _ (by decide +kernel)) ggX2_takeNeededArchives_X2_takeIn
theorem dX2_takeNeededArchives_0 : decode cX2_takeNeededArchives 0 = .ok (.iconst 0, 1) := by decide +kernel
theorem dX2_takeNeededArchives_1 : decode cX2_takeNeededArchives 1 = .ok (.istore_n 3, 1) := by decide +kernel
theorem dX2_takeNeededArchives_2 : decode cX2_takeNeededArchives 2 = .ok (.iload_n 3, 1) := by decide +kernel
theorem dX2_takeNeededArchives_3 : decode cX2_takeNeededArchives 3 = .ok (.bipush 8, 2) := by decide +kernel
theorem dX2_takeNeededArchives_5 : decode cX2_takeNeededArchives 5 = .ok (.if_icmp .ge 31, 3) := by decide +kernel
theorem dX2_takeNeededArchives_8 : decode cX2_takeNeededArchives 8 = .ok (.aload_n 0, 1) := by decide +kernel
theorem dX2_takeNeededArchives_9 : decode cX2_takeNeededArchives 9 = .ok (.aload_n 1, 1) := by decide +kernel
theorem dX2_takeNeededArchives_10 : decode cX2_takeNeededArchives 10 = .ok (.iload_n 2, 1) := by decide +kernel
theorem dX2_takeNeededArchives_11 : decode cX2_takeNeededArchives 11 = .ok (.invokevirtual 103, 3) := by decide +kernel
theorem dX2_takeNeededArchives_14 : decode cX2_takeNeededArchives 14 = .ok (.istore 4, 2) := by decide +kernel
theorem dX2_takeNeededArchives_16 : decode cX2_takeNeededArchives 16 = .ok (.iload 4, 2) := by decide +kernel
theorem dX2_takeNeededArchives_18 : decode cX2_takeNeededArchives 18 = .ok (.iconst (-1), 1) := by decide +kernel
theorem dX2_takeNeededArchives_19 : decode cX2_takeNeededArchives 19 = .ok (.if_icmp .ne 4, 3) := by decide +kernel
theorem dX2_takeNeededArchives_22 : decode cX2_takeNeededArchives 22 = .ok (.return_, 1) := by decide +kernel
theorem dX2_takeNeededArchives_23 : decode cX2_takeNeededArchives 23 = .ok (.aload_n 0, 1) := by decide +kernel
theorem dX2_takeNeededArchives_24 : decode cX2_takeNeededArchives 24 = .ok (.aload_n 1, 1) := by decide +kernel
theorem dX2_takeNeededArchives_25 : decode cX2_takeNeededArchives 25 = .ok (.iload 4, 2) := by decide +kernel
theorem dX2_takeNeededArchives_27 : decode cX2_takeNeededArchives 27 = .ok (.invokevirtual 100, 3) := by decide +kernel
theorem dX2_takeNeededArchives_30 : decode cX2_takeNeededArchives 30 = .ok (.iinc 3 1, 3) := by decide +kernel
theorem dX2_takeNeededArchives_33 : decode cX2_takeNeededArchives 33 = .ok (.goto (-31), 3) := by decide +kernel
theorem dX2_takeNeededArchives_36 : decode cX2_takeNeededArchives 36 = .ok (.return_, 1) := by decide +kernel
set_option maxRecDepth 20000 in
theorem ggX2_takeIn_X4_set : GoodIn wsX2_takeIn wsX4_set := goodIn_r _ [10, 11, 50] (by decide +kernel) (by decide +kernel)
set_option maxRecDepth 20000 in
theorem gX2_takeIn_X4_set : GoodIn wsX2_takeIn (wsV RX2 110 RX4 yX4_set wsX4_set) := goodIn_app (goodIn_of _ (by decide +kernel)) ggX2_takeIn_X4_set
set_option maxRecDepth 20000 in
theorem ggX2_takeIn_X6_symbolBits : GoodIn wsX2_takeIn wsX6_symbolBits := goodIn_r _ [16, 17, 18, 19, 20, 21, 22, 9, 23, 11, 51, 52, 53, 54, 55, 56, 57, 58, 59, 60, 50] (by decide +kernel) (by decide +kernel)
set_option maxRecDepth 20000 in
theorem gX2_takeIn_X6_symbolBits : GoodIn wsX2_takeIn (wsV RX2 113 RX6 yX6_symbolBits wsX6_symbolBits) := goodIn_app (goodIn_of _ (by decide +kernel)) ggX2_takeIn_X6_symbolBits
set_option maxRecDepth 20000 in
theorem ggX2_takeIn_X6_targetBits : GoodIn wsX2_takeIn wsX6_targetBits := goodIn_r _ [27, 17, 18, 28, 20, 21, 22, 9, 23, 11, 29, 30, 31, 15, 32, 33, 51, 52, 53, 54, 55, 56, 57, 58, 59, 60, 50] (by decide +kernel) (by decide +kernel)
set_option maxRecDepth 20000 in
theorem gX2_takeIn_X6_targetBits : GoodIn wsX2_takeIn (wsV RX2 116 RX6 yX6_targetBits wsX6_targetBits) := goodIn_app (goodIn_of _ (by decide +kernel)) ggX2_takeIn_X6_targetBits
theorem dX2_takeIn_0 : decode cX2_takeIn 0 = .ok (.aload_n 0, 1) := by decide +kernel
theorem dX2_takeIn_1 : decode cX2_takeIn 1 = .ok (.getfield 34, 3) := by decide +kernel
theorem dX2_takeIn_4 : decode cX2_takeIn 4 = .ok (.aload_n 0, 1) := by decide +kernel
theorem dX2_takeIn_5 : decode cX2_takeIn 5 = .ok (.getfield 12, 3) := by decide +kernel
theorem dX2_takeIn_8 : decode cX2_takeIn 8 = .ok (.getfield 107, 3) := by decide +kernel
theorem dX2_takeIn_11 : decode cX2_takeIn 11 = .ok (.iload_n 2, 1) := by decide +kernel
theorem dX2_takeIn_12 : decode cX2_takeIn 12 = .ok (.invokevirtual 110, 3) := by decide +kernel
theorem dX2_takeIn_15 : decode cX2_takeIn 15 = .ok (.aload_n 0, 1) := by decide +kernel
theorem dX2_takeIn_16 : decode cX2_takeIn 16 = .ok (.getfield 12, 3) := by decide +kernel
theorem dX2_takeIn_19 : decode cX2_takeIn 19 = .ok (.dup, 1) := by decide +kernel
theorem dX2_takeIn_20 : decode cX2_takeIn 20 = .ok (.getfield 107, 3) := by decide +kernel
theorem dX2_takeIn_23 : decode cX2_takeIn 23 = .ok (.iconst 1, 1) := by decide +kernel
theorem dX2_takeIn_24 : decode cX2_takeIn 24 = .ok (.iadd, 1) := by decide +kernel
theorem dX2_takeIn_25 : decode cX2_takeIn 25 = .ok (.putfield 107, 3) := by decide +kernel
theorem dX2_takeIn_28 : decode cX2_takeIn 28 = .ok (.aload_n 0, 1) := by decide +kernel
theorem dX2_takeIn_29 : decode cX2_takeIn 29 = .ok (.dup, 1) := by decide +kernel
theorem dX2_takeIn_30 : decode cX2_takeIn 30 = .ok (.getfield 43, 3) := by decide +kernel
theorem dX2_takeIn_33 : decode cX2_takeIn 33 = .ok (.aload_n 1, 1) := by decide +kernel
theorem dX2_takeIn_34 : decode cX2_takeIn 34 = .ok (.iload_n 2, 1) := by decide +kernel
theorem dX2_takeIn_35 : decode cX2_takeIn 35 = .ok (.invokevirtual 113, 3) := by decide +kernel
theorem dX2_takeIn_38 : decode cX2_takeIn 38 = .ok (.ior, 1) := by decide +kernel
theorem dX2_takeIn_39 : decode cX2_takeIn 39 = .ok (.putfield 43, 3) := by decide +kernel
theorem dX2_takeIn_42 : decode cX2_takeIn 42 = .ok (.aload_n 0, 1) := by decide +kernel
theorem dX2_takeIn_43 : decode cX2_takeIn 43 = .ok (.dup, 1) := by decide +kernel
theorem dX2_takeIn_44 : decode cX2_takeIn 44 = .ok (.getfield 46, 3) := by decide +kernel
theorem dX2_takeIn_47 : decode cX2_takeIn 47 = .ok (.aload_n 1, 1) := by decide +kernel
theorem dX2_takeIn_48 : decode cX2_takeIn 48 = .ok (.iload_n 2, 1) := by decide +kernel
theorem dX2_takeIn_49 : decode cX2_takeIn 49 = .ok (.invokevirtual 116, 3) := by decide +kernel
theorem dX2_takeIn_52 : decode cX2_takeIn 52 = .ok (.ior, 1) := by decide +kernel
theorem dX2_takeIn_53 : decode cX2_takeIn 53 = .ok (.putfield 46, 3) := by decide +kernel
theorem dX2_takeIn_56 : decode cX2_takeIn 56 = .ok (.return_, 1) := by decide +kernel
set_option maxRecDepth 20000 in
theorem ggX2_firstNeededArchive_X4_get : GoodIn wsX2_firstNeededArchive wsX4_get := goodIn_r _ [9, 10, 40] (by decide +kernel) (by decide +kernel)
set_option maxRecDepth 20000 in
theorem gX2_firstNeededArchive_X4_get : GoodIn wsX2_firstNeededArchive (wsV RX2 96 RX4 yX4_get wsX4_get) := goodIn_app (goodIn_of _ (by decide +kernel)) ggX2_firstNeededArchive_X4_get
set_option maxRecDepth 20000 in
theorem ggX2_firstNeededArchive_X6_symbolBits : GoodIn wsX2_firstNeededArchive wsX6_symbolBits := goodIn_r _ [15, 16, 17, 18, 19, 6, 7, 8, 9, 10, 20, 21, 22, 23, 24, 25, 26, 27, 28, 29, 40] (by decide +kernel) (by decide +kernel)
set_option maxRecDepth 20000 in
theorem gX2_firstNeededArchive_X6_symbolBits : GoodIn wsX2_firstNeededArchive (wsV RX2 113 RX6 yX6_symbolBits wsX6_symbolBits) := goodIn_app (goodIn_of _ (by decide +kernel)) ggX2_firstNeededArchive_X6_symbolBits
theorem dX2_firstNeededArchive_0 : decode cX2_firstNeededArchive 0 = .ok (.iconst 0, 1) := by decide +kernel
theorem dX2_firstNeededArchive_1 : decode cX2_firstNeededArchive 1 = .ok (.istore_n 3, 1) := by decide +kernel
theorem dX2_firstNeededArchive_2 : decode cX2_firstNeededArchive 2 = .ok (.iload_n 3, 1) := by decide +kernel
theorem dX2_firstNeededArchive_3 : decode cX2_firstNeededArchive 3 = .ok (.aload_n 1, 1) := by decide +kernel
theorem dX2_firstNeededArchive_4 : decode cX2_firstNeededArchive 4 = .ok (.getfield 88, 3) := by decide +kernel
theorem dX2_firstNeededArchive_7 : decode cX2_firstNeededArchive 7 = .ok (.if_icmp .ge 60, 3) := by decide +kernel
theorem dX2_firstNeededArchive_10 : decode cX2_firstNeededArchive 10 = .ok (.iload_n 3, 1) := by decide +kernel
theorem dX2_firstNeededArchive_11 : decode cX2_firstNeededArchive 11 = .ok (.iload_n 2, 1) := by decide +kernel
theorem dX2_firstNeededArchive_12 : decode cX2_firstNeededArchive 12 = .ok (.if_icmp .eq 19, 3) := by decide +kernel
theorem dX2_firstNeededArchive_15 : decode cX2_firstNeededArchive 15 = .ok (.aload_n 1, 1) := by decide +kernel
theorem dX2_firstNeededArchive_16 : decode cX2_firstNeededArchive 16 = .ok (.getfield 93, 3) := by decide +kernel
theorem dX2_firstNeededArchive_19 : decode cX2_firstNeededArchive 19 = .ok (.iload_n 3, 1) := by decide +kernel
theorem dX2_firstNeededArchive_20 : decode cX2_firstNeededArchive 20 = .ok (.invokevirtual 96, 3) := by decide +kernel
theorem dX2_firstNeededArchive_23 : decode cX2_firstNeededArchive 23 = .ok (.iconst 1, 1) := by decide +kernel
theorem dX2_firstNeededArchive_24 : decode cX2_firstNeededArchive 24 = .ok (.if_icmp .ne 7, 3) := by decide +kernel
theorem dX2_firstNeededArchive_27 : decode cX2_firstNeededArchive 27 = .ok (.iconst 1, 1) := by decide +kernel
theorem dX2_firstNeededArchive_28 : decode cX2_firstNeededArchive 28 = .ok (.goto 4, 3) := by decide +kernel
theorem dX2_firstNeededArchive_31 : decode cX2_firstNeededArchive 31 = .ok (.iconst 0, 1) := by decide +kernel
theorem dX2_firstNeededArchive_32 : decode cX2_firstNeededArchive 32 = .ok (.istore 4, 2) := by decide +kernel
theorem dX2_firstNeededArchive_34 : decode cX2_firstNeededArchive 34 = .ok (.iload 4, 2) := by decide +kernel
theorem dX2_firstNeededArchive_36 : decode cX2_firstNeededArchive 36 = .ok (.ifCond .eq 25, 3) := by decide +kernel
theorem dX2_firstNeededArchive_39 : decode cX2_firstNeededArchive 39 = .ok (.aload_n 1, 1) := by decide +kernel
theorem dX2_firstNeededArchive_40 : decode cX2_firstNeededArchive 40 = .ok (.iload_n 3, 1) := by decide +kernel
theorem dX2_firstNeededArchive_41 : decode cX2_firstNeededArchive 41 = .ok (.invokevirtual 113, 3) := by decide +kernel
theorem dX2_firstNeededArchive_44 : decode cX2_firstNeededArchive 44 = .ok (.aload_n 0, 1) := by decide +kernel
theorem dX2_firstNeededArchive_45 : decode cX2_firstNeededArchive 45 = .ok (.getfield 46, 3) := by decide +kernel
theorem dX2_firstNeededArchive_48 : decode cX2_firstNeededArchive 48 = .ok (.iand, 1) := by decide +kernel
theorem dX2_firstNeededArchive_49 : decode cX2_firstNeededArchive 49 = .ok (.aload_n 0, 1) := by decide +kernel
theorem dX2_firstNeededArchive_50 : decode cX2_firstNeededArchive 50 = .ok (.getfield 43, 3) := by decide +kernel
theorem dX2_firstNeededArchive_53 : decode cX2_firstNeededArchive 53 = .ok (.iconst (-1), 1) := by decide +kernel
theorem dX2_firstNeededArchive_54 : decode cX2_firstNeededArchive 54 = .ok (.ixor, 1) := by decide +kernel
theorem dX2_firstNeededArchive_55 : decode cX2_firstNeededArchive 55 = .ok (.iand, 1) := by decide +kernel
theorem dX2_firstNeededArchive_56 : decode cX2_firstNeededArchive 56 = .ok (.ifCond .eq 5, 3) := by decide +kernel
theorem dX2_firstNeededArchive_59 : decode cX2_firstNeededArchive 59 = .ok (.iload_n 3, 1) := by decide +kernel
theorem dX2_firstNeededArchive_60 : decode cX2_firstNeededArchive 60 = .ok (.ireturn, 1) := by decide +kernel
theorem dX2_firstNeededArchive_61 : decode cX2_firstNeededArchive 61 = .ok (.iinc 3 1, 3) := by decide +kernel
theorem dX2_firstNeededArchive_64 : decode cX2_firstNeededArchive 64 = .ok (.goto (-62), 3) := by decide +kernel
theorem dX2_firstNeededArchive_67 : decode cX2_firstNeededArchive 67 = .ok (.iconst (-1), 1) := by decide +kernel
theorem dX2_firstNeededArchive_68 : decode cX2_firstNeededArchive 68 = .ok (.ireturn, 1) := by decide +kernel
set_option maxRecDepth 20000 in
theorem ggX2_chooseWhatStands_X4_get : GoodIn wsX2_chooseWhatStands wsX4_get := goodIn_r _ [10, 11, 57] (by decide +kernel) (by decide +kernel)
set_option maxRecDepth 20000 in
theorem gX2_chooseWhatStands_X4_get : GoodIn wsX2_chooseWhatStands (wsV RX2 96 RX4 yX4_get wsX4_get) := goodIn_app (goodIn_of _ (by decide +kernel)) ggX2_chooseWhatStands_X4_get
set_option maxRecDepth 20000 in
theorem ggX2_chooseWhatStands_X2_considerForSymbol : GoodIn wsX2_chooseWhatStands wsX2_considerForSymbol := goodIn_r _ [16, 17, 18, 19, 1, 20, 6, 7, 8, 9, 10, 11, 21, 22, 23, 24, 25, 26, 27, 28, 29, 30, 47, 48, 49, 50, 51, 52, 53, 54, 55, 56, 31, 32, 33, 34, 35, 36, 37, 38, 39, 40, 41, 42, 43, 44, 45, 46, 57] (by decide +kernel) (by decide +kernel)
set_option maxRecDepth 20000 in
theorem gX2_chooseWhatStands_X2_considerForSymbol : GoodIn wsX2_chooseWhatStands (wsV RX2 125 RX2 yX2_considerForSymbol wsX2_considerForSymbol) := goodIn_app (goodIn_of _ (by decide +kernel)) ggX2_chooseWhatStands_X2_considerForSymbol
theorem dX2_chooseWhatStands_0 : decode cX2_chooseWhatStands 0 = .ok (.iconst 0, 1) := by decide +kernel
theorem dX2_chooseWhatStands_1 : decode cX2_chooseWhatStands 1 = .ok (.istore_n 2, 1) := by decide +kernel
theorem dX2_chooseWhatStands_2 : decode cX2_chooseWhatStands 2 = .ok (.iload_n 2, 1) := by decide +kernel
theorem dX2_chooseWhatStands_3 : decode cX2_chooseWhatStands 3 = .ok (.aload_n 0, 1) := by decide +kernel
theorem dX2_chooseWhatStands_4 : decode cX2_chooseWhatStands 4 = .ok (.getfield 12, 3) := by decide +kernel
theorem dX2_chooseWhatStands_7 : decode cX2_chooseWhatStands 7 = .ok (.getfield 107, 3) := by decide +kernel
theorem dX2_chooseWhatStands_10 : decode cX2_chooseWhatStands 10 = .ok (.if_icmp .ge 50, 3) := by decide +kernel
theorem dX2_chooseWhatStands_13 : decode cX2_chooseWhatStands 13 = .ok (.iconst 0, 1) := by decide +kernel
theorem dX2_chooseWhatStands_14 : decode cX2_chooseWhatStands 14 = .ok (.istore_n 3, 1) := by decide +kernel
theorem dX2_chooseWhatStands_15 : decode cX2_chooseWhatStands 15 = .ok (.iload_n 3, 1) := by decide +kernel
theorem dX2_chooseWhatStands_16 : decode cX2_chooseWhatStands 16 = .ok (.aload_n 1, 1) := by decide +kernel
theorem dX2_chooseWhatStands_17 : decode cX2_chooseWhatStands 17 = .ok (.getfield 119, 3) := by decide +kernel
theorem dX2_chooseWhatStands_20 : decode cX2_chooseWhatStands 20 = .ok (.if_icmp .ge 34, 3) := by decide +kernel
theorem dX2_chooseWhatStands_23 : decode cX2_chooseWhatStands 23 = .ok (.aload_n 1, 1) := by decide +kernel
theorem dX2_chooseWhatStands_24 : decode cX2_chooseWhatStands 24 = .ok (.getfield 122, 3) := by decide +kernel
theorem dX2_chooseWhatStands_27 : decode cX2_chooseWhatStands 27 = .ok (.iload_n 3, 1) := by decide +kernel
theorem dX2_chooseWhatStands_28 : decode cX2_chooseWhatStands 28 = .ok (.invokevirtual 96, 3) := by decide +kernel
theorem dX2_chooseWhatStands_31 : decode cX2_chooseWhatStands 31 = .ok (.aload_n 0, 1) := by decide +kernel
theorem dX2_chooseWhatStands_32 : decode cX2_chooseWhatStands 32 = .ok (.getfield 34, 3) := by decide +kernel
theorem dX2_chooseWhatStands_35 : decode cX2_chooseWhatStands 35 = .ok (.iload_n 2, 1) := by decide +kernel
theorem dX2_chooseWhatStands_36 : decode cX2_chooseWhatStands 36 = .ok (.invokevirtual 96, 3) := by decide +kernel
theorem dX2_chooseWhatStands_39 : decode cX2_chooseWhatStands 39 = .ok (.if_icmp .ne 9, 3) := by decide +kernel
theorem dX2_chooseWhatStands_42 : decode cX2_chooseWhatStands 42 = .ok (.aload_n 0, 1) := by decide +kernel
theorem dX2_chooseWhatStands_43 : decode cX2_chooseWhatStands 43 = .ok (.aload_n 1, 1) := by decide +kernel
theorem dX2_chooseWhatStands_44 : decode cX2_chooseWhatStands 44 = .ok (.iload_n 3, 1) := by decide +kernel
theorem dX2_chooseWhatStands_45 : decode cX2_chooseWhatStands 45 = .ok (.invokevirtual 125, 3) := by decide +kernel
theorem dX2_chooseWhatStands_48 : decode cX2_chooseWhatStands 48 = .ok (.iinc 3 1, 3) := by decide +kernel
theorem dX2_chooseWhatStands_51 : decode cX2_chooseWhatStands 51 = .ok (.goto (-36), 3) := by decide +kernel
theorem dX2_chooseWhatStands_54 : decode cX2_chooseWhatStands 54 = .ok (.iinc 2 1, 3) := by decide +kernel
theorem dX2_chooseWhatStands_57 : decode cX2_chooseWhatStands 57 = .ok (.goto (-55), 3) := by decide +kernel
theorem dX2_chooseWhatStands_60 : decode cX2_chooseWhatStands 60 = .ok (.return_, 1) := by decide +kernel
set_option maxRecDepth 20000 in
theorem ggX2_considerForSymbol_X4_get : GoodIn wsX2_considerForSymbol wsX4_get := goodIn_r _ [10, 11, 48] (by decide +kernel) (by decide +kernel)
set_option maxRecDepth 20000 in
theorem gX2_considerForSymbol_X4_get : GoodIn wsX2_considerForSymbol (wsV RX2 96 RX4 yX4_get wsX4_get) := goodIn_app (goodIn_of _ (by decide +kernel)) ggX2_considerForSymbol_X4_get
set_option maxRecDepth 20000 in
theorem ggX2_considerForSymbol_X4_set : GoodIn wsX2_considerForSymbol wsX4_set := goodIn_r _ [15, 11, 48] (by decide +kernel) (by decide +kernel)
set_option maxRecDepth 20000 in
theorem gX2_considerForSymbol_X4_set : GoodIn wsX2_considerForSymbol (wsV RX2 110 RX4 yX4_set wsX4_set) := goodIn_app (goodIn_of _ (by decide +kernel)) ggX2_considerForSymbol_X4_set
set_option maxRecDepth 20000 in
theorem ggX2_considerForSymbol_X4_add : GoodIn wsX2_considerForSymbol wsX4_add := goodIn_r _ [19, 20, 7, 8, 9, 10, 11, 21, 13, 14, 15, 48] (by decide +kernel) (by decide +kernel)
set_option maxRecDepth 20000 in
theorem gX2_considerForSymbol_X4_add : GoodIn wsX2_considerForSymbol (wsV RX2 137 RX4 yX4_add wsX4_add) := goodIn_app (goodIn_of _ (by decide +kernel)) ggX2_considerForSymbol_X4_add
theorem dX2_considerForSymbol_0 : decode cX2_considerForSymbol 0 = .ok (.aload_n 1, 1) := by decide +kernel
theorem dX2_considerForSymbol_1 : decode cX2_considerForSymbol 1 = .ok (.getfield 128, 3) := by decide +kernel
theorem dX2_considerForSymbol_4 : decode cX2_considerForSymbol 4 = .ok (.iload_n 2, 1) := by decide +kernel
theorem dX2_considerForSymbol_5 : decode cX2_considerForSymbol 5 = .ok (.invokevirtual 96, 3) := by decide +kernel
theorem dX2_considerForSymbol_8 : decode cX2_considerForSymbol 8 = .ok (.istore_n 3, 1) := by decide +kernel
theorem dX2_considerForSymbol_9 : decode cX2_considerForSymbol 9 = .ok (.aload_n 1, 1) := by decide +kernel
theorem dX2_considerForSymbol_10 : decode cX2_considerForSymbol 10 = .ok (.getfield 131, 3) := by decide +kernel
theorem dX2_considerForSymbol_13 : decode cX2_considerForSymbol 13 = .ok (.iload_n 2, 1) := by decide +kernel
theorem dX2_considerForSymbol_14 : decode cX2_considerForSymbol 14 = .ok (.invokevirtual 96, 3) := by decide +kernel
theorem dX2_considerForSymbol_17 : decode cX2_considerForSymbol 17 = .ok (.iconst 1, 1) := by decide +kernel
theorem dX2_considerForSymbol_18 : decode cX2_considerForSymbol 18 = .ok (.if_icmp .ne 7, 3) := by decide +kernel
theorem dX2_considerForSymbol_21 : decode cX2_considerForSymbol 21 = .ok (.iconst 1, 1) := by decide +kernel
theorem dX2_considerForSymbol_22 : decode cX2_considerForSymbol 22 = .ok (.goto 4, 3) := by decide +kernel
theorem dX2_considerForSymbol_25 : decode cX2_considerForSymbol 25 = .ok (.iconst 0, 1) := by decide +kernel
theorem dX2_considerForSymbol_26 : decode cX2_considerForSymbol 26 = .ok (.istore 4, 2) := by decide +kernel
theorem dX2_considerForSymbol_28 : decode cX2_considerForSymbol 28 = .ok (.iload 4, 2) := by decide +kernel
theorem dX2_considerForSymbol_30 : decode cX2_considerForSymbol 30 = .ok (.ifCond .eq 18, 3) := by decide +kernel
theorem dX2_considerForSymbol_33 : decode cX2_considerForSymbol 33 = .ok (.aload_n 0, 1) := by decide +kernel
theorem dX2_considerForSymbol_34 : decode cX2_considerForSymbol 34 = .ok (.getfield 37, 3) := by decide +kernel
theorem dX2_considerForSymbol_37 : decode cX2_considerForSymbol 37 = .ok (.iload_n 3, 1) := by decide +kernel
theorem dX2_considerForSymbol_38 : decode cX2_considerForSymbol 38 = .ok (.invokevirtual 96, 3) := by decide +kernel
theorem dX2_considerForSymbol_41 : decode cX2_considerForSymbol 41 = .ok (.ifCond .ne 7, 3) := by decide +kernel
theorem dX2_considerForSymbol_44 : decode cX2_considerForSymbol 44 = .ok (.iconst 1, 1) := by decide +kernel
theorem dX2_considerForSymbol_45 : decode cX2_considerForSymbol 45 = .ok (.goto 4, 3) := by decide +kernel
theorem dX2_considerForSymbol_48 : decode cX2_considerForSymbol 48 = .ok (.iconst 0, 1) := by decide +kernel
theorem dX2_considerForSymbol_49 : decode cX2_considerForSymbol 49 = .ok (.istore 5, 2) := by decide +kernel
theorem dX2_considerForSymbol_51 : decode cX2_considerForSymbol 51 = .ok (.iload 5, 2) := by decide +kernel
theorem dX2_considerForSymbol_53 : decode cX2_considerForSymbol 53 = .ok (.ifCond .ne 18, 3) := by decide +kernel
theorem dX2_considerForSymbol_56 : decode cX2_considerForSymbol 56 = .ok (.aload_n 0, 1) := by decide +kernel
theorem dX2_considerForSymbol_57 : decode cX2_considerForSymbol 57 = .ok (.getfield 12, 3) := by decide +kernel
theorem dX2_considerForSymbol_60 : decode cX2_considerForSymbol 60 = .ok (.getfield 134, 3) := by decide +kernel
theorem dX2_considerForSymbol_63 : decode cX2_considerForSymbol 63 = .ok (.iload_n 3, 1) := by decide +kernel
theorem dX2_considerForSymbol_64 : decode cX2_considerForSymbol 64 = .ok (.invokevirtual 96, 3) := by decide +kernel
theorem dX2_considerForSymbol_67 : decode cX2_considerForSymbol 67 = .ok (.iconst (-1), 1) := by decide +kernel
theorem dX2_considerForSymbol_68 : decode cX2_considerForSymbol 68 = .ok (.if_icmp .ne 15, 3) := by decide +kernel
theorem dX2_considerForSymbol_71 : decode cX2_considerForSymbol 71 = .ok (.aload_n 0, 1) := by decide +kernel
theorem dX2_considerForSymbol_72 : decode cX2_considerForSymbol 72 = .ok (.getfield 12, 3) := by decide +kernel
theorem dX2_considerForSymbol_75 : decode cX2_considerForSymbol 75 = .ok (.getfield 134, 3) := by decide +kernel
theorem dX2_considerForSymbol_78 : decode cX2_considerForSymbol 78 = .ok (.iload_n 3, 1) := by decide +kernel
theorem dX2_considerForSymbol_79 : decode cX2_considerForSymbol 79 = .ok (.iload_n 2, 1) := by decide +kernel
theorem dX2_considerForSymbol_80 : decode cX2_considerForSymbol 80 = .ok (.invokevirtual 110, 3) := by decide +kernel
theorem dX2_considerForSymbol_83 : decode cX2_considerForSymbol 83 = .ok (.iload 4, 2) := by decide +kernel
theorem dX2_considerForSymbol_85 : decode cX2_considerForSymbol 85 = .ok (.ifCond .eq 12, 3) := by decide +kernel
theorem dX2_considerForSymbol_88 : decode cX2_considerForSymbol 88 = .ok (.aload_n 0, 1) := by decide +kernel
theorem dX2_considerForSymbol_89 : decode cX2_considerForSymbol 89 = .ok (.getfield 37, 3) := by decide +kernel
theorem dX2_considerForSymbol_92 : decode cX2_considerForSymbol 92 = .ok (.iload_n 3, 1) := by decide +kernel
theorem dX2_considerForSymbol_93 : decode cX2_considerForSymbol 93 = .ok (.iconst 1, 1) := by decide +kernel
theorem dX2_considerForSymbol_94 : decode cX2_considerForSymbol 94 = .ok (.invokevirtual 137, 3) := by decide +kernel
theorem dX2_considerForSymbol_97 : decode cX2_considerForSymbol 97 = .ok (.return_, 1) := by decide +kernel
set_option maxRecDepth 20000 in
theorem ggX2_findDoubleSymbols_X4_get : GoodIn wsX2_findDoubleSymbols wsX4_get := goodIn_r _ [6, 7, 30] (by decide +kernel) (by decide +kernel)
set_option maxRecDepth 20000 in
theorem gX2_findDoubleSymbols_X4_get : GoodIn wsX2_findDoubleSymbols (wsV RX2 96 RX4 yX4_get wsX4_get) := goodIn_app (goodIn_of _ (by decide +kernel)) ggX2_findDoubleSymbols_X4_get
set_option maxRecDepth 20000 in
theorem ggX2_findDoubleSymbols_X2_addFault : GoodIn wsX2_findDoubleSymbols wsX2_addFault := goodIn_r _ [12, 13, 14, 15, 16, 17, 18, 5, 19, 7, 20, 21, 22, 23, 24, 25, 26, 27, 28, 29, 30] (by decide +kernel) (by decide +kernel)
set_option maxRecDepth 20000 in
theorem gX2_findDoubleSymbols_X2_addFault : GoodIn wsX2_findDoubleSymbols (wsV RX2 79 RX2 yX2_addFault wsX2_addFault) := goodIn_app (goodIn_of _ (by decide +kernel)) ggX2_findDoubleSymbols_X2_addFault
theorem dX2_findDoubleSymbols_0 : decode cX2_findDoubleSymbols 0 = .ok (.iconst 0, 1) := by decide +kernel
theorem dX2_findDoubleSymbols_1 : decode cX2_findDoubleSymbols 1 = .ok (.istore_n 1, 1) := by decide +kernel
theorem dX2_findDoubleSymbols_2 : decode cX2_findDoubleSymbols 2 = .ok (.iload_n 1, 1) := by decide +kernel
theorem dX2_findDoubleSymbols_3 : decode cX2_findDoubleSymbols 3 = .ok (.bipush 16, 2) := by decide +kernel
theorem dX2_findDoubleSymbols_5 : decode cX2_findDoubleSymbols 5 = .ok (.if_icmp .ge 27, 3) := by decide +kernel
theorem dX2_findDoubleSymbols_8 : decode cX2_findDoubleSymbols 8 = .ok (.aload_n 0, 1) := by decide +kernel
theorem dX2_findDoubleSymbols_9 : decode cX2_findDoubleSymbols 9 = .ok (.getfield 37, 3) := by decide +kernel
theorem dX2_findDoubleSymbols_12 : decode cX2_findDoubleSymbols 12 = .ok (.iload_n 1, 1) := by decide +kernel
theorem dX2_findDoubleSymbols_13 : decode cX2_findDoubleSymbols 13 = .ok (.invokevirtual 96, 3) := by decide +kernel
theorem dX2_findDoubleSymbols_16 : decode cX2_findDoubleSymbols 16 = .ok (.iconst 2, 1) := by decide +kernel
theorem dX2_findDoubleSymbols_17 : decode cX2_findDoubleSymbols 17 = .ok (.if_icmp .lt 9, 3) := by decide +kernel
theorem dX2_findDoubleSymbols_20 : decode cX2_findDoubleSymbols 20 = .ok (.aload_n 0, 1) := by decide +kernel
theorem dX2_findDoubleSymbols_21 : decode cX2_findDoubleSymbols 21 = .ok (.iconst 1, 1) := by decide +kernel
theorem dX2_findDoubleSymbols_22 : decode cX2_findDoubleSymbols 22 = .ok (.iload_n 1, 1) := by decide +kernel
theorem dX2_findDoubleSymbols_23 : decode cX2_findDoubleSymbols 23 = .ok (.invokevirtual 79, 3) := by decide +kernel
theorem dX2_findDoubleSymbols_26 : decode cX2_findDoubleSymbols 26 = .ok (.iinc 1 1, 3) := by decide +kernel
theorem dX2_findDoubleSymbols_29 : decode cX2_findDoubleSymbols 29 = .ok (.goto (-27), 3) := by decide +kernel
theorem dX2_findDoubleSymbols_32 : decode cX2_findDoubleSymbols 32 = .ok (.return_, 1) := by decide +kernel
set_option maxRecDepth 20000 in
theorem ggX2_findMissingSymbols_X4_get : GoodIn wsX2_findMissingSymbols wsX4_get := goodIn_r _ [8, 9, 38] (by decide +kernel) (by decide +kernel)
set_option maxRecDepth 20000 in
theorem gX2_findMissingSymbols_X4_get : GoodIn wsX2_findMissingSymbols (wsV RX2 96 RX4 yX4_get wsX4_get) := goodIn_app (goodIn_of _ (by decide +kernel)) ggX2_findMissingSymbols_X4_get
set_option maxRecDepth 20000 in
theorem ggX2_findMissingSymbols_X2_addFault : GoodIn wsX2_findMissingSymbols wsX2_addFault := goodIn_r _ [14, 15, 16, 17, 18, 19, 20, 7, 21, 9, 22, 23, 24, 25, 26, 27, 28, 29, 30, 31, 38] (by decide +kernel) (by decide +kernel)
set_option maxRecDepth 20000 in
theorem gX2_findMissingSymbols_X2_addFault : GoodIn wsX2_findMissingSymbols (wsV RX2 79 RX2 yX2_addFault wsX2_addFault) := goodIn_app (goodIn_of _ (by decide +kernel)) ggX2_findMissingSymbols_X2_addFault
theorem dX2_findMissingSymbols_0 : decode cX2_findMissingSymbols 0 = .ok (.iconst 0, 1) := by decide +kernel
theorem dX2_findMissingSymbols_1 : decode cX2_findMissingSymbols 1 = .ok (.istore_n 1, 1) := by decide +kernel
theorem dX2_findMissingSymbols_2 : decode cX2_findMissingSymbols 2 = .ok (.iload_n 1, 1) := by decide +kernel
theorem dX2_findMissingSymbols_3 : decode cX2_findMissingSymbols 3 = .ok (.bipush 16, 2) := by decide +kernel
theorem dX2_findMissingSymbols_5 : decode cX2_findMissingSymbols 5 = .ok (.if_icmp .ge 42, 3) := by decide +kernel
theorem dX2_findMissingSymbols_8 : decode cX2_findMissingSymbols 8 = .ok (.aload_n 0, 1) := by decide +kernel
theorem dX2_findMissingSymbols_9 : decode cX2_findMissingSymbols 9 = .ok (.getfield 46, 3) := by decide +kernel
theorem dX2_findMissingSymbols_12 : decode cX2_findMissingSymbols 12 = .ok (.iload_n 1, 1) := by decide +kernel
theorem dX2_findMissingSymbols_13 : decode cX2_findMissingSymbols 13 = .ok (.ishr, 1) := by decide +kernel
theorem dX2_findMissingSymbols_14 : decode cX2_findMissingSymbols 14 = .ok (.iconst 1, 1) := by decide +kernel
theorem dX2_findMissingSymbols_15 : decode cX2_findMissingSymbols 15 = .ok (.iand, 1) := by decide +kernel
theorem dX2_findMissingSymbols_16 : decode cX2_findMissingSymbols 16 = .ok (.iconst 1, 1) := by decide +kernel
theorem dX2_findMissingSymbols_17 : decode cX2_findMissingSymbols 17 = .ok (.if_icmp .ne 24, 3) := by decide +kernel
theorem dX2_findMissingSymbols_20 : decode cX2_findMissingSymbols 20 = .ok (.aload_n 0, 1) := by decide +kernel
theorem dX2_findMissingSymbols_21 : decode cX2_findMissingSymbols 21 = .ok (.getfield 12, 3) := by decide +kernel
theorem dX2_findMissingSymbols_24 : decode cX2_findMissingSymbols 24 = .ok (.getfield 134, 3) := by decide +kernel
theorem dX2_findMissingSymbols_27 : decode cX2_findMissingSymbols 27 = .ok (.iload_n 1, 1) := by decide +kernel
theorem dX2_findMissingSymbols_28 : decode cX2_findMissingSymbols 28 = .ok (.invokevirtual 96, 3) := by decide +kernel
theorem dX2_findMissingSymbols_31 : decode cX2_findMissingSymbols 31 = .ok (.iconst (-1), 1) := by decide +kernel
theorem dX2_findMissingSymbols_32 : decode cX2_findMissingSymbols 32 = .ok (.if_icmp .ne 9, 3) := by decide +kernel
theorem dX2_findMissingSymbols_35 : decode cX2_findMissingSymbols 35 = .ok (.aload_n 0, 1) := by decide +kernel
theorem dX2_findMissingSymbols_36 : decode cX2_findMissingSymbols 36 = .ok (.iconst 2, 1) := by decide +kernel
theorem dX2_findMissingSymbols_37 : decode cX2_findMissingSymbols 37 = .ok (.iload_n 1, 1) := by decide +kernel
theorem dX2_findMissingSymbols_38 : decode cX2_findMissingSymbols 38 = .ok (.invokevirtual 79, 3) := by decide +kernel
theorem dX2_findMissingSymbols_41 : decode cX2_findMissingSymbols 41 = .ok (.iinc 1 1, 3) := by decide +kernel
theorem dX2_findMissingSymbols_44 : decode cX2_findMissingSymbols 44 = .ok (.goto (-42), 3) := by decide +kernel
theorem dX2_findMissingSymbols_47 : decode cX2_findMissingSymbols 47 = .ok (.return_, 1) := by decide +kernel
set_option maxRecDepth 20000 in
theorem ggX2_addFault_X4_set : GoodIn wsX2_addFault wsX4_set := goodIn_r _ [8, 9, 20] (by decide +kernel) (by decide +kernel)
set_option maxRecDepth 20000 in
theorem gX2_addFault_X4_set : GoodIn wsX2_addFault (wsV RX2 110 RX4 yX4_set wsX4_set) := goodIn_app (goodIn_of _ (by decide +kernel)) ggX2_addFault_X4_set
theorem dX2_addFault_0 : decode cX2_addFault 0 = .ok (.aload_n 0, 1) := by decide +kernel
theorem dX2_addFault_1 : decode cX2_addFault 1 = .ok (.getfield 23, 3) := by decide +kernel
theorem dX2_addFault_4 : decode cX2_addFault 4 = .ok (.aload_n 0, 1) := by decide +kernel
theorem dX2_addFault_5 : decode cX2_addFault 5 = .ok (.getfield 30, 3) := by decide +kernel
theorem dX2_addFault_8 : decode cX2_addFault 8 = .ok (.iload_n 1, 1) := by decide +kernel
theorem dX2_addFault_9 : decode cX2_addFault 9 = .ok (.invokevirtual 110, 3) := by decide +kernel
theorem dX2_addFault_12 : decode cX2_addFault 12 = .ok (.aload_n 0, 1) := by decide +kernel
theorem dX2_addFault_13 : decode cX2_addFault 13 = .ok (.getfield 27, 3) := by decide +kernel
theorem dX2_addFault_16 : decode cX2_addFault 16 = .ok (.aload_n 0, 1) := by decide +kernel
theorem dX2_addFault_17 : decode cX2_addFault 17 = .ok (.getfield 30, 3) := by decide +kernel
theorem dX2_addFault_20 : decode cX2_addFault 20 = .ok (.iload_n 2, 1) := by decide +kernel
theorem dX2_addFault_21 : decode cX2_addFault 21 = .ok (.invokevirtual 110, 3) := by decide +kernel
theorem dX2_addFault_24 : decode cX2_addFault 24 = .ok (.aload_n 0, 1) := by decide +kernel
theorem dX2_addFault_25 : decode cX2_addFault 25 = .ok (.dup, 1) := by decide +kernel
theorem dX2_addFault_26 : decode cX2_addFault 26 = .ok (.getfield 30, 3) := by decide +kernel
theorem dX2_addFault_29 : decode cX2_addFault 29 = .ok (.iconst 1, 1) := by decide +kernel
theorem dX2_addFault_30 : decode cX2_addFault 30 = .ok (.iadd, 1) := by decide +kernel
theorem dX2_addFault_31 : decode cX2_addFault 31 = .ok (.putfield 30, 3) := by decide +kernel
theorem dX2_addFault_34 : decode cX2_addFault 34 = .ok (.return_, 1) := by decide +kernel
set_option maxRecDepth 20000 in
theorem ggX2_layWithIslands_X2_layAll : GoodIn wsX2_layWithIslands wsX2_layAll := goodIn_r _ [8, 9, 2, 10, 11, 12, 13, 14, 15, 16, 17, 18, 19, 20, 7, 21, 22, 23, 24, 25, 26, 27, 28, 29, 30, 31, 32, 33, 3, 1, 34, 72, 73, 74, 75, 76, 77, 78, 79, 80, 81, 82, 83, 84, 85, 86, 87, 88, 89, 90, 91, 92, 93, 94, 95, 96, 97, 98] (by decide +kernel) (by decide +kernel)
set_option maxRecDepth 20000 in
theorem gX2_layWithIslands_X2_layAll : GoodIn wsX2_layWithIslands (wsV RX2 140 RX2 yX2_layAll wsX2_layAll) := goodIn_app (goodIn_of _ (by decide +kernel)) ggX2_layWithIslands_X2_layAll
set_option maxRecDepth 20000 in
theorem ggX2_layWithIslands_X2_firstMissingIsland : GoodIn wsX2_layWithIslands wsX2_firstMissingIsland := goodIn_r _ [38, 2, 10, 22, 23, 11, 12, 13, 14, 15, 16, 17, 39, 40, 41, 7, 42, 43, 34, 44, 45, 46, 47, 48, 49, 50, 51, 52, 53, 54, 55, 56, 57, 58, 59, 60, 61, 62, 63, 64, 65, 66, 67, 68, 69, 70, 71, 72, 73, 74, 75, 76, 77, 78, 79, 80, 81, 82, 83, 84, 85, 86, 87, 89, 90, 91, 92, 93, 94, 95, 96, 97, 98, 88] (by decide +kernel) (by decide +kernel)
set_option maxRecDepth 20000 in
theorem gX2_layWithIslands_X2_firstMissingIsland : GoodIn wsX2_layWithIslands (wsV RX2 143 RX2 yX2_firstMissingIsland wsX2_firstMissingIsland) := goodIn_app (goodIn_of _ (by decide +kernel)) ggX2_layWithIslands_X2_firstMissingIsland
set_option maxRecDepth 20000 in
theorem ggX2_layWithIslands_X4_set : GoodIn wsX2_layWithIslands wsX4_set := goodIn_r _ [29, 17, 88] (by decide +kernel) (by decide +kernel)
set_option maxRecDepth 20000 in
theorem gX2_layWithIslands_X4_set : GoodIn wsX2_layWithIslands (wsV RX2 110 RX4 yX4_set wsX4_set) := goodIn_app (goodIn_of _ (by decide +kernel)) ggX2_layWithIslands_X4_set
theorem dX2_layWithIslands_0 : decode cX2_layWithIslands 0 = .ok (.aload_n 0, 1) := by decide +kernel
theorem dX2_layWithIslands_1 : decode cX2_layWithIslands 1 = .ok (.aload_n 1, 1) := by decide +kernel
theorem dX2_layWithIslands_2 : decode cX2_layWithIslands 2 = .ok (.invokevirtual 140, 3) := by decide +kernel
theorem dX2_layWithIslands_5 : decode cX2_layWithIslands 5 = .ok (.iconst 0, 1) := by decide +kernel
theorem dX2_layWithIslands_6 : decode cX2_layWithIslands 6 = .ok (.istore_n 2, 1) := by decide +kernel
theorem dX2_layWithIslands_7 : decode cX2_layWithIslands 7 = .ok (.iload_n 2, 1) := by decide +kernel
theorem dX2_layWithIslands_8 : decode cX2_layWithIslands 8 = .ok (.sipush 128, 3) := by decide +kernel
theorem dX2_layWithIslands_11 : decode cX2_layWithIslands 11 = .ok (.if_icmp .ge 54, 3) := by decide +kernel
theorem dX2_layWithIslands_14 : decode cX2_layWithIslands 14 = .ok (.aload_n 0, 1) := by decide +kernel
theorem dX2_layWithIslands_15 : decode cX2_layWithIslands 15 = .ok (.aload_n 1, 1) := by decide +kernel
theorem dX2_layWithIslands_16 : decode cX2_layWithIslands 16 = .ok (.invokevirtual 143, 3) := by decide +kernel
theorem dX2_layWithIslands_19 : decode cX2_layWithIslands 19 = .ok (.istore_n 3, 1) := by decide +kernel
theorem dX2_layWithIslands_20 : decode cX2_layWithIslands 20 = .ok (.iload_n 3, 1) := by decide +kernel
theorem dX2_layWithIslands_21 : decode cX2_layWithIslands 21 = .ok (.iconst (-1), 1) := by decide +kernel
theorem dX2_layWithIslands_22 : decode cX2_layWithIslands 22 = .ok (.if_icmp .ne 4, 3) := by decide +kernel
theorem dX2_layWithIslands_25 : decode cX2_layWithIslands 25 = .ok (.return_, 1) := by decide +kernel
theorem dX2_layWithIslands_26 : decode cX2_layWithIslands 26 = .ok (.aload_n 0, 1) := by decide +kernel
theorem dX2_layWithIslands_27 : decode cX2_layWithIslands 27 = .ok (.getfield 40, 3) := by decide +kernel
theorem dX2_layWithIslands_30 : decode cX2_layWithIslands 30 = .ok (.aload_n 0, 1) := by decide +kernel
theorem dX2_layWithIslands_31 : decode cX2_layWithIslands 31 = .ok (.getfield 12, 3) := by decide +kernel
theorem dX2_layWithIslands_34 : decode cX2_layWithIslands 34 = .ok (.getfield 147, 3) := by decide +kernel
theorem dX2_layWithIslands_37 : decode cX2_layWithIslands 37 = .ok (.iload_n 3, 1) := by decide +kernel
theorem dX2_layWithIslands_38 : decode cX2_layWithIslands 38 = .ok (.invokevirtual 110, 3) := by decide +kernel
theorem dX2_layWithIslands_41 : decode cX2_layWithIslands 41 = .ok (.aload_n 0, 1) := by decide +kernel
theorem dX2_layWithIslands_42 : decode cX2_layWithIslands 42 = .ok (.getfield 12, 3) := by decide +kernel
theorem dX2_layWithIslands_45 : decode cX2_layWithIslands 45 = .ok (.dup, 1) := by decide +kernel
theorem dX2_layWithIslands_46 : decode cX2_layWithIslands 46 = .ok (.getfield 147, 3) := by decide +kernel
theorem dX2_layWithIslands_49 : decode cX2_layWithIslands 49 = .ok (.iconst 1, 1) := by decide +kernel
theorem dX2_layWithIslands_50 : decode cX2_layWithIslands 50 = .ok (.iadd, 1) := by decide +kernel
theorem dX2_layWithIslands_51 : decode cX2_layWithIslands 51 = .ok (.putfield 147, 3) := by decide +kernel
theorem dX2_layWithIslands_54 : decode cX2_layWithIslands 54 = .ok (.aload_n 0, 1) := by decide +kernel
theorem dX2_layWithIslands_55 : decode cX2_layWithIslands 55 = .ok (.aload_n 1, 1) := by decide +kernel
theorem dX2_layWithIslands_56 : decode cX2_layWithIslands 56 = .ok (.invokevirtual 140, 3) := by decide +kernel
theorem dX2_layWithIslands_59 : decode cX2_layWithIslands 59 = .ok (.iinc 2 1, 3) := by decide +kernel
theorem dX2_layWithIslands_62 : decode cX2_layWithIslands 62 = .ok (.goto (-55), 3) := by decide +kernel
theorem dX2_layWithIslands_65 : decode cX2_layWithIslands 65 = .ok (.return_, 1) := by decide +kernel
set_option maxRecDepth 20000 in
theorem ggX2_layAll_X4_get : GoodIn wsX2_layAll wsX4_get := goodIn_r _ [9, 10, 47] (by decide +kernel) (by decide +kernel)
set_option maxRecDepth 20000 in
theorem gX2_layAll_X4_get : GoodIn wsX2_layAll (wsV RX2 96 RX4 yX4_get wsX4_get) := goodIn_app (goodIn_of _ (by decide +kernel)) ggX2_layAll_X4_get
set_option maxRecDepth 20000 in
theorem ggX2_layAll_X2_layPieces : GoodIn wsX2_layAll wsX2_layPieces := goodIn_r _ [15, 16, 17, 2, 18, 1, 19, 5, 6, 7, 8, 9, 10, 20, 21, 22, 23, 48, 49, 50, 51, 52, 53, 54, 55, 56, 57, 31, 32, 33, 34, 35, 36, 37, 38, 39, 40, 41, 42, 43, 44, 45, 46, 47] (by decide +kernel) (by decide +kernel)
set_option maxRecDepth 20000 in
theorem gX2_layAll_X2_layPieces : GoodIn wsX2_layAll (wsV RX2 150 RX2 yX2_layPieces wsX2_layPieces) := goodIn_app (goodIn_of _ (by decide +kernel)) ggX2_layAll_X2_layPieces
set_option maxRecDepth 20000 in
theorem ggX2_layAll_X2_layIslands : GoodIn wsX2_layAll wsX2_layIslands := goodIn_r _ [27, 2, 28, 29, 30, 1, 5, 6, 7, 8, 9, 10, 20, 21, 22, 23, 31, 32, 33, 34, 35, 36, 37, 38, 39, 40, 41, 42, 43, 44, 45, 46, 47] (by decide +kernel) (by decide +kernel)
set_option maxRecDepth 20000 in
theorem gX2_layAll_X2_layIslands : GoodIn wsX2_layAll (wsV RX2 153 RX2 yX2_layIslands wsX2_layIslands) := goodIn_app (goodIn_of _ (by decide +kernel)) ggX2_layAll_X2_layIslands
theorem dX2_layAll_0 : decode cX2_layAll 0 = .ok (.aload_n 0, 1) := by decide +kernel
theorem dX2_layAll_1 : decode cX2_layAll 1 = .ok (.iconst 0, 1) := by decide +kernel
theorem dX2_layAll_2 : decode cX2_layAll 2 = .ok (.putfield 49, 3) := by decide +kernel
theorem dX2_layAll_5 : decode cX2_layAll 5 = .ok (.iconst 0, 1) := by decide +kernel
theorem dX2_layAll_6 : decode cX2_layAll 6 = .ok (.istore_n 2, 1) := by decide +kernel
theorem dX2_layAll_7 : decode cX2_layAll 7 = .ok (.iload_n 2, 1) := by decide +kernel
theorem dX2_layAll_8 : decode cX2_layAll 8 = .ok (.aload_n 0, 1) := by decide +kernel
theorem dX2_layAll_9 : decode cX2_layAll 9 = .ok (.getfield 12, 3) := by decide +kernel
theorem dX2_layAll_12 : decode cX2_layAll 12 = .ok (.getfield 107, 3) := by decide +kernel
theorem dX2_layAll_15 : decode cX2_layAll 15 = .ok (.if_icmp .ge 34, 3) := by decide +kernel
theorem dX2_layAll_18 : decode cX2_layAll 18 = .ok (.aload_n 0, 1) := by decide +kernel
theorem dX2_layAll_19 : decode cX2_layAll 19 = .ok (.aload_n 1, 1) := by decide +kernel
theorem dX2_layAll_20 : decode cX2_layAll 20 = .ok (.aload_n 0, 1) := by decide +kernel
theorem dX2_layAll_21 : decode cX2_layAll 21 = .ok (.getfield 34, 3) := by decide +kernel
theorem dX2_layAll_24 : decode cX2_layAll 24 = .ok (.iload_n 2, 1) := by decide +kernel
theorem dX2_layAll_25 : decode cX2_layAll 25 = .ok (.invokevirtual 96, 3) := by decide +kernel
theorem dX2_layAll_28 : decode cX2_layAll 28 = .ok (.invokevirtual 150, 3) := by decide +kernel
theorem dX2_layAll_31 : decode cX2_layAll 31 = .ok (.aload_n 0, 1) := by decide +kernel
theorem dX2_layAll_32 : decode cX2_layAll 32 = .ok (.aload_n 0, 1) := by decide +kernel
theorem dX2_layAll_33 : decode cX2_layAll 33 = .ok (.getfield 34, 3) := by decide +kernel
theorem dX2_layAll_36 : decode cX2_layAll 36 = .ok (.iload_n 2, 1) := by decide +kernel
theorem dX2_layAll_37 : decode cX2_layAll 37 = .ok (.invokevirtual 96, 3) := by decide +kernel
theorem dX2_layAll_40 : decode cX2_layAll 40 = .ok (.invokevirtual 153, 3) := by decide +kernel
theorem dX2_layAll_43 : decode cX2_layAll 43 = .ok (.iinc 2 1, 3) := by decide +kernel
theorem dX2_layAll_46 : decode cX2_layAll 46 = .ok (.goto (-39), 3) := by decide +kernel
theorem dX2_layAll_49 : decode cX2_layAll 49 = .ok (.return_, 1) := by decide +kernel
set_option maxRecDepth 20000 in
theorem ggX2_layPieces_X4_get : GoodIn wsX2_layPieces wsX4_get := goodIn_r _ [11, 12, 43] (by decide +kernel) (by decide +kernel)
set_option maxRecDepth 20000 in
theorem gX2_layPieces_X4_get : GoodIn wsX2_layPieces (wsV RX2 96 RX4 yX4_get wsX4_get) := goodIn_app (goodIn_of _ (by decide +kernel)) ggX2_layPieces_X4_get
set_option maxRecDepth 20000 in
theorem ggX2_layPieces_X4_set : GoodIn wsX2_layPieces wsX4_set := goodIn_r _ [16, 12, 43] (by decide +kernel) (by decide +kernel)
set_option maxRecDepth 20000 in
theorem gX2_layPieces_X4_set : GoodIn wsX2_layPieces (wsV RX2 110 RX4 yX4_set wsX4_set) := goodIn_app (goodIn_of _ (by decide +kernel)) ggX2_layPieces_X4_set
theorem dX2_layPieces_0 : decode cX2_layPieces 0 = .ok (.iconst 0, 1) := by decide +kernel
theorem dX2_layPieces_1 : decode cX2_layPieces 1 = .ok (.istore_n 3, 1) := by decide +kernel
theorem dX2_layPieces_2 : decode cX2_layPieces 2 = .ok (.iload_n 3, 1) := by decide +kernel
theorem dX2_layPieces_3 : decode cX2_layPieces 3 = .ok (.aload_n 1, 1) := by decide +kernel
theorem dX2_layPieces_4 : decode cX2_layPieces 4 = .ok (.getfield 119, 3) := by decide +kernel
theorem dX2_layPieces_7 : decode cX2_layPieces 7 = .ok (.if_icmp .ge 53, 3) := by decide +kernel
theorem dX2_layPieces_10 : decode cX2_layPieces 10 = .ok (.aload_n 1, 1) := by decide +kernel
theorem dX2_layPieces_11 : decode cX2_layPieces 11 = .ok (.getfield 122, 3) := by decide +kernel
theorem dX2_layPieces_14 : decode cX2_layPieces 14 = .ok (.iload_n 3, 1) := by decide +kernel
theorem dX2_layPieces_15 : decode cX2_layPieces 15 = .ok (.invokevirtual 96, 3) := by decide +kernel
theorem dX2_layPieces_18 : decode cX2_layPieces 18 = .ok (.iload_n 2, 1) := by decide +kernel
theorem dX2_layPieces_19 : decode cX2_layPieces 19 = .ok (.if_icmp .ne 35, 3) := by decide +kernel
theorem dX2_layPieces_22 : decode cX2_layPieces 22 = .ok (.aload_n 0, 1) := by decide +kernel
theorem dX2_layPieces_23 : decode cX2_layPieces 23 = .ok (.getfield 12, 3) := by decide +kernel
theorem dX2_layPieces_26 : decode cX2_layPieces 26 = .ok (.getfield 156, 3) := by decide +kernel
theorem dX2_layPieces_29 : decode cX2_layPieces 29 = .ok (.iload_n 3, 1) := by decide +kernel
theorem dX2_layPieces_30 : decode cX2_layPieces 30 = .ok (.aload_n 0, 1) := by decide +kernel
theorem dX2_layPieces_31 : decode cX2_layPieces 31 = .ok (.getfield 49, 3) := by decide +kernel
theorem dX2_layPieces_34 : decode cX2_layPieces 34 = .ok (.invokevirtual 110, 3) := by decide +kernel
theorem dX2_layPieces_37 : decode cX2_layPieces 37 = .ok (.aload_n 0, 1) := by decide +kernel
theorem dX2_layPieces_38 : decode cX2_layPieces 38 = .ok (.dup, 1) := by decide +kernel
theorem dX2_layPieces_39 : decode cX2_layPieces 39 = .ok (.getfield 49, 3) := by decide +kernel
theorem dX2_layPieces_42 : decode cX2_layPieces 42 = .ok (.aload_n 1, 1) := by decide +kernel
theorem dX2_layPieces_43 : decode cX2_layPieces 43 = .ok (.getfield 159, 3) := by decide +kernel
theorem dX2_layPieces_46 : decode cX2_layPieces 46 = .ok (.iload_n 3, 1) := by decide +kernel
theorem dX2_layPieces_47 : decode cX2_layPieces 47 = .ok (.invokevirtual 96, 3) := by decide +kernel
theorem dX2_layPieces_50 : decode cX2_layPieces 50 = .ok (.iadd, 1) := by decide +kernel
theorem dX2_layPieces_51 : decode cX2_layPieces 51 = .ok (.putfield 49, 3) := by decide +kernel
theorem dX2_layPieces_54 : decode cX2_layPieces 54 = .ok (.iinc 3 1, 3) := by decide +kernel
theorem dX2_layPieces_57 : decode cX2_layPieces 57 = .ok (.goto (-55), 3) := by decide +kernel
theorem dX2_layPieces_60 : decode cX2_layPieces 60 = .ok (.return_, 1) := by decide +kernel
set_option maxRecDepth 20000 in
theorem ggX2_layIslands_X4_get : GoodIn wsX2_layIslands wsX4_get := goodIn_r _ [10, 11, 32] (by decide +kernel) (by decide +kernel)
set_option maxRecDepth 20000 in
theorem gX2_layIslands_X4_get : GoodIn wsX2_layIslands (wsV RX2 96 RX4 yX4_get wsX4_get) := goodIn_app (goodIn_of _ (by decide +kernel)) ggX2_layIslands_X4_get
set_option maxRecDepth 20000 in
theorem ggX2_layIslands_X4_set : GoodIn wsX2_layIslands wsX4_set := goodIn_r _ [15, 11, 32] (by decide +kernel) (by decide +kernel)
set_option maxRecDepth 20000 in
theorem gX2_layIslands_X4_set : GoodIn wsX2_layIslands (wsV RX2 110 RX4 yX4_set wsX4_set) := goodIn_app (goodIn_of _ (by decide +kernel)) ggX2_layIslands_X4_set
theorem dX2_layIslands_0 : decode cX2_layIslands 0 = .ok (.iconst 0, 1) := by decide +kernel
theorem dX2_layIslands_1 : decode cX2_layIslands 1 = .ok (.istore_n 2, 1) := by decide +kernel
theorem dX2_layIslands_2 : decode cX2_layIslands 2 = .ok (.iload_n 2, 1) := by decide +kernel
theorem dX2_layIslands_3 : decode cX2_layIslands 3 = .ok (.aload_n 0, 1) := by decide +kernel
theorem dX2_layIslands_4 : decode cX2_layIslands 4 = .ok (.getfield 12, 3) := by decide +kernel
theorem dX2_layIslands_7 : decode cX2_layIslands 7 = .ok (.getfield 147, 3) := by decide +kernel
theorem dX2_layIslands_10 : decode cX2_layIslands 10 = .ok (.if_icmp .ge 51, 3) := by decide +kernel
theorem dX2_layIslands_13 : decode cX2_layIslands 13 = .ok (.aload_n 0, 1) := by decide +kernel
theorem dX2_layIslands_14 : decode cX2_layIslands 14 = .ok (.getfield 40, 3) := by decide +kernel
theorem dX2_layIslands_17 : decode cX2_layIslands 17 = .ok (.iload_n 2, 1) := by decide +kernel
theorem dX2_layIslands_18 : decode cX2_layIslands 18 = .ok (.invokevirtual 96, 3) := by decide +kernel
theorem dX2_layIslands_21 : decode cX2_layIslands 21 = .ok (.istore_n 3, 1) := by decide +kernel
theorem dX2_layIslands_22 : decode cX2_layIslands 22 = .ok (.iload_n 3, 1) := by decide +kernel
theorem dX2_layIslands_23 : decode cX2_layIslands 23 = .ok (.bipush 16, 2) := by decide +kernel
theorem dX2_layIslands_25 : decode cX2_layIslands 25 = .ok (.idiv, 1) := by decide +kernel
theorem dX2_layIslands_26 : decode cX2_layIslands 26 = .ok (.iload_n 1, 1) := by decide +kernel
theorem dX2_layIslands_27 : decode cX2_layIslands 27 = .ok (.if_icmp .ne 28, 3) := by decide +kernel
theorem dX2_layIslands_30 : decode cX2_layIslands 30 = .ok (.aload_n 0, 1) := by decide +kernel
theorem dX2_layIslands_31 : decode cX2_layIslands 31 = .ok (.getfield 12, 3) := by decide +kernel
theorem dX2_layIslands_34 : decode cX2_layIslands 34 = .ok (.getfield 162, 3) := by decide +kernel
theorem dX2_layIslands_37 : decode cX2_layIslands 37 = .ok (.iload_n 3, 1) := by decide +kernel
theorem dX2_layIslands_38 : decode cX2_layIslands 38 = .ok (.aload_n 0, 1) := by decide +kernel
theorem dX2_layIslands_39 : decode cX2_layIslands 39 = .ok (.getfield 49, 3) := by decide +kernel
theorem dX2_layIslands_42 : decode cX2_layIslands 42 = .ok (.invokevirtual 110, 3) := by decide +kernel
theorem dX2_layIslands_45 : decode cX2_layIslands 45 = .ok (.aload_n 0, 1) := by decide +kernel
theorem dX2_layIslands_46 : decode cX2_layIslands 46 = .ok (.dup, 1) := by decide +kernel
theorem dX2_layIslands_47 : decode cX2_layIslands 47 = .ok (.getfield 49, 3) := by decide +kernel
theorem dX2_layIslands_50 : decode cX2_layIslands 50 = .ok (.iconst 1, 1) := by decide +kernel
theorem dX2_layIslands_51 : decode cX2_layIslands 51 = .ok (.iadd, 1) := by decide +kernel
theorem dX2_layIslands_52 : decode cX2_layIslands 52 = .ok (.putfield 49, 3) := by decide +kernel
theorem dX2_layIslands_55 : decode cX2_layIslands 55 = .ok (.iinc 2 1, 3) := by decide +kernel
theorem dX2_layIslands_58 : decode cX2_layIslands 58 = .ok (.goto (-56), 3) := by decide +kernel
theorem dX2_layIslands_61 : decode cX2_layIslands 61 = .ok (.return_, 1) := by decide +kernel
set_option maxRecDepth 20000 in
theorem ggX2_firstMissingIsland_X4_get : GoodIn wsX2_firstMissingIsland wsX4_get := goodIn_r _ [10, 11, 73] (by decide +kernel) (by decide +kernel)
set_option maxRecDepth 20000 in
theorem gX2_firstMissingIsland_X4_get : GoodIn wsX2_firstMissingIsland (wsV RX2 96 RX4 yX4_get wsX4_get) := goodIn_app (goodIn_of _ (by decide +kernel)) ggX2_firstMissingIsland_X4_get
set_option maxRecDepth 20000 in
theorem ggX2_firstMissingIsland_X2_missingIslandOf : GoodIn wsX2_firstMissingIsland wsX2_missingIslandOf := goodIn_r _ [16, 17, 4, 1, 18, 6, 7, 8, 9, 10, 11, 19, 20, 21, 22, 23, 24, 25, 26, 27, 28, 29, 30, 31, 32, 33, 34, 35, 36, 37, 38, 39, 40, 41, 42, 43, 44, 45, 46, 63, 64, 65, 66, 67, 68, 69, 70, 71, 72, 47, 48, 49, 50, 51, 52, 53, 54, 55, 56, 57, 58, 59, 60, 61, 62, 73] (by decide +kernel) (by decide +kernel)
set_option maxRecDepth 20000 in
theorem gX2_firstMissingIsland_X2_missingIslandOf : GoodIn wsX2_firstMissingIsland (wsV RX2 165 RX2 yX2_missingIslandOf wsX2_missingIslandOf) := goodIn_app (goodIn_of _ (by decide +kernel)) ggX2_firstMissingIsland_X2_missingIslandOf
theorem dX2_firstMissingIsland_0 : decode cX2_firstMissingIsland 0 = .ok (.iconst 0, 1) := by decide +kernel
theorem dX2_firstMissingIsland_1 : decode cX2_firstMissingIsland 1 = .ok (.istore_n 2, 1) := by decide +kernel
theorem dX2_firstMissingIsland_2 : decode cX2_firstMissingIsland 2 = .ok (.iload_n 2, 1) := by decide +kernel
theorem dX2_firstMissingIsland_3 : decode cX2_firstMissingIsland 3 = .ok (.aload_n 0, 1) := by decide +kernel
theorem dX2_firstMissingIsland_4 : decode cX2_firstMissingIsland 4 = .ok (.getfield 12, 3) := by decide +kernel
theorem dX2_firstMissingIsland_7 : decode cX2_firstMissingIsland 7 = .ok (.getfield 107, 3) := by decide +kernel
theorem dX2_firstMissingIsland_10 : decode cX2_firstMissingIsland 10 = .ok (.if_icmp .ge 65, 3) := by decide +kernel
theorem dX2_firstMissingIsland_13 : decode cX2_firstMissingIsland 13 = .ok (.iconst 0, 1) := by decide +kernel
theorem dX2_firstMissingIsland_14 : decode cX2_firstMissingIsland 14 = .ok (.istore_n 3, 1) := by decide +kernel
theorem dX2_firstMissingIsland_15 : decode cX2_firstMissingIsland 15 = .ok (.iload_n 3, 1) := by decide +kernel
theorem dX2_firstMissingIsland_16 : decode cX2_firstMissingIsland 16 = .ok (.aload_n 1, 1) := by decide +kernel
theorem dX2_firstMissingIsland_17 : decode cX2_firstMissingIsland 17 = .ok (.getfield 119, 3) := by decide +kernel
theorem dX2_firstMissingIsland_20 : decode cX2_firstMissingIsland 20 = .ok (.if_icmp .ge 49, 3) := by decide +kernel
theorem dX2_firstMissingIsland_23 : decode cX2_firstMissingIsland 23 = .ok (.aload_n 1, 1) := by decide +kernel
theorem dX2_firstMissingIsland_24 : decode cX2_firstMissingIsland 24 = .ok (.getfield 122, 3) := by decide +kernel
theorem dX2_firstMissingIsland_27 : decode cX2_firstMissingIsland 27 = .ok (.iload_n 3, 1) := by decide +kernel
theorem dX2_firstMissingIsland_28 : decode cX2_firstMissingIsland 28 = .ok (.invokevirtual 96, 3) := by decide +kernel
theorem dX2_firstMissingIsland_31 : decode cX2_firstMissingIsland 31 = .ok (.aload_n 0, 1) := by decide +kernel
theorem dX2_firstMissingIsland_32 : decode cX2_firstMissingIsland 32 = .ok (.getfield 34, 3) := by decide +kernel
theorem dX2_firstMissingIsland_35 : decode cX2_firstMissingIsland 35 = .ok (.iload_n 2, 1) := by decide +kernel
theorem dX2_firstMissingIsland_36 : decode cX2_firstMissingIsland 36 = .ok (.invokevirtual 96, 3) := by decide +kernel
theorem dX2_firstMissingIsland_39 : decode cX2_firstMissingIsland 39 = .ok (.if_icmp .ne 12, 3) := by decide +kernel
theorem dX2_firstMissingIsland_42 : decode cX2_firstMissingIsland 42 = .ok (.aload_n 0, 1) := by decide +kernel
theorem dX2_firstMissingIsland_43 : decode cX2_firstMissingIsland 43 = .ok (.aload_n 1, 1) := by decide +kernel
theorem dX2_firstMissingIsland_44 : decode cX2_firstMissingIsland 44 = .ok (.iload_n 3, 1) := by decide +kernel
theorem dX2_firstMissingIsland_45 : decode cX2_firstMissingIsland 45 = .ok (.invokevirtual 165, 3) := by decide +kernel
theorem dX2_firstMissingIsland_48 : decode cX2_firstMissingIsland 48 = .ok (.goto 4, 3) := by decide +kernel
theorem dX2_firstMissingIsland_51 : decode cX2_firstMissingIsland 51 = .ok (.iconst (-1), 1) := by decide +kernel
theorem dX2_firstMissingIsland_52 : decode cX2_firstMissingIsland 52 = .ok (.istore 4, 2) := by decide +kernel
theorem dX2_firstMissingIsland_54 : decode cX2_firstMissingIsland 54 = .ok (.iload 4, 2) := by decide +kernel
theorem dX2_firstMissingIsland_56 : decode cX2_firstMissingIsland 56 = .ok (.iconst (-1), 1) := by decide +kernel
theorem dX2_firstMissingIsland_57 : decode cX2_firstMissingIsland 57 = .ok (.if_icmp .eq 6, 3) := by decide +kernel
theorem dX2_firstMissingIsland_60 : decode cX2_firstMissingIsland 60 = .ok (.iload 4, 2) := by decide +kernel
theorem dX2_firstMissingIsland_62 : decode cX2_firstMissingIsland 62 = .ok (.ireturn, 1) := by decide +kernel
theorem dX2_firstMissingIsland_63 : decode cX2_firstMissingIsland 63 = .ok (.iinc 3 1, 3) := by decide +kernel
theorem dX2_firstMissingIsland_66 : decode cX2_firstMissingIsland 66 = .ok (.goto (-51), 3) := by decide +kernel
theorem dX2_firstMissingIsland_69 : decode cX2_firstMissingIsland 69 = .ok (.iinc 2 1, 3) := by decide +kernel
theorem dX2_firstMissingIsland_72 : decode cX2_firstMissingIsland 72 = .ok (.goto (-70), 3) := by decide +kernel
theorem dX2_firstMissingIsland_75 : decode cX2_firstMissingIsland 75 = .ok (.iconst (-1), 1) := by decide +kernel
theorem dX2_firstMissingIsland_76 : decode cX2_firstMissingIsland 76 = .ok (.ireturn, 1) := by decide +kernel
set_option maxRecDepth 20000 in
theorem ggX2_missingIslandOf_X4_get : GoodIn wsX2_missingIslandOf wsX4_get := goodIn_r _ [9, 10, 65] (by decide +kernel) (by decide +kernel)
set_option maxRecDepth 20000 in
theorem gX2_missingIslandOf_X4_get : GoodIn wsX2_missingIslandOf (wsV RX2 96 RX4 yX4_get wsX4_get) := goodIn_app (goodIn_of _ (by decide +kernel)) ggX2_missingIslandOf_X4_get
set_option maxRecDepth 20000 in
theorem ggX2_missingIslandOf_X6_target : GoodIn wsX2_missingIslandOf wsX6_target := goodIn_r _ [15, 16, 17, 6, 7, 8, 9, 10, 39, 40, 41, 42, 43, 44, 45, 46, 47, 48, 65] (by decide +kernel) (by decide +kernel)
set_option maxRecDepth 20000 in
theorem gX2_missingIslandOf_X6_target : GoodIn wsX2_missingIslandOf (wsV RX2 171 RX6 yX6_target wsX6_target) := goodIn_app (goodIn_of _ (by decide +kernel)) ggX2_missingIslandOf_X6_target
set_option maxRecDepth 20000 in
theorem ggX2_missingIslandOf_X1_islandKey : GoodIn wsX2_missingIslandOf wsX1_islandKey := goodIn_r _ [21] (by decide +kernel) (by decide +kernel)
set_option maxRecDepth 20000 in
theorem gX2_missingIslandOf_X1_islandKey : GoodIn wsX2_missingIslandOf (va_wsS RX2 175 yX1_islandKey wsX1_islandKey) := goodIn_app (goodIn_of _ (by decide +kernel)) ggX2_missingIslandOf_X1_islandKey
set_option maxRecDepth 20000 in
theorem ggX2_missingIslandOf_X6_isNear : GoodIn wsX2_missingIslandOf wsX6_isNear := goodIn_r _ [25, 26, 17, 6, 7, 8, 9, 10, 39, 40, 41, 42, 43, 44, 45, 46, 47, 48, 65] (by decide +kernel) (by decide +kernel)
set_option maxRecDepth 20000 in
theorem gX2_missingIslandOf_X6_isNear : GoodIn wsX2_missingIslandOf (wsV RX2 178 RX6 yX6_isNear wsX6_isNear) := goodIn_app (goodIn_of _ (by decide +kernel)) ggX2_missingIslandOf_X6_isNear
set_option maxRecDepth 20000 in
theorem ggX2_missingIslandOf_X1_reachesSymbol : GoodIn wsX2_missingIslandOf wsX1_reachesSymbol := goodIn_r _ [30, 31, 32, 33, 6, 7, 8, 9, 10, 34, 35, 36, 20, 37, 38, 59, 60, 61, 62, 63, 64, 65] (by decide +kernel) (by decide +kernel)
set_option maxRecDepth 20000 in
theorem gX2_missingIslandOf_X1_reachesSymbol : GoodIn wsX2_missingIslandOf (wsV RX2 182 RX1 yX1_reachesSymbol wsX1_reachesSymbol) := goodIn_app (goodIn_of _ (by decide +kernel)) ggX2_missingIslandOf_X1_reachesSymbol
theorem dX2_missingIslandOf_0 : decode cX2_missingIslandOf 0 = .ok (.iconst 0, 1) := by decide +kernel
theorem dX2_missingIslandOf_1 : decode cX2_missingIslandOf 1 = .ok (.istore_n 3, 1) := by decide +kernel
theorem dX2_missingIslandOf_2 : decode cX2_missingIslandOf 2 = .ok (.iload_n 3, 1) := by decide +kernel
theorem dX2_missingIslandOf_3 : decode cX2_missingIslandOf 3 = .ok (.aload_n 1, 1) := by decide +kernel
theorem dX2_missingIslandOf_4 : decode cX2_missingIslandOf 4 = .ok (.getfield 168, 3) := by decide +kernel
theorem dX2_missingIslandOf_7 : decode cX2_missingIslandOf 7 = .ok (.iload_n 2, 1) := by decide +kernel
theorem dX2_missingIslandOf_8 : decode cX2_missingIslandOf 8 = .ok (.invokevirtual 96, 3) := by decide +kernel
theorem dX2_missingIslandOf_11 : decode cX2_missingIslandOf 11 = .ok (.if_icmp .ge 73, 3) := by decide +kernel
theorem dX2_missingIslandOf_14 : decode cX2_missingIslandOf 14 = .ok (.aload_n 1, 1) := by decide +kernel
theorem dX2_missingIslandOf_15 : decode cX2_missingIslandOf 15 = .ok (.iload_n 2, 1) := by decide +kernel
theorem dX2_missingIslandOf_16 : decode cX2_missingIslandOf 16 = .ok (.iload_n 3, 1) := by decide +kernel
theorem dX2_missingIslandOf_17 : decode cX2_missingIslandOf 17 = .ok (.invokevirtual 171, 3) := by decide +kernel
theorem dX2_missingIslandOf_20 : decode cX2_missingIslandOf 20 = .ok (.istore 4, 2) := by decide +kernel
theorem dX2_missingIslandOf_22 : decode cX2_missingIslandOf 22 = .ok (.aload_n 1, 1) := by decide +kernel
theorem dX2_missingIslandOf_23 : decode cX2_missingIslandOf 23 = .ok (.getfield 122, 3) := by decide +kernel
theorem dX2_missingIslandOf_26 : decode cX2_missingIslandOf 26 = .ok (.iload_n 2, 1) := by decide +kernel
theorem dX2_missingIslandOf_27 : decode cX2_missingIslandOf 27 = .ok (.invokevirtual 96, 3) := by decide +kernel
theorem dX2_missingIslandOf_30 : decode cX2_missingIslandOf 30 = .ok (.iload 4, 2) := by decide +kernel
theorem dX2_missingIslandOf_32 : decode cX2_missingIslandOf 32 = .ok (.invokestatic 175, 3) := by decide +kernel
theorem dX2_missingIslandOf_35 : decode cX2_missingIslandOf 35 = .ok (.istore 5, 2) := by decide +kernel
theorem dX2_missingIslandOf_37 : decode cX2_missingIslandOf 37 = .ok (.aload_n 1, 1) := by decide +kernel
theorem dX2_missingIslandOf_38 : decode cX2_missingIslandOf 38 = .ok (.iload_n 2, 1) := by decide +kernel
theorem dX2_missingIslandOf_39 : decode cX2_missingIslandOf 39 = .ok (.iload_n 3, 1) := by decide +kernel
theorem dX2_missingIslandOf_40 : decode cX2_missingIslandOf 40 = .ok (.invokevirtual 178, 3) := by decide +kernel
theorem dX2_missingIslandOf_43 : decode cX2_missingIslandOf 43 = .ok (.ifCond .eq 35, 3) := by decide +kernel
theorem dX2_missingIslandOf_46 : decode cX2_missingIslandOf 46 = .ok (.aload_n 0, 1) := by decide +kernel
theorem dX2_missingIslandOf_47 : decode cX2_missingIslandOf 47 = .ok (.getfield 12, 3) := by decide +kernel
theorem dX2_missingIslandOf_50 : decode cX2_missingIslandOf 50 = .ok (.iload_n 2, 1) := by decide +kernel
theorem dX2_missingIslandOf_51 : decode cX2_missingIslandOf 51 = .ok (.iload 4, 2) := by decide +kernel
theorem dX2_missingIslandOf_53 : decode cX2_missingIslandOf 53 = .ok (.invokevirtual 182, 3) := by decide +kernel
theorem dX2_missingIslandOf_56 : decode cX2_missingIslandOf 56 = .ok (.ifCond .ne 22, 3) := by decide +kernel
theorem dX2_missingIslandOf_59 : decode cX2_missingIslandOf 59 = .ok (.aload_n 0, 1) := by decide +kernel
theorem dX2_missingIslandOf_60 : decode cX2_missingIslandOf 60 = .ok (.getfield 12, 3) := by decide +kernel
theorem dX2_missingIslandOf_63 : decode cX2_missingIslandOf 63 = .ok (.getfield 162, 3) := by decide +kernel
theorem dX2_missingIslandOf_66 : decode cX2_missingIslandOf 66 = .ok (.iload 5, 2) := by decide +kernel
theorem dX2_missingIslandOf_68 : decode cX2_missingIslandOf 68 = .ok (.invokevirtual 96, 3) := by decide +kernel
theorem dX2_missingIslandOf_71 : decode cX2_missingIslandOf 71 = .ok (.iconst (-1), 1) := by decide +kernel
theorem dX2_missingIslandOf_72 : decode cX2_missingIslandOf 72 = .ok (.if_icmp .ne 6, 3) := by decide +kernel
theorem dX2_missingIslandOf_75 : decode cX2_missingIslandOf 75 = .ok (.iload 5, 2) := by decide +kernel
theorem dX2_missingIslandOf_77 : decode cX2_missingIslandOf 77 = .ok (.ireturn, 1) := by decide +kernel
theorem dX2_missingIslandOf_78 : decode cX2_missingIslandOf 78 = .ok (.iinc 3 1, 3) := by decide +kernel
theorem dX2_missingIslandOf_81 : decode cX2_missingIslandOf 81 = .ok (.goto (-79), 3) := by decide +kernel
theorem dX2_missingIslandOf_84 : decode cX2_missingIslandOf 84 = .ok (.iconst (-1), 1) := by decide +kernel
theorem dX2_missingIslandOf_85 : decode cX2_missingIslandOf 85 = .ok (.ireturn, 1) := by decide +kernel
set_option maxRecDepth 20000 in
theorem ggX2_findOutOfReach_X1_losesSymbol : GoodIn wsX2_findOutOfReach wsX1_losesSymbol := goodIn_r _ [6, 7, 8, 9, 10, 11, 12, 5, 13, 14, 15, 16, 17, 18, 19, 20, 21, 22, 23, 24, 25, 26, 27, 28, 29, 30, 31, 32, 33, 34, 35, 36, 37, 38, 39, 40, 41, 42, 43, 44, 45, 46, 47, 48, 49, 50, 73, 74, 75, 76, 77, 78, 79, 80, 81, 82, 83, 84, 85, 86, 87, 88, 89] (by decide +kernel) (by decide +kernel)
set_option maxRecDepth 20000 in
theorem gX2_findOutOfReach_X1_losesSymbol : GoodIn wsX2_findOutOfReach (wsV RX2 185 RX1 yX1_losesSymbol wsX1_losesSymbol) := goodIn_app (goodIn_of _ (by decide +kernel)) ggX2_findOutOfReach_X1_losesSymbol
set_option maxRecDepth 20000 in
theorem ggX2_findOutOfReach_X2_addFault : GoodIn wsX2_findOutOfReach wsX2_addFault := goodIn_r _ [55, 56, 57, 58, 59, 60, 61, 18, 62, 20, 63, 64, 65, 66, 67, 68, 69, 70, 71, 72, 89] (by decide +kernel) (by decide +kernel)
set_option maxRecDepth 20000 in
theorem gX2_findOutOfReach_X2_addFault : GoodIn wsX2_findOutOfReach (wsV RX2 79 RX2 yX2_addFault wsX2_addFault) := goodIn_app (goodIn_of _ (by decide +kernel)) ggX2_findOutOfReach_X2_addFault
theorem dX2_findOutOfReach_0 : decode cX2_findOutOfReach 0 = .ok (.iconst 0, 1) := by decide +kernel
theorem dX2_findOutOfReach_1 : decode cX2_findOutOfReach 1 = .ok (.istore_n 2, 1) := by decide +kernel
theorem dX2_findOutOfReach_2 : decode cX2_findOutOfReach 2 = .ok (.iload_n 2, 1) := by decide +kernel
theorem dX2_findOutOfReach_3 : decode cX2_findOutOfReach 3 = .ok (.bipush 16, 2) := by decide +kernel
theorem dX2_findOutOfReach_5 : decode cX2_findOutOfReach 5 = .ok (.if_icmp .ge 27, 3) := by decide +kernel
theorem dX2_findOutOfReach_8 : decode cX2_findOutOfReach 8 = .ok (.aload_n 0, 1) := by decide +kernel
theorem dX2_findOutOfReach_9 : decode cX2_findOutOfReach 9 = .ok (.getfield 12, 3) := by decide +kernel
theorem dX2_findOutOfReach_12 : decode cX2_findOutOfReach 12 = .ok (.aload_n 1, 1) := by decide +kernel
theorem dX2_findOutOfReach_13 : decode cX2_findOutOfReach 13 = .ok (.iload_n 2, 1) := by decide +kernel
theorem dX2_findOutOfReach_14 : decode cX2_findOutOfReach 14 = .ok (.invokevirtual 185, 3) := by decide +kernel
theorem dX2_findOutOfReach_17 : decode cX2_findOutOfReach 17 = .ok (.ifCond .eq 9, 3) := by decide +kernel
theorem dX2_findOutOfReach_20 : decode cX2_findOutOfReach 20 = .ok (.aload_n 0, 1) := by decide +kernel
theorem dX2_findOutOfReach_21 : decode cX2_findOutOfReach 21 = .ok (.iconst 3, 1) := by decide +kernel
theorem dX2_findOutOfReach_22 : decode cX2_findOutOfReach 22 = .ok (.iload_n 2, 1) := by decide +kernel
theorem dX2_findOutOfReach_23 : decode cX2_findOutOfReach 23 = .ok (.invokevirtual 79, 3) := by decide +kernel
theorem dX2_findOutOfReach_26 : decode cX2_findOutOfReach 26 = .ok (.iinc 2 1, 3) := by decide +kernel
theorem dX2_findOutOfReach_29 : decode cX2_findOutOfReach 29 = .ok (.goto (-27), 3) := by decide +kernel
theorem dX2_findOutOfReach_32 : decode cX2_findOutOfReach 32 = .ok (.return_, 1) := by decide +kernel
set_option maxRecDepth 20000 in
theorem ggX3_init_X4_init : GoodIn wsX3_init wsX4_init := goodIn_r _ [13, 14, 2, 3, 15, 16, 17] (by decide +kernel) (by decide +kernel)
set_option maxRecDepth 20000 in
theorem gX3_init_X4_init : GoodIn wsX3_init (wsX4_init) := ggX3_init_X4_init
theorem dX3_init_0 : decode cX3_init 0 = .ok (.aload_n 0, 1) := by decide +kernel
theorem dX3_init_1 : decode cX3_init 1 = .ok (.invokespecial 3, 3) := by decide +kernel
theorem dX3_init_4 : decode cX3_init 4 = .ok (.aload_n 0, 1) := by decide +kernel
theorem dX3_init_5 : decode cX3_init 5 = .ok (.new 9, 3) := by decide +kernel
theorem dX3_init_8 : decode cX3_init 8 = .ok (.dup, 1) := by decide +kernel
theorem dX3_init_9 : decode cX3_init 9 = .ok (.bipush 8, 2) := by decide +kernel
theorem dX3_init_11 : decode cX3_init 11 = .ok (.iconst (-1), 1) := by decide +kernel
theorem dX3_init_12 : decode cX3_init 12 = .ok (.invokespecial 11, 3) := by decide +kernel
theorem dX3_init_15 : decode cX3_init 15 = .ok (.putfield 14, 3) := by decide +kernel
theorem dX3_init_18 : decode cX3_init 18 = .ok (.aload_n 0, 1) := by decide +kernel
theorem dX3_init_19 : decode cX3_init 19 = .ok (.new 9, 3) := by decide +kernel
theorem dX3_init_22 : decode cX3_init 22 = .ok (.dup, 1) := by decide +kernel
theorem dX3_init_23 : decode cX3_init 23 = .ok (.bipush 8, 2) := by decide +kernel
theorem dX3_init_25 : decode cX3_init 25 = .ok (.iconst 0, 1) := by decide +kernel
theorem dX3_init_26 : decode cX3_init 26 = .ok (.invokespecial 11, 3) := by decide +kernel
theorem dX3_init_29 : decode cX3_init 29 = .ok (.putfield 20, 3) := by decide +kernel
theorem dX3_init_32 : decode cX3_init 32 = .ok (.aload_n 0, 1) := by decide +kernel
theorem dX3_init_33 : decode cX3_init 33 = .ok (.new 9, 3) := by decide +kernel
theorem dX3_init_36 : decode cX3_init 36 = .ok (.dup, 1) := by decide +kernel
theorem dX3_init_37 : decode cX3_init 37 = .ok (.bipush 8, 2) := by decide +kernel
theorem dX3_init_39 : decode cX3_init 39 = .ok (.iconst 0, 1) := by decide +kernel
theorem dX3_init_40 : decode cX3_init 40 = .ok (.invokespecial 11, 3) := by decide +kernel
theorem dX3_init_43 : decode cX3_init 43 = .ok (.putfield 23, 3) := by decide +kernel
theorem dX3_init_46 : decode cX3_init 46 = .ok (.aload_n 0, 1) := by decide +kernel
theorem dX3_init_47 : decode cX3_init 47 = .ok (.iconst 0, 1) := by decide +kernel
theorem dX3_init_48 : decode cX3_init 48 = .ok (.putfield 26, 3) := by decide +kernel
theorem dX3_init_51 : decode cX3_init 51 = .ok (.return_, 1) := by decide +kernel
theorem dX3_forget_0 : decode cX3_forget 0 = .ok (.aload_n 0, 1) := by decide +kernel
theorem dX3_forget_1 : decode cX3_forget 1 = .ok (.iconst 0, 1) := by decide +kernel
theorem dX3_forget_2 : decode cX3_forget 2 = .ok (.putfield 26, 3) := by decide +kernel
theorem dX3_forget_5 : decode cX3_forget 5 = .ok (.return_, 1) := by decide +kernel
set_option maxRecDepth 20000 in
theorem ggX3_add_X4_set : GoodIn wsX3_add wsX4_set := goodIn_r _ [9, 10, 15] (by decide +kernel) (by decide +kernel)
set_option maxRecDepth 20000 in
theorem gX3_add_X4_set : GoodIn wsX3_add (wsV RX3 30 RX4 yX4_set wsX4_set) := goodIn_app (goodIn_of _ (by decide +kernel)) ggX3_add_X4_set
theorem dX3_add_0 : decode cX3_add 0 = .ok (.aload_n 0, 1) := by decide +kernel
theorem dX3_add_1 : decode cX3_add 1 = .ok (.getfield 14, 3) := by decide +kernel
theorem dX3_add_4 : decode cX3_add 4 = .ok (.aload_n 0, 1) := by decide +kernel
theorem dX3_add_5 : decode cX3_add 5 = .ok (.getfield 26, 3) := by decide +kernel
theorem dX3_add_8 : decode cX3_add 8 = .ok (.iload_n 1, 1) := by decide +kernel
theorem dX3_add_9 : decode cX3_add 9 = .ok (.invokevirtual 30, 3) := by decide +kernel
theorem dX3_add_12 : decode cX3_add 12 = .ok (.aload_n 0, 1) := by decide +kernel
theorem dX3_add_13 : decode cX3_add 13 = .ok (.getfield 20, 3) := by decide +kernel
theorem dX3_add_16 : decode cX3_add 16 = .ok (.aload_n 0, 1) := by decide +kernel
theorem dX3_add_17 : decode cX3_add 17 = .ok (.getfield 26, 3) := by decide +kernel
theorem dX3_add_20 : decode cX3_add 20 = .ok (.iload_n 2, 1) := by decide +kernel
theorem dX3_add_21 : decode cX3_add 21 = .ok (.invokevirtual 30, 3) := by decide +kernel
theorem dX3_add_24 : decode cX3_add 24 = .ok (.aload_n 0, 1) := by decide +kernel
theorem dX3_add_25 : decode cX3_add 25 = .ok (.getfield 23, 3) := by decide +kernel
theorem dX3_add_28 : decode cX3_add 28 = .ok (.aload_n 0, 1) := by decide +kernel
theorem dX3_add_29 : decode cX3_add 29 = .ok (.getfield 26, 3) := by decide +kernel
theorem dX3_add_32 : decode cX3_add 32 = .ok (.iconst 0, 1) := by decide +kernel
theorem dX3_add_33 : decode cX3_add 33 = .ok (.invokevirtual 30, 3) := by decide +kernel
theorem dX3_add_36 : decode cX3_add 36 = .ok (.aload_n 0, 1) := by decide +kernel
theorem dX3_add_37 : decode cX3_add 37 = .ok (.dup, 1) := by decide +kernel
theorem dX3_add_38 : decode cX3_add 38 = .ok (.getfield 26, 3) := by decide +kernel
theorem dX3_add_41 : decode cX3_add 41 = .ok (.iconst 1, 1) := by decide +kernel
theorem dX3_add_42 : decode cX3_add 42 = .ok (.iadd, 1) := by decide +kernel
theorem dX3_add_43 : decode cX3_add 43 = .ok (.putfield 26, 3) := by decide +kernel
theorem dX3_add_46 : decode cX3_add 46 = .ok (.aload_n 0, 1) := by decide +kernel
theorem dX3_add_47 : decode cX3_add 47 = .ok (.getfield 26, 3) := by decide +kernel
theorem dX3_add_50 : decode cX3_add 50 = .ok (.iconst 1, 1) := by decide +kernel
theorem dX3_add_51 : decode cX3_add 51 = .ok (.isub, 1) := by decide +kernel
theorem dX3_add_52 : decode cX3_add 52 = .ok (.ireturn, 1) := by decide +kernel
set_option maxRecDepth 20000 in
theorem ggX3_isWaiting_X4_get : GoodIn wsX3_isWaiting wsX4_get := goodIn_r _ [7, 8, 13] (by decide +kernel) (by decide +kernel)
set_option maxRecDepth 20000 in
theorem gX3_isWaiting_X4_get : GoodIn wsX3_isWaiting (wsV RX3 33 RX4 yX4_get wsX4_get) := goodIn_app (goodIn_of _ (by decide +kernel)) ggX3_isWaiting_X4_get
theorem dX3_isWaiting_0 : decode cX3_isWaiting 0 = .ok (.iload_n 1, 1) := by decide +kernel
theorem dX3_isWaiting_1 : decode cX3_isWaiting 1 = .ok (.ifCond .lt 26, 3) := by decide +kernel
theorem dX3_isWaiting_4 : decode cX3_isWaiting 4 = .ok (.iload_n 1, 1) := by decide +kernel
theorem dX3_isWaiting_5 : decode cX3_isWaiting 5 = .ok (.aload_n 0, 1) := by decide +kernel
theorem dX3_isWaiting_6 : decode cX3_isWaiting 6 = .ok (.getfield 26, 3) := by decide +kernel
theorem dX3_isWaiting_9 : decode cX3_isWaiting 9 = .ok (.if_icmp .ge 18, 3) := by decide +kernel
theorem dX3_isWaiting_12 : decode cX3_isWaiting 12 = .ok (.aload_n 0, 1) := by decide +kernel
theorem dX3_isWaiting_13 : decode cX3_isWaiting 13 = .ok (.getfield 23, 3) := by decide +kernel
theorem dX3_isWaiting_16 : decode cX3_isWaiting 16 = .ok (.iload_n 1, 1) := by decide +kernel
theorem dX3_isWaiting_17 : decode cX3_isWaiting 17 = .ok (.invokevirtual 33, 3) := by decide +kernel
theorem dX3_isWaiting_20 : decode cX3_isWaiting 20 = .ok (.ifCond .ne 7, 3) := by decide +kernel
theorem dX3_isWaiting_23 : decode cX3_isWaiting 23 = .ok (.iconst 1, 1) := by decide +kernel
theorem dX3_isWaiting_24 : decode cX3_isWaiting 24 = .ok (.goto 4, 3) := by decide +kernel
theorem dX3_isWaiting_27 : decode cX3_isWaiting 27 = .ok (.iconst 0, 1) := by decide +kernel
theorem dX3_isWaiting_28 : decode cX3_isWaiting 28 = .ok (.ireturn, 1) := by decide +kernel
set_option maxRecDepth 20000 in
theorem ggX3_waiting_X3_isWaiting : GoodIn wsX3_waiting wsX3_isWaiting := goodIn_r _ [6, 1, 7, 8, 9, 10, 11, 12, 13, 14, 15, 16, 17, 18] (by decide +kernel) (by decide +kernel)
set_option maxRecDepth 20000 in
theorem gX3_waiting_X3_isWaiting : GoodIn wsX3_waiting (wsV RX3 37 RX3 yX3_isWaiting wsX3_isWaiting) := goodIn_app (goodIn_of _ (by decide +kernel)) ggX3_waiting_X3_isWaiting
theorem dX3_waiting_0 : decode cX3_waiting 0 = .ok (.iconst 0, 1) := by decide +kernel
theorem dX3_waiting_1 : decode cX3_waiting 1 = .ok (.istore_n 1, 1) := by decide +kernel
theorem dX3_waiting_2 : decode cX3_waiting 2 = .ok (.iconst 0, 1) := by decide +kernel
theorem dX3_waiting_3 : decode cX3_waiting 3 = .ok (.istore_n 2, 1) := by decide +kernel
theorem dX3_waiting_4 : decode cX3_waiting 4 = .ok (.iload_n 2, 1) := by decide +kernel
theorem dX3_waiting_5 : decode cX3_waiting 5 = .ok (.aload_n 0, 1) := by decide +kernel
theorem dX3_waiting_6 : decode cX3_waiting 6 = .ok (.getfield 26, 3) := by decide +kernel
theorem dX3_waiting_9 : decode cX3_waiting 9 = .ok (.if_icmp .ge 20, 3) := by decide +kernel
theorem dX3_waiting_12 : decode cX3_waiting 12 = .ok (.aload_n 0, 1) := by decide +kernel
theorem dX3_waiting_13 : decode cX3_waiting 13 = .ok (.iload_n 2, 1) := by decide +kernel
theorem dX3_waiting_14 : decode cX3_waiting 14 = .ok (.invokevirtual 37, 3) := by decide +kernel
theorem dX3_waiting_17 : decode cX3_waiting 17 = .ok (.ifCond .eq 6, 3) := by decide +kernel
theorem dX3_waiting_20 : decode cX3_waiting 20 = .ok (.iinc 1 1, 3) := by decide +kernel
theorem dX3_waiting_23 : decode cX3_waiting 23 = .ok (.iinc 2 1, 3) := by decide +kernel
theorem dX3_waiting_26 : decode cX3_waiting 26 = .ok (.goto (-22), 3) := by decide +kernel
theorem dX3_waiting_29 : decode cX3_waiting 29 = .ok (.iload_n 1, 1) := by decide +kernel
theorem dX3_waiting_30 : decode cX3_waiting 30 = .ok (.ireturn, 1) := by decide +kernel
set_option maxRecDepth 20000 in
theorem ggX3_waitingFor_X3_isWaiting : GoodIn wsX3_waitingFor wsX3_isWaiting := goodIn_r _ [8, 1, 9, 10, 11, 12, 13, 14, 15, 16, 17, 18, 19, 30] (by decide +kernel) (by decide +kernel)
set_option maxRecDepth 20000 in
theorem gX3_waitingFor_X3_isWaiting : GoodIn wsX3_waitingFor (wsV RX3 37 RX3 yX3_isWaiting wsX3_isWaiting) := goodIn_app (goodIn_of _ (by decide +kernel)) ggX3_waitingFor_X3_isWaiting
set_option maxRecDepth 20000 in
theorem ggX3_waitingFor_X4_get : GoodIn wsX3_waitingFor wsX4_get := goodIn_r _ [14, 15, 30] (by decide +kernel) (by decide +kernel)
set_option maxRecDepth 20000 in
theorem gX3_waitingFor_X4_get : GoodIn wsX3_waitingFor (wsV RX3 33 RX4 yX4_get wsX4_get) := goodIn_app (goodIn_of _ (by decide +kernel)) ggX3_waitingFor_X4_get
theorem dX3_waitingFor_0 : decode cX3_waitingFor 0 = .ok (.iconst 0, 1) := by decide +kernel
theorem dX3_waitingFor_1 : decode cX3_waitingFor 1 = .ok (.istore_n 3, 1) := by decide +kernel
theorem dX3_waitingFor_2 : decode cX3_waitingFor 2 = .ok (.iconst 0, 1) := by decide +kernel
theorem dX3_waitingFor_3 : decode cX3_waitingFor 3 = .ok (.istore 4, 2) := by decide +kernel
theorem dX3_waitingFor_5 : decode cX3_waitingFor 5 = .ok (.iload 4, 2) := by decide +kernel
theorem dX3_waitingFor_7 : decode cX3_waitingFor 7 = .ok (.aload_n 0, 1) := by decide +kernel
theorem dX3_waitingFor_8 : decode cX3_waitingFor 8 = .ok (.getfield 26, 3) := by decide +kernel
theorem dX3_waitingFor_11 : decode cX3_waitingFor 11 = .ok (.if_icmp .ge 41, 3) := by decide +kernel
theorem dX3_waitingFor_14 : decode cX3_waitingFor 14 = .ok (.aload_n 0, 1) := by decide +kernel
theorem dX3_waitingFor_15 : decode cX3_waitingFor 15 = .ok (.iload 4, 2) := by decide +kernel
theorem dX3_waitingFor_17 : decode cX3_waitingFor 17 = .ok (.invokevirtual 37, 3) := by decide +kernel
theorem dX3_waitingFor_20 : decode cX3_waitingFor 20 = .ok (.ifCond .eq 26, 3) := by decide +kernel
theorem dX3_waitingFor_23 : decode cX3_waitingFor 23 = .ok (.aload_n 1, 1) := by decide +kernel
theorem dX3_waitingFor_24 : decode cX3_waitingFor 24 = .ok (.getfield 41, 3) := by decide +kernel
theorem dX3_waitingFor_27 : decode cX3_waitingFor 27 = .ok (.aload_n 0, 1) := by decide +kernel
theorem dX3_waitingFor_28 : decode cX3_waitingFor 28 = .ok (.getfield 14, 3) := by decide +kernel
theorem dX3_waitingFor_31 : decode cX3_waitingFor 31 = .ok (.iload 4, 2) := by decide +kernel
theorem dX3_waitingFor_33 : decode cX3_waitingFor 33 = .ok (.invokevirtual 33, 3) := by decide +kernel
theorem dX3_waitingFor_36 : decode cX3_waitingFor 36 = .ok (.invokevirtual 33, 3) := by decide +kernel
theorem dX3_waitingFor_39 : decode cX3_waitingFor 39 = .ok (.iload_n 2, 1) := by decide +kernel
theorem dX3_waitingFor_40 : decode cX3_waitingFor 40 = .ok (.if_icmp .ne 6, 3) := by decide +kernel
theorem dX3_waitingFor_43 : decode cX3_waitingFor 43 = .ok (.iinc 3 1, 3) := by decide +kernel
theorem dX3_waitingFor_46 : decode cX3_waitingFor 46 = .ok (.iinc 4 1, 3) := by decide +kernel
theorem dX3_waitingFor_49 : decode cX3_waitingFor 49 = .ok (.goto (-44), 3) := by decide +kernel
theorem dX3_waitingFor_52 : decode cX3_waitingFor 52 = .ok (.iload_n 3, 1) := by decide +kernel
theorem dX3_waitingFor_53 : decode cX3_waitingFor 53 = .ok (.ireturn, 1) := by decide +kernel
set_option maxRecDepth 20000 in
theorem ggX3_waitsBehind_X4_get : GoodIn wsX3_waitsBehind wsX4_get := goodIn_r _ [7, 8, 30] (by decide +kernel) (by decide +kernel)
set_option maxRecDepth 20000 in
theorem gX3_waitsBehind_X4_get : GoodIn wsX3_waitsBehind (wsV RX3 33 RX4 yX4_get wsX4_get) := goodIn_app (goodIn_of _ (by decide +kernel)) ggX3_waitsBehind_X4_get
set_option maxRecDepth 20000 in
theorem ggX3_waitsBehind_X3_isWaiting : GoodIn wsX3_waitsBehind wsX3_isWaiting := goodIn_r _ [13, 14, 15, 3, 4, 5, 6, 7, 8, 26, 27, 28, 29, 30] (by decide +kernel) (by decide +kernel)
set_option maxRecDepth 20000 in
theorem gX3_waitsBehind_X3_isWaiting : GoodIn wsX3_waitsBehind (wsV RX3 37 RX3 yX3_isWaiting wsX3_isWaiting) := goodIn_app (goodIn_of _ (by decide +kernel)) ggX3_waitsBehind_X3_isWaiting
theorem dX3_waitsBehind_0 : decode cX3_waitsBehind 0 = .ok (.aload_n 1, 1) := by decide +kernel
theorem dX3_waitsBehind_1 : decode cX3_waitsBehind 1 = .ok (.getfield 41, 3) := by decide +kernel
theorem dX3_waitsBehind_4 : decode cX3_waitsBehind 4 = .ok (.aload_n 0, 1) := by decide +kernel
theorem dX3_waitsBehind_5 : decode cX3_waitsBehind 5 = .ok (.getfield 14, 3) := by decide +kernel
theorem dX3_waitsBehind_8 : decode cX3_waitsBehind 8 = .ok (.iload_n 2, 1) := by decide +kernel
theorem dX3_waitsBehind_9 : decode cX3_waitsBehind 9 = .ok (.invokevirtual 33, 3) := by decide +kernel
theorem dX3_waitsBehind_12 : decode cX3_waitsBehind 12 = .ok (.invokevirtual 33, 3) := by decide +kernel
theorem dX3_waitsBehind_15 : decode cX3_waitsBehind 15 = .ok (.istore_n 3, 1) := by decide +kernel
theorem dX3_waitsBehind_16 : decode cX3_waitsBehind 16 = .ok (.iconst 0, 1) := by decide +kernel
theorem dX3_waitsBehind_17 : decode cX3_waitsBehind 17 = .ok (.istore 4, 2) := by decide +kernel
theorem dX3_waitsBehind_19 : decode cX3_waitsBehind 19 = .ok (.iload 4, 2) := by decide +kernel
theorem dX3_waitsBehind_21 : decode cX3_waitsBehind 21 = .ok (.iload_n 2, 1) := by decide +kernel
theorem dX3_waitsBehind_22 : decode cX3_waitsBehind 22 = .ok (.if_icmp .ge 40, 3) := by decide +kernel
theorem dX3_waitsBehind_25 : decode cX3_waitsBehind 25 = .ok (.aload_n 0, 1) := by decide +kernel
theorem dX3_waitsBehind_26 : decode cX3_waitsBehind 26 = .ok (.iload 4, 2) := by decide +kernel
theorem dX3_waitsBehind_28 : decode cX3_waitsBehind 28 = .ok (.invokevirtual 37, 3) := by decide +kernel
theorem dX3_waitsBehind_31 : decode cX3_waitsBehind 31 = .ok (.ifCond .eq 25, 3) := by decide +kernel
theorem dX3_waitsBehind_34 : decode cX3_waitsBehind 34 = .ok (.aload_n 1, 1) := by decide +kernel
theorem dX3_waitsBehind_35 : decode cX3_waitsBehind 35 = .ok (.getfield 41, 3) := by decide +kernel
theorem dX3_waitsBehind_38 : decode cX3_waitsBehind 38 = .ok (.aload_n 0, 1) := by decide +kernel
theorem dX3_waitsBehind_39 : decode cX3_waitsBehind 39 = .ok (.getfield 14, 3) := by decide +kernel
theorem dX3_waitsBehind_42 : decode cX3_waitsBehind 42 = .ok (.iload 4, 2) := by decide +kernel
theorem dX3_waitsBehind_44 : decode cX3_waitsBehind 44 = .ok (.invokevirtual 33, 3) := by decide +kernel
theorem dX3_waitsBehind_47 : decode cX3_waitsBehind 47 = .ok (.invokevirtual 33, 3) := by decide +kernel
theorem dX3_waitsBehind_50 : decode cX3_waitsBehind 50 = .ok (.iload_n 3, 1) := by decide +kernel
theorem dX3_waitsBehind_51 : decode cX3_waitsBehind 51 = .ok (.if_icmp .ne 5, 3) := by decide +kernel
theorem dX3_waitsBehind_54 : decode cX3_waitsBehind 54 = .ok (.iconst 1, 1) := by decide +kernel
theorem dX3_waitsBehind_55 : decode cX3_waitsBehind 55 = .ok (.ireturn, 1) := by decide +kernel
theorem dX3_waitsBehind_56 : decode cX3_waitsBehind 56 = .ok (.iinc 4 1, 3) := by decide +kernel
theorem dX3_waitsBehind_59 : decode cX3_waitsBehind 59 = .ok (.goto (-40), 3) := by decide +kernel
theorem dX3_waitsBehind_62 : decode cX3_waitsBehind 62 = .ok (.iconst 0, 1) := by decide +kernel
theorem dX3_waitsBehind_63 : decode cX3_waitsBehind 63 = .ok (.ireturn, 1) := by decide +kernel
set_option maxRecDepth 20000 in
theorem ggX3_goesWith_X4_get : GoodIn wsX3_goesWith wsX4_get := goodIn_r _ [6, 7, 19] (by decide +kernel) (by decide +kernel)
set_option maxRecDepth 20000 in
theorem gX3_goesWith_X4_get : GoodIn wsX3_goesWith (wsV RX3 33 RX4 yX4_get wsX4_get) := goodIn_app (goodIn_of _ (by decide +kernel)) ggX3_goesWith_X4_get
set_option maxRecDepth 20000 in
theorem ggX3_goesWith_X3_isWaiting : GoodIn wsX3_goesWith wsX3_isWaiting := goodIn_r _ [12, 13, 14, 2, 3, 4, 5, 6, 7, 15, 16, 17, 18, 19] (by decide +kernel) (by decide +kernel)
set_option maxRecDepth 20000 in
theorem gX3_goesWith_X3_isWaiting : GoodIn wsX3_goesWith (wsV RX3 37 RX3 yX3_isWaiting wsX3_isWaiting) := goodIn_app (goodIn_of _ (by decide +kernel)) ggX3_goesWith_X3_isWaiting
theorem dX3_goesWith_0 : decode cX3_goesWith 0 = .ok (.iload_n 1, 1) := by decide +kernel
theorem dX3_goesWith_1 : decode cX3_goesWith 1 = .ok (.iload_n 2, 1) := by decide +kernel
theorem dX3_goesWith_2 : decode cX3_goesWith 2 = .ok (.if_icmp .eq 33, 3) := by decide +kernel
theorem dX3_goesWith_5 : decode cX3_goesWith 5 = .ok (.aload_n 0, 1) := by decide +kernel
theorem dX3_goesWith_6 : decode cX3_goesWith 6 = .ok (.getfield 20, 3) := by decide +kernel
theorem dX3_goesWith_9 : decode cX3_goesWith 9 = .ok (.iload_n 2, 1) := by decide +kernel
theorem dX3_goesWith_10 : decode cX3_goesWith 10 = .ok (.invokevirtual 33, 3) := by decide +kernel
theorem dX3_goesWith_13 : decode cX3_goesWith 13 = .ok (.ifCond .eq 26, 3) := by decide +kernel
theorem dX3_goesWith_16 : decode cX3_goesWith 16 = .ok (.aload_n 0, 1) := by decide +kernel
theorem dX3_goesWith_17 : decode cX3_goesWith 17 = .ok (.getfield 20, 3) := by decide +kernel
theorem dX3_goesWith_20 : decode cX3_goesWith 20 = .ok (.iload_n 1, 1) := by decide +kernel
theorem dX3_goesWith_21 : decode cX3_goesWith 21 = .ok (.invokevirtual 33, 3) := by decide +kernel
theorem dX3_goesWith_24 : decode cX3_goesWith 24 = .ok (.aload_n 0, 1) := by decide +kernel
theorem dX3_goesWith_25 : decode cX3_goesWith 25 = .ok (.getfield 20, 3) := by decide +kernel
theorem dX3_goesWith_28 : decode cX3_goesWith 28 = .ok (.iload_n 2, 1) := by decide +kernel
theorem dX3_goesWith_29 : decode cX3_goesWith 29 = .ok (.invokevirtual 33, 3) := by decide +kernel
theorem dX3_goesWith_32 : decode cX3_goesWith 32 = .ok (.if_icmp .ne 7, 3) := by decide +kernel
theorem dX3_goesWith_35 : decode cX3_goesWith 35 = .ok (.iconst 1, 1) := by decide +kernel
theorem dX3_goesWith_36 : decode cX3_goesWith 36 = .ok (.goto 4, 3) := by decide +kernel
theorem dX3_goesWith_39 : decode cX3_goesWith 39 = .ok (.iconst 0, 1) := by decide +kernel
theorem dX3_goesWith_40 : decode cX3_goesWith 40 = .ok (.istore_n 3, 1) := by decide +kernel
theorem dX3_goesWith_41 : decode cX3_goesWith 41 = .ok (.iload_n 3, 1) := by decide +kernel
theorem dX3_goesWith_42 : decode cX3_goesWith 42 = .ok (.ifCond .eq 15, 3) := by decide +kernel
theorem dX3_goesWith_45 : decode cX3_goesWith 45 = .ok (.aload_n 0, 1) := by decide +kernel
theorem dX3_goesWith_46 : decode cX3_goesWith 46 = .ok (.iload_n 1, 1) := by decide +kernel
theorem dX3_goesWith_47 : decode cX3_goesWith 47 = .ok (.invokevirtual 37, 3) := by decide +kernel
theorem dX3_goesWith_50 : decode cX3_goesWith 50 = .ok (.ifCond .eq 7, 3) := by decide +kernel
theorem dX3_goesWith_53 : decode cX3_goesWith 53 = .ok (.iconst 1, 1) := by decide +kernel
theorem dX3_goesWith_54 : decode cX3_goesWith 54 = .ok (.goto 4, 3) := by decide +kernel
theorem dX3_goesWith_57 : decode cX3_goesWith 57 = .ok (.iconst 0, 1) := by decide +kernel
theorem dX3_goesWith_58 : decode cX3_goesWith 58 = .ok (.ireturn, 1) := by decide +kernel
set_option maxRecDepth 20000 in
theorem ggX3_end_X3_goesWith : GoodIn wsX3_end wsX3_goesWith := goodIn_r _ [7, 8, 9, 10, 11, 12, 13, 14, 15, 16, 17, 6, 18, 1, 2, 23, 24, 25, 26, 27] (by decide +kernel) (by decide +kernel)
set_option maxRecDepth 20000 in
theorem gX3_end_X3_goesWith : GoodIn wsX3_end (wsV RX3 46 RX3 yX3_goesWith wsX3_goesWith) := goodIn_app (goodIn_of _ (by decide +kernel)) ggX3_end_X3_goesWith
set_option maxRecDepth 20000 in
theorem ggX3_end_X4_set : GoodIn wsX3_end wsX4_set := goodIn_r _ [22, 14, 27] (by decide +kernel) (by decide +kernel)
set_option maxRecDepth 20000 in
theorem gX3_end_X4_set : GoodIn wsX3_end (wsV RX3 30 RX4 yX4_set wsX4_set) := goodIn_app (goodIn_of _ (by decide +kernel)) ggX3_end_X4_set
theorem dX3_end_0 : decode cX3_end 0 = .ok (.iconst 0, 1) := by decide +kernel
theorem dX3_end_1 : decode cX3_end 1 = .ok (.istore_n 3, 1) := by decide +kernel
theorem dX3_end_2 : decode cX3_end 2 = .ok (.iload_n 3, 1) := by decide +kernel
theorem dX3_end_3 : decode cX3_end 3 = .ok (.aload_n 0, 1) := by decide +kernel
theorem dX3_end_4 : decode cX3_end 4 = .ok (.getfield 26, 3) := by decide +kernel
theorem dX3_end_7 : decode cX3_end 7 = .ok (.if_icmp .ge 27, 3) := by decide +kernel
theorem dX3_end_10 : decode cX3_end 10 = .ok (.aload_n 0, 1) := by decide +kernel
theorem dX3_end_11 : decode cX3_end 11 = .ok (.iload_n 3, 1) := by decide +kernel
theorem dX3_end_12 : decode cX3_end 12 = .ok (.iload_n 1, 1) := by decide +kernel
theorem dX3_end_13 : decode cX3_end 13 = .ok (.invokevirtual 46, 3) := by decide +kernel
theorem dX3_end_16 : decode cX3_end 16 = .ok (.ifCond .eq 12, 3) := by decide +kernel
theorem dX3_end_19 : decode cX3_end 19 = .ok (.aload_n 0, 1) := by decide +kernel
theorem dX3_end_20 : decode cX3_end 20 = .ok (.getfield 23, 3) := by decide +kernel
theorem dX3_end_23 : decode cX3_end 23 = .ok (.iload_n 3, 1) := by decide +kernel
theorem dX3_end_24 : decode cX3_end 24 = .ok (.iload_n 2, 1) := by decide +kernel
theorem dX3_end_25 : decode cX3_end 25 = .ok (.invokevirtual 30, 3) := by decide +kernel
theorem dX3_end_28 : decode cX3_end 28 = .ok (.iinc 3 1, 3) := by decide +kernel
theorem dX3_end_31 : decode cX3_end 31 = .ok (.goto (-29), 3) := by decide +kernel
theorem dX3_end_34 : decode cX3_end 34 = .ok (.return_, 1) := by decide +kernel
theorem dX4_init_0 : decode cX4_init 0 = .ok (.aload_n 0, 1) := by decide +kernel
theorem dX4_init_1 : decode cX4_init 1 = .ok (.invokespecial 3, 3) := by decide +kernel
theorem dX4_init_4 : decode cX4_init 4 = .ok (.aload_n 0, 1) := by decide +kernel
theorem dX4_init_5 : decode cX4_init 5 = .ok (.iload_n 1, 1) := by decide +kernel
theorem dX4_init_6 : decode cX4_init 6 = .ok (.ifCond .ge 7, 3) := by decide +kernel
theorem dX4_init_9 : decode cX4_init 9 = .ok (.iconst 0, 1) := by decide +kernel
theorem dX4_init_10 : decode cX4_init 10 = .ok (.goto 4, 3) := by decide +kernel
theorem dX4_init_13 : decode cX4_init 13 = .ok (.iload_n 1, 1) := by decide +kernel
theorem dX4_init_14 : decode cX4_init 14 = .ok (.newarray .int, 2) := by decide +kernel
theorem dX4_init_16 : decode cX4_init 16 = .ok (.putfield 9, 3) := by decide +kernel
theorem dX4_init_19 : decode cX4_init 19 = .ok (.iconst 0, 1) := by decide +kernel
theorem dX4_init_20 : decode cX4_init 20 = .ok (.istore_n 3, 1) := by decide +kernel
theorem dX4_init_21 : decode cX4_init 21 = .ok (.iload_n 3, 1) := by decide +kernel
theorem dX4_init_22 : decode cX4_init 22 = .ok (.aload_n 0, 1) := by decide +kernel
theorem dX4_init_23 : decode cX4_init 23 = .ok (.getfield 9, 3) := by decide +kernel
theorem dX4_init_26 : decode cX4_init 26 = .ok (.arraylength, 1) := by decide +kernel
theorem dX4_init_27 : decode cX4_init 27 = .ok (.if_icmp .ge 16, 3) := by decide +kernel
theorem dX4_init_30 : decode cX4_init 30 = .ok (.aload_n 0, 1) := by decide +kernel
theorem dX4_init_31 : decode cX4_init 31 = .ok (.getfield 9, 3) := by decide +kernel
theorem dX4_init_34 : decode cX4_init 34 = .ok (.iload_n 3, 1) := by decide +kernel
theorem dX4_init_35 : decode cX4_init 35 = .ok (.iload_n 2, 1) := by decide +kernel
theorem dX4_init_36 : decode cX4_init 36 = .ok (.iastore, 1) := by decide +kernel
theorem dX4_init_37 : decode cX4_init 37 = .ok (.iinc 3 1, 3) := by decide +kernel
theorem dX4_init_40 : decode cX4_init 40 = .ok (.goto (-19), 3) := by decide +kernel
theorem dX4_init_43 : decode cX4_init 43 = .ok (.return_, 1) := by decide +kernel
theorem dX4_get_0 : decode cX4_get 0 = .ok (.iload_n 1, 1) := by decide +kernel
theorem dX4_get_1 : decode cX4_get 1 = .ok (.ifCond .lt 21, 3) := by decide +kernel
theorem dX4_get_4 : decode cX4_get 4 = .ok (.iload_n 1, 1) := by decide +kernel
theorem dX4_get_5 : decode cX4_get 5 = .ok (.aload_n 0, 1) := by decide +kernel
theorem dX4_get_6 : decode cX4_get 6 = .ok (.getfield 9, 3) := by decide +kernel
theorem dX4_get_9 : decode cX4_get 9 = .ok (.arraylength, 1) := by decide +kernel
theorem dX4_get_10 : decode cX4_get 10 = .ok (.if_icmp .ge 12, 3) := by decide +kernel
theorem dX4_get_13 : decode cX4_get 13 = .ok (.aload_n 0, 1) := by decide +kernel
theorem dX4_get_14 : decode cX4_get 14 = .ok (.getfield 9, 3) := by decide +kernel
theorem dX4_get_17 : decode cX4_get 17 = .ok (.iload_n 1, 1) := by decide +kernel
theorem dX4_get_18 : decode cX4_get 18 = .ok (.iaload, 1) := by decide +kernel
theorem dX4_get_19 : decode cX4_get 19 = .ok (.goto 4, 3) := by decide +kernel
theorem dX4_get_22 : decode cX4_get 22 = .ok (.iconst (-1), 1) := by decide +kernel
theorem dX4_get_23 : decode cX4_get 23 = .ok (.ireturn, 1) := by decide +kernel
theorem dX4_set_0 : decode cX4_set 0 = .ok (.iload_n 1, 1) := by decide +kernel
theorem dX4_set_1 : decode cX4_set 1 = .ok (.ifCond .lt 19, 3) := by decide +kernel
theorem dX4_set_4 : decode cX4_set 4 = .ok (.iload_n 1, 1) := by decide +kernel
theorem dX4_set_5 : decode cX4_set 5 = .ok (.aload_n 0, 1) := by decide +kernel
theorem dX4_set_6 : decode cX4_set 6 = .ok (.getfield 9, 3) := by decide +kernel
theorem dX4_set_9 : decode cX4_set 9 = .ok (.arraylength, 1) := by decide +kernel
theorem dX4_set_10 : decode cX4_set 10 = .ok (.if_icmp .ge 10, 3) := by decide +kernel
theorem dX4_set_13 : decode cX4_set 13 = .ok (.aload_n 0, 1) := by decide +kernel
theorem dX4_set_14 : decode cX4_set 14 = .ok (.getfield 9, 3) := by decide +kernel
theorem dX4_set_17 : decode cX4_set 17 = .ok (.iload_n 1, 1) := by decide +kernel
theorem dX4_set_18 : decode cX4_set 18 = .ok (.iload_n 2, 1) := by decide +kernel
theorem dX4_set_19 : decode cX4_set 19 = .ok (.iastore, 1) := by decide +kernel
theorem dX4_set_20 : decode cX4_set 20 = .ok (.return_, 1) := by decide +kernel
set_option maxRecDepth 20000 in
theorem ggX4_add_X4_get : GoodIn wsX4_add wsX4_get := goodIn_r _ [5, 6, 11] (by decide +kernel) (by decide +kernel)
set_option maxRecDepth 20000 in
theorem gX4_add_X4_get : GoodIn wsX4_add (wsV RX4 15 RX4 yX4_get wsX4_get) := goodIn_app (goodIn_of _ (by decide +kernel)) ggX4_add_X4_get
set_option maxRecDepth 20000 in
theorem ggX4_add_X4_set : GoodIn wsX4_add wsX4_set := goodIn_r _ [10, 6, 11] (by decide +kernel) (by decide +kernel)
set_option maxRecDepth 20000 in
theorem gX4_add_X4_set : GoodIn wsX4_add (wsV RX4 19 RX4 yX4_set wsX4_set) := goodIn_app (goodIn_of _ (by decide +kernel)) ggX4_add_X4_set
theorem dX4_add_0 : decode cX4_add 0 = .ok (.aload_n 0, 1) := by decide +kernel
theorem dX4_add_1 : decode cX4_add 1 = .ok (.iload_n 1, 1) := by decide +kernel
theorem dX4_add_2 : decode cX4_add 2 = .ok (.aload_n 0, 1) := by decide +kernel
theorem dX4_add_3 : decode cX4_add 3 = .ok (.iload_n 1, 1) := by decide +kernel
theorem dX4_add_4 : decode cX4_add 4 = .ok (.invokevirtual 15, 3) := by decide +kernel
theorem dX4_add_7 : decode cX4_add 7 = .ok (.iload_n 2, 1) := by decide +kernel
theorem dX4_add_8 : decode cX4_add 8 = .ok (.iadd, 1) := by decide +kernel
theorem dX4_add_9 : decode cX4_add 9 = .ok (.invokevirtual 19, 3) := by decide +kernel
theorem dX4_add_12 : decode cX4_add 12 = .ok (.return_, 1) := by decide +kernel
theorem dX4_fill_0 : decode cX4_fill 0 = .ok (.iconst 0, 1) := by decide +kernel
theorem dX4_fill_1 : decode cX4_fill 1 = .ok (.istore_n 2, 1) := by decide +kernel
theorem dX4_fill_2 : decode cX4_fill 2 = .ok (.iload_n 2, 1) := by decide +kernel
theorem dX4_fill_3 : decode cX4_fill 3 = .ok (.aload_n 0, 1) := by decide +kernel
theorem dX4_fill_4 : decode cX4_fill 4 = .ok (.getfield 9, 3) := by decide +kernel
theorem dX4_fill_7 : decode cX4_fill 7 = .ok (.arraylength, 1) := by decide +kernel
theorem dX4_fill_8 : decode cX4_fill 8 = .ok (.if_icmp .ge 16, 3) := by decide +kernel
theorem dX4_fill_11 : decode cX4_fill 11 = .ok (.aload_n 0, 1) := by decide +kernel
theorem dX4_fill_12 : decode cX4_fill 12 = .ok (.getfield 9, 3) := by decide +kernel
theorem dX4_fill_15 : decode cX4_fill 15 = .ok (.iload_n 2, 1) := by decide +kernel
theorem dX4_fill_16 : decode cX4_fill 16 = .ok (.iload_n 1, 1) := by decide +kernel
theorem dX4_fill_17 : decode cX4_fill 17 = .ok (.iastore, 1) := by decide +kernel
theorem dX4_fill_18 : decode cX4_fill 18 = .ok (.iinc 2 1, 3) := by decide +kernel
theorem dX4_fill_21 : decode cX4_fill 21 = .ok (.goto (-19), 3) := by decide +kernel
theorem dX4_fill_24 : decode cX4_fill 24 = .ok (.return_, 1) := by decide +kernel
theorem dX4_copy_0 : decode cX4_copy 0 = .ok (.iconst 0, 1) := by decide +kernel
theorem dX4_copy_1 : decode cX4_copy 1 = .ok (.istore_n 2, 1) := by decide +kernel
theorem dX4_copy_2 : decode cX4_copy 2 = .ok (.iload_n 2, 1) := by decide +kernel
theorem dX4_copy_3 : decode cX4_copy 3 = .ok (.aload_n 0, 1) := by decide +kernel
theorem dX4_copy_4 : decode cX4_copy 4 = .ok (.getfield 9, 3) := by decide +kernel
theorem dX4_copy_7 : decode cX4_copy 7 = .ok (.arraylength, 1) := by decide +kernel
theorem dX4_copy_8 : decode cX4_copy 8 = .ok (.if_icmp .ge 30, 3) := by decide +kernel
theorem dX4_copy_11 : decode cX4_copy 11 = .ok (.iload_n 2, 1) := by decide +kernel
theorem dX4_copy_12 : decode cX4_copy 12 = .ok (.aload_n 1, 1) := by decide +kernel
theorem dX4_copy_13 : decode cX4_copy 13 = .ok (.getfield 9, 3) := by decide +kernel
theorem dX4_copy_16 : decode cX4_copy 16 = .ok (.arraylength, 1) := by decide +kernel
theorem dX4_copy_17 : decode cX4_copy 17 = .ok (.if_icmp .ge 21, 3) := by decide +kernel
theorem dX4_copy_20 : decode cX4_copy 20 = .ok (.aload_n 0, 1) := by decide +kernel
theorem dX4_copy_21 : decode cX4_copy 21 = .ok (.getfield 9, 3) := by decide +kernel
theorem dX4_copy_24 : decode cX4_copy 24 = .ok (.iload_n 2, 1) := by decide +kernel
theorem dX4_copy_25 : decode cX4_copy 25 = .ok (.aload_n 1, 1) := by decide +kernel
theorem dX4_copy_26 : decode cX4_copy 26 = .ok (.getfield 9, 3) := by decide +kernel
theorem dX4_copy_29 : decode cX4_copy 29 = .ok (.iload_n 2, 1) := by decide +kernel
theorem dX4_copy_30 : decode cX4_copy 30 = .ok (.iaload, 1) := by decide +kernel
theorem dX4_copy_31 : decode cX4_copy 31 = .ok (.iastore, 1) := by decide +kernel
theorem dX4_copy_32 : decode cX4_copy 32 = .ok (.iinc 2 1, 3) := by decide +kernel
theorem dX4_copy_35 : decode cX4_copy 35 = .ok (.goto (-33), 3) := by decide +kernel
theorem dX4_copy_38 : decode cX4_copy 38 = .ok (.return_, 1) := by decide +kernel
theorem dX4_count_0 : decode cX4_count 0 = .ok (.iconst 0, 1) := by decide +kernel
theorem dX4_count_1 : decode cX4_count 1 = .ok (.istore_n 2, 1) := by decide +kernel
theorem dX4_count_2 : decode cX4_count 2 = .ok (.iconst 0, 1) := by decide +kernel
theorem dX4_count_3 : decode cX4_count 3 = .ok (.istore_n 3, 1) := by decide +kernel
theorem dX4_count_4 : decode cX4_count 4 = .ok (.iload_n 3, 1) := by decide +kernel
theorem dX4_count_5 : decode cX4_count 5 = .ok (.aload_n 0, 1) := by decide +kernel

set_option maxRecDepth 20000 in
theorem wsL_law_g0_9 : GoodIn lw_tbl (((wsL_law0).drop 360).take 40) := goodIn_r _ [626, 627, 628, 629, 630, 631, 632, 633, 635, 19, 636, 637, 638, 639, 640, 641, 642, 643, 751, 752, 753, 754, 755, 756, 757, 649, 651, 20, 652, 150, 230, 277, 226, 653, 654, 655, 656, 657, 658, 659] (by decide +kernel) (by decide +kernel)
set_option maxRecDepth 20000 in
theorem wsL_law_g0_10 : GoodIn lw_tbl (((wsL_law0).drop 400).take 40) := goodIn_r _ [660, 661, 662, 759, 760, 761, 762, 731, 733, 31, 734, 93, 271, 273, 275, 765, 766, 767, 768, 769, 770, 771, 772, 773, 157, 775, 777, 34, 778, 779, 781, 35, 782, 679, 680, 681, 682, 91, 784, 785] (by decide +kernel) (by decide +kernel)
set_option maxRecDepth 20000 in
theorem wsL_law_g0_11 : GoodIn lw_tbl (((wsL_law0).drop 440).take 40) := goodIn_r _ [786, 787, 788, 720, 721, 722, 699, 789, 790, 791, 792, 793, 794, 795, 796, 797, 798, 255, 719, 723, 724, 725, 726, 800, 801, 802, 803, 671, 673, 22, 674, 234, 675, 676, 677, 678, 804, 805, 806, 807] (by decide +kernel) (by decide +kernel)
set_option maxRecDepth 20000 in
theorem wsL_law_g0_12 : GoodIn lw_tbl (((wsL_law0).drop 480).take 40) := goodIn_r _ [808, 809, 810, 811, 812, 705, 815, 816, 817, 818, 687, 689, 24, 690, 88, 97, 100, 161, 691, 692, 693, 694, 695, 697, 25, 698, 821, 822, 823, 824, 826, 827, 828, 829, 830, 832, 36, 833, 834, 836] (by decide +kernel) (by decide +kernel)
set_option maxRecDepth 20000 in
theorem wsL_law_g0_13 : GoodIn lw_tbl (((wsL_law0).drop 520).take 40) := goodIn_r _ [37, 837, 838, 839, 840, 841, 842, 843, 845, 38, 846, 847, 848, 849, 850, 851, 852, 853, 854, 855, 857, 39, 858, 859, 860, 861, 862, 863, 864, 865, 866, 867, 90, 155, 868, 869, 870, 871, 872, 873] (by decide +kernel) (by decide +kernel)
set_option maxRecDepth 20000 in
theorem wsL_law_g0_14 : GoodIn lw_tbl (((wsL_law0).drop 560).take 40) := goodIn_r _ [874, 875, 876, 877, 878, 879, 882, 883, 884, 885, 886, 887, 888, 889, 890, 891, 892, 893, 894, 739, 741, 33, 742, 183, 185, 644, 645, 646, 647, 648, 153, 663, 664, 665, 666, 667, 669, 21, 670, 683] (by decide +kernel) (by decide +kernel)
set_option maxRecDepth 20000 in
theorem wsL_law_g0_15 : GoodIn lw_tbl (((wsL_law0).drop 600).take 40) := goodIn_r _ [685, 23, 686, 700, 702, 26, 703, 704, 706, 707, 709, 27, 710, 711, 713, 28, 714, 232, 715, 717, 29, 718, 727, 729, 30, 730, 735, 737, 32, 738, 897, 898, 899, 900, 901, 902, 903, 905, 906, 907] (by decide +kernel) (by decide +kernel)
set_option maxRecDepth 20000 in
theorem wsL_law_g0_16 : GoodIn lw_tbl (((wsL_law0).drop 640).take 40) := goodIn_r _ [908, 909, 910, 911, 913, 914, 915, 916, 917, 918, 919, 920, 922, 923, 924, 942, 925, 926, 927, 928, 929, 930, 931, 932, 934, 935, 936, 937, 938, 939, 940, 941, 297, 299, 301, 303, 305, 307, 309, 311] (by decide +kernel) (by decide +kernel)
set_option maxRecDepth 20000 in
theorem wsL_law_g0_17 : GoodIn lw_tbl ((wsL_law0).drop 680) := goodIn_r _ [112, 114, 116, 118, 120, 122, 124, 126, 128, 130, 194, 196, 198, 200, 202, 204, 206, 208, 210, 212, 235, 237, 239, 241, 243, 257, 259, 278, 280, 282, 284, 76, 165, 167, 169, 171, 173, 175] (by decide +kernel) (by decide +kernel)
theorem wsL_law_g0 : GoodIn lw_tbl (wsL_law0) := by
  have h := (goodIn_td 0 40 wsL_law_g0_0 (goodIn_td 40 40 wsL_law_g0_1 (goodIn_td 80 40 wsL_law_g0_2 (goodIn_td 120 40 wsL_law_g0_3 (goodIn_td 160 40 wsL_law_g0_4 (goodIn_td 200 40 wsL_law_g0_5 (goodIn_td 240 40 wsL_law_g0_6 (goodIn_td 280 40 wsL_law_g0_7 (goodIn_td 320 40 wsL_law_g0_8 (goodIn_td 360 40 wsL_law_g0_9 (goodIn_td 400 40 wsL_law_g0_10 (goodIn_td 440 40 wsL_law_g0_11 (goodIn_td 480 40 wsL_law_g0_12 (goodIn_td 520 40 wsL_law_g0_13 (goodIn_td 560 40 wsL_law_g0_14 (goodIn_td 600 40 wsL_law_g0_15 (goodIn_td 640 40 wsL_law_g0_16 wsL_law_g0_17)))))))))))))))))
  exact h
theorem wsL_law_in0 : ∀ w ∈ wsL_law0, w ∈ lw_tbl := fun w h => (wsL_law_g0 w h).1

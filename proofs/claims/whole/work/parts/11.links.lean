/-! which field, method or number a link is: printed by wip/whole/gen3.py -/
theorem tf_0_12 : tw_fld 0 12 = some (0, 12, 0, 7, false, 267) := by decide +kernel
theorem tf_0_16 : tw_fld 0 16 = some (0, 16, 0, 8, false, 268) := by decide +kernel
theorem tf_0_22 : tw_fld 0 22 = some (0, 22, 0, 0, false, 260) := by decide +kernel
theorem tf_0_31 : tw_fld 0 31 = some (0, 31, 0, 1, false, 261) := by decide +kernel
theorem tf_0_38 : tw_fld 0 38 = some (0, 38, 0, 2, false, 262) := by decide +kernel
theorem tf_0_45 : tw_fld 0 45 = some (0, 45, 0, 3, false, 263) := by decide +kernel
theorem tf_0_52 : tw_fld 0 52 = some (0, 52, 0, 4, false, 264) := by decide +kernel
theorem tf_0_61 : tw_fld 0 61 = some (0, 61, 0, 5, false, 265) := by decide +kernel
theorem tf_0_68 : tw_fld 0 68 = some (0, 68, 0, 6, false, 266) := by decide +kernel
theorem tf_1_11 : tw_fld 1 11 = some (1, 11, 1, 0, false, 118) := by decide +kernel
theorem tf_1_18 : tw_fld 1 18 = some (1, 18, 1, 1, false, 119) := by decide +kernel
theorem tf_1_37 : tw_fld 1 37 = some (1, 37, 2, 0, true, 91) := by decide +kernel
theorem tf_1_40 : tw_fld 1 40 = some (1, 40, 2, 1, true, 93) := by decide +kernel
theorem tf_1_47 : tw_fld 1 47 = some (1, 47, 2, 2, true, 95) := by decide +kernel
theorem tf_2_9 : tw_fld 2 9 = some (2, 9, 2, 0, false, 90) := by decide +kernel
theorem tf_2_15 : tw_fld 2 15 = some (2, 15, 2, 1, false, 92) := by decide +kernel
theorem tf_2_18 : tw_fld 2 18 = some (2, 18, 2, 2, false, 94) := by decide +kernel
theorem tf_2_21 : tw_fld 2 21 = some (2, 21, 2, 3, false, 96) := by decide +kernel
theorem tf_2_24 : tw_fld 2 24 = some (2, 24, 2, 4, false, 97) := by decide +kernel
theorem tf_2_27 : tw_fld 2 27 = some (2, 27, 2, 5, false, 98) := by decide +kernel
theorem tf_2_31 : tw_fld 2 31 = some (2, 31, 2, 6, false, 99) := by decide +kernel
theorem tf_2_34 : tw_fld 2 34 = some (2, 34, 2, 7, false, 100) := by decide +kernel
theorem tf_3_9 : tw_fld 3 9 = some (3, 9, 3, 0, false, 131) := by decide +kernel
theorem tf_3_19 : tw_fld 3 19 = some (3, 19, 3, 1, false, 132) := by decide +kernel
theorem tf_4_9 : tw_fld 4 9 = some (4, 9, 4, 6, false, 151) := by decide +kernel
theorem tf_4_15 : tw_fld 4 15 = some (4, 15, 4, 7, false, 152) := by decide +kernel
theorem tf_4_18 : tw_fld 4 18 = some (4, 18, 4, 0, false, 145) := by decide +kernel
theorem tf_4_22 : tw_fld 4 22 = some (4, 22, 4, 1, false, 146) := by decide +kernel
theorem tf_4_31 : tw_fld 4 31 = some (4, 31, 4, 5, false, 150) := by decide +kernel
theorem tf_4_41 : tw_fld 4 41 = some (4, 41, 4, 2, false, 147) := by decide +kernel
theorem tf_4_69 : tw_fld 4 69 = some (4, 69, 4, 3, false, 148) := by decide +kernel
theorem tf_4_76 : tw_fld 4 76 = some (4, 76, 4, 4, false, 149) := by decide +kernel
theorem tf_5_9 : tw_fld 5 9 = some (5, 9, 5, 0, false, 176) := by decide +kernel
theorem tf_5_15 : tw_fld 5 15 = some (5, 15, 5, 1, false, 177) := by decide +kernel
theorem tf_5_19 : tw_fld 5 19 = some (5, 19, 5, 2, false, 178) := by decide +kernel
theorem tf_5_23 : tw_fld 5 23 = some (5, 23, 5, 3, false, 179) := by decide +kernel
theorem tf_6_9 : tw_fld 6 9 = some (6, 9, 6, 0, false, 196) := by decide +kernel
theorem tf_6_15 : tw_fld 6 15 = some (6, 15, 6, 1, false, 197) := by decide +kernel
theorem tf_7_9 : tw_fld 7 9 = some (7, 9, 7, 0, false, 209) := by decide +kernel
theorem tf_7_15 : tw_fld 7 15 = some (7, 15, 7, 1, false, 210) := by decide +kernel
theorem tf_7_18 : tw_fld 7 18 = some (7, 18, 7, 2, false, 211) := by decide +kernel
theorem tf_7_21 : tw_fld 7 21 = some (7, 21, 7, 3, false, 212) := by decide +kernel
theorem tf_8_9 : tw_fld 8 9 = some (8, 9, 8, 0, false, 228) := by decide +kernel
theorem tf_8_15 : tw_fld 8 15 = some (8, 15, 8, 1, false, 229) := by decide +kernel
theorem tf_9_9 : tw_fld 9 9 = some (9, 9, 9, 0, false, 241) := by decide +kernel
theorem tf_9_15 : tw_fld 9 15 = some (9, 15, 9, 1, false, 242) := by decide +kernel
theorem tf_9_24 : tw_fld 9 24 = some (9, 24, 9, 2, false, 243) := by decide +kernel
theorem tf_9_50 : tw_fld 9 50 = some (9, 50, 9, 3, false, 244) := by decide +kernel
theorem tf_9_56 : tw_fld 9 56 = some (9, 56, 9, 4, false, 245) := by decide +kernel
theorem tf_9_60 : tw_fld 9 60 = some (9, 60, 9, 5, false, 246) := by decide +kernel
theorem tf_10_7 : tw_fld 10 7 = some (10, 7, 10, 1, false, 774) := by decide +kernel
theorem tf_10_13 : tw_fld 10 13 = some (10, 13, 10, 6, false, 779) := by decide +kernel
theorem tf_10_16 : tw_fld 10 16 = some (10, 16, 10, 7, false, 780) := by decide +kernel
theorem tf_10_19 : tw_fld 10 19 = some (10, 19, 10, 8, false, 781) := by decide +kernel
theorem tf_10_22 : tw_fld 10 22 = some (10, 22, 10, 9, false, 782) := by decide +kernel
theorem tf_10_25 : tw_fld 10 25 = some (10, 25, 10, 10, false, 783) := by decide +kernel
theorem tf_10_28 : tw_fld 10 28 = some (10, 28, 10, 12, false, 785) := by decide +kernel
theorem tf_10_31 : tw_fld 10 31 = some (10, 31, 10, 13, false, 786) := by decide +kernel
theorem tf_10_34 : tw_fld 10 34 = some (10, 34, 10, 14, false, 787) := by decide +kernel
theorem tf_10_37 : tw_fld 10 37 = some (10, 37, 10, 15, false, 788) := by decide +kernel
theorem tf_10_40 : tw_fld 10 40 = some (10, 40, 10, 16, false, 789) := by decide +kernel
theorem tf_10_43 : tw_fld 10 43 = some (10, 43, 10, 17, false, 790) := by decide +kernel
theorem tf_10_47 : tw_fld 10 47 = some (10, 47, 10, 18, false, 791) := by decide +kernel
theorem tf_10_50 : tw_fld 10 50 = some (10, 50, 10, 19, false, 792) := by decide +kernel
theorem tf_10_53 : tw_fld 10 53 = some (10, 53, 10, 21, false, 794) := by decide +kernel
theorem tf_10_56 : tw_fld 10 56 = some (10, 56, 10, 22, false, 795) := by decide +kernel
theorem tf_10_59 : tw_fld 10 59 = some (10, 59, 10, 24, false, 797) := by decide +kernel
theorem tf_10_62 : tw_fld 10 62 = some (10, 62, 10, 26, false, 799) := by decide +kernel
theorem tf_10_65 : tw_fld 10 65 = some (10, 65, 10, 27, false, 800) := by decide +kernel
theorem tf_10_68 : tw_fld 10 68 = some (10, 68, 10, 28, false, 801) := by decide +kernel
theorem tf_10_71 : tw_fld 10 71 = some (10, 71, 10, 34, false, 807) := by decide +kernel
theorem tf_10_74 : tw_fld 10 74 = some (10, 74, 10, 35, false, 808) := by decide +kernel
theorem tf_10_77 : tw_fld 10 77 = some (10, 77, 10, 36, false, 809) := by decide +kernel
theorem tf_10_80 : tw_fld 10 80 = some (10, 80, 10, 37, false, 810) := by decide +kernel
theorem tf_10_83 : tw_fld 10 83 = some (10, 83, 10, 0, false, 773) := by decide +kernel
theorem tf_10_89 : tw_fld 10 89 = some (10, 89, 10, 2, false, 775) := by decide +kernel
theorem tf_10_100 : tw_fld 10 100 = some (10, 100, 10, 29, false, 802) := by decide +kernel
theorem tf_10_103 : tw_fld 10 103 = some (10, 103, 10, 31, false, 804) := by decide +kernel
theorem tf_10_106 : tw_fld 10 106 = some (10, 106, 10, 32, false, 805) := by decide +kernel
theorem tf_10_109 : tw_fld 10 109 = some (10, 109, 10, 30, false, 803) := by decide +kernel
theorem tf_10_123 : tw_fld 10 123 = some (10, 123, 10, 11, false, 784) := by decide +kernel
theorem tf_10_126 : tw_fld 10 126 = some (10, 126, 10, 33, false, 806) := by decide +kernel
theorem tf_10_129 : tw_fld 10 129 = some (10, 129, 10, 38, false, 811) := by decide +kernel
theorem tf_10_132 : tw_fld 10 132 = some (10, 132, 10, 39, false, 812) := by decide +kernel
theorem tf_10_155 : tw_fld 10 155 = some (10, 155, 10, 40, false, 813) := by decide +kernel
theorem tf_10_173 : tw_fld 10 173 = some (10, 173, 10, 3, false, 776) := by decide +kernel
theorem tf_10_176 : tw_fld 10 176 = some (10, 176, 10, 5, false, 778) := by decide +kernel
theorem tf_10_179 : tw_fld 10 179 = some (10, 179, 10, 4, false, 777) := by decide +kernel
theorem tf_10_185 : tw_fld 10 185 = some (10, 185, 10, 20, false, 793) := by decide +kernel
theorem tf_10_218 : tw_fld 10 218 = some (10, 218, 10, 23, false, 796) := by decide +kernel
theorem tf_10_225 : tw_fld 10 225 = some (10, 225, 10, 25, false, 798) := by decide +kernel
theorem trf_0_0 : tw_rf 0 0 = true := rfl
theorem trf_0_1 : tw_rf 0 1 = true := rfl
theorem trf_0_2 : tw_rf 0 2 = true := rfl
theorem trf_0_3 : tw_rf 0 3 = true := rfl
theorem trf_0_4 : tw_rf 0 4 = true := rfl
theorem trf_0_5 : tw_rf 0 5 = true := rfl
theorem trf_0_6 : tw_rf 0 6 = true := rfl
theorem trf_0_7 : tw_rf 0 7 = true := rfl
theorem trf_0_8 : tw_rf 0 8 = true := rfl
theorem trf_1_0 : tw_rf 1 0 = true := rfl
theorem trf_1_1 : tw_rf 1 1 = false := rfl
theorem trf_2_0 : tw_rf 2 0 = false := rfl
theorem trf_2_1 : tw_rf 2 1 = false := rfl
theorem trf_2_2 : tw_rf 2 2 = false := rfl
theorem trf_2_3 : tw_rf 2 3 = false := rfl
theorem trf_2_4 : tw_rf 2 4 = false := rfl
theorem trf_2_5 : tw_rf 2 5 = false := rfl
theorem trf_2_6 : tw_rf 2 6 = false := rfl
theorem trf_2_7 : tw_rf 2 7 = false := rfl
theorem trf_3_0 : tw_rf 3 0 = true := rfl
theorem trf_3_1 : tw_rf 3 1 = false := rfl
theorem trf_4_0 : tw_rf 4 0 = true := rfl
theorem trf_4_1 : tw_rf 4 1 = true := rfl
theorem trf_4_2 : tw_rf 4 2 = false := rfl
theorem trf_4_3 : tw_rf 4 3 = false := rfl
theorem trf_4_4 : tw_rf 4 4 = false := rfl
theorem trf_4_5 : tw_rf 4 5 = false := rfl
theorem trf_4_6 : tw_rf 4 6 = false := rfl
theorem trf_4_7 : tw_rf 4 7 = false := rfl
theorem trf_5_0 : tw_rf 5 0 = true := rfl
theorem trf_5_1 : tw_rf 5 1 = true := rfl
theorem trf_5_2 : tw_rf 5 2 = false := rfl
theorem trf_5_3 : tw_rf 5 3 = false := rfl
theorem trf_6_0 : tw_rf 6 0 = true := rfl
theorem trf_6_1 : tw_rf 6 1 = false := rfl
theorem trf_7_0 : tw_rf 7 0 = true := rfl
theorem trf_7_1 : tw_rf 7 1 = true := rfl
theorem trf_7_2 : tw_rf 7 2 = true := rfl
theorem trf_7_3 : tw_rf 7 3 = false := rfl
theorem trf_8_0 : tw_rf 8 0 = true := rfl
theorem trf_8_1 : tw_rf 8 1 = true := rfl
theorem trf_9_0 : tw_rf 9 0 = true := rfl
theorem trf_9_1 : tw_rf 9 1 = true := rfl
theorem trf_9_2 : tw_rf 9 2 = false := rfl
theorem trf_9_3 : tw_rf 9 3 = false := rfl
theorem trf_9_4 : tw_rf 9 4 = false := rfl
theorem trf_9_5 : tw_rf 9 5 = false := rfl
theorem trf_10_0 : tw_rf 10 0 = false := rfl
theorem trf_10_1 : tw_rf 10 1 = true := rfl
theorem trf_10_2 : tw_rf 10 2 = false := rfl
theorem trf_10_3 : tw_rf 10 3 = false := rfl
theorem trf_10_4 : tw_rf 10 4 = false := rfl
theorem trf_10_5 : tw_rf 10 5 = false := rfl
theorem trf_10_6 : tw_rf 10 6 = true := rfl
theorem trf_10_7 : tw_rf 10 7 = true := rfl
theorem trf_10_8 : tw_rf 10 8 = true := rfl
theorem trf_10_9 : tw_rf 10 9 = true := rfl
theorem trf_10_10 : tw_rf 10 10 = true := rfl
theorem trf_10_11 : tw_rf 10 11 = false := rfl
theorem trf_10_12 : tw_rf 10 12 = true := rfl
theorem trf_10_13 : tw_rf 10 13 = true := rfl
theorem trf_10_14 : tw_rf 10 14 = true := rfl
theorem trf_10_15 : tw_rf 10 15 = true := rfl
theorem trf_10_16 : tw_rf 10 16 = true := rfl
theorem trf_10_17 : tw_rf 10 17 = true := rfl
theorem trf_10_18 : tw_rf 10 18 = true := rfl
theorem trf_10_19 : tw_rf 10 19 = true := rfl
theorem trf_10_20 : tw_rf 10 20 = false := rfl
theorem trf_10_21 : tw_rf 10 21 = true := rfl
theorem trf_10_22 : tw_rf 10 22 = true := rfl
theorem trf_10_23 : tw_rf 10 23 = false := rfl
theorem trf_10_24 : tw_rf 10 24 = true := rfl
theorem trf_10_25 : tw_rf 10 25 = false := rfl
theorem trf_10_26 : tw_rf 10 26 = true := rfl
theorem trf_10_27 : tw_rf 10 27 = true := rfl
theorem trf_10_28 : tw_rf 10 28 = true := rfl
theorem trf_10_29 : tw_rf 10 29 = false := rfl
theorem trf_10_30 : tw_rf 10 30 = false := rfl
theorem trf_10_31 : tw_rf 10 31 = false := rfl
theorem trf_10_32 : tw_rf 10 32 = false := rfl
theorem trf_10_33 : tw_rf 10 33 = false := rfl
theorem trf_10_34 : tw_rf 10 34 = true := rfl
theorem trf_10_35 : tw_rf 10 35 = true := rfl
theorem trf_10_36 : tw_rf 10 36 = true := rfl
theorem trf_10_37 : tw_rf 10 37 = true := rfl
theorem trf_10_38 : tw_rf 10 38 = false := rfl
theorem trf_10_39 : tw_rf 10 39 = false := rfl
theorem trf_10_40 : tw_rf 10 40 = false := rfl
theorem tc_0_11 : tw_cal 0 11 = some (0, 11, 2, 35, 0, 79, 80, 58, 0) := rfl
theorem tin_0_11 : tw_oin 0 11 = none := rfl
theorem tc_0_21 : tw_cal 0 21 = some (0, 21, 5, 58, 0, 127, 128, 60, 0) := rfl
theorem tin_0_21 : tw_oin 0 21 = none := rfl
theorem tc_0_28 : tw_cal 0 28 = some (0, 28, 2, 66, 2, 141, 142, 61, 0) := rfl
theorem tin_0_28 : tw_oin 0 28 = none := rfl
theorem tc_0_37 : tw_cal 0 37 = some (0, 37, 5, 88, 0, 172, 173, 62, 0) := rfl
theorem tin_0_37 : tw_oin 0 37 = none := rfl
theorem tc_0_44 : tw_cal 0 44 = some (0, 44, 5, 99, 0, 192, 193, 63, 0) := rfl
theorem tin_0_44 : tw_oin 0 44 = none := rfl
theorem tc_0_51 : tw_cal 0 51 = some (0, 51, 5, 108, 0, 205, 206, 64, 0) := rfl
theorem tin_0_51 : tw_oin 0 51 = none := rfl
theorem tc_0_58 : tw_cal 0 58 = some (0, 58, 2, 116, 2, 224, 225, 65, 0) := rfl
theorem tin_0_58 : tw_oin 0 58 = none := rfl
theorem tc_0_67 : tw_cal 0 67 = some (0, 67, 2, 121, 2, 237, 238, 66, 0) := rfl
theorem tin_0_67 : tw_oin 0 67 = none := rfl
theorem tc_0_72 : tw_cal 0 72 = some (0, 72, 1, 59, 1, 292, 293, 60, 294) := rfl
theorem tc_0_76 : tw_cal 0 76 = some (0, 76, 1, 61, 0, 306, 307, 60, 308) := rfl
theorem tc_0_80 : tw_cal 0 80 = some (0, 80, 1, 60, 0, 310, 311, 60, 312) := rfl
theorem tc_0_83 : tw_cal 0 83 = some (0, 83, 1, 67, 1, 318, 319, 61, 320) := rfl
theorem tc_0_87 : tw_cal 0 87 = some (0, 87, 1, 69, 0, 420, 421, 61, 422) := rfl
theorem tc_0_90 : tw_cal 0 90 = some (0, 90, 1, 25, 0, 424, 426, 57, 16) := rfl
theorem tc_0_93 : tw_cal 0 93 = some (0, 93, 1, 37, 0, 440, 441, 58, 442) := rfl
theorem tc_0_94 : tw_cal 0 94 = some (0, 94, 1, 68, 0, 448, 417, 61, 418) := rfl
theorem tc_0_97 : tw_cal 0 97 = some (0, 97, 1, 39, 1, 453, 454, 58, 455) := rfl
theorem tc_0_101 : tw_cal 0 101 = some (0, 101, 1, 48, 1, 457, 458, 59, 459) := rfl
theorem tc_0_107 : tw_cal 0 107 = some (0, 107, 1, 49, 1, 465, 466, 59, 467) := rfl
theorem tc_0_111 : tw_cal 0 111 = some (0, 111, 1, 24, 0, 473, 475, 57, 18) := rfl
theorem tc_0_115 : tw_cal 0 115 = some (0, 115, 1, 90, 0, 477, 478, 62, 479) := rfl
theorem tc_0_117 : tw_cal 0 117 = some (0, 117, 1, 26, 1, 486, 488, 57, 19) := rfl
theorem tc_0_120 : tw_cal 0 120 = some (0, 120, 1, 28, 2, 494, 496, 57, 20) := rfl
theorem tc_0_124 : tw_cal 0 124 = some (0, 124, 1, 47, 0, 559, 520, 59, 521) := rfl
theorem tc_0_127 : tw_cal 0 127 = some (0, 127, 1, 50, 0, 564, 565, 59, 566) := rfl
theorem tc_0_130 : tw_cal 0 130 = some (0, 130, 1, 94, 1, 572, 503, 62, 504) := rfl
theorem tc_0_133 : tw_cal 0 133 = some (0, 133, 1, 97, 1, 573, 574, 62, 575) := rfl
theorem tc_0_136 : tw_cal 0 136 = some (0, 136, 1, 98, 1, 581, 582, 62, 583) := rfl
theorem tc_0_139 : tw_cal 0 139 = some (0, 139, 1, 95, 1, 498, 499, 62, 500) := rfl
theorem tc_0_142 : tw_cal 0 142 = some (0, 142, 1, 100, 0, 593, 594, 63, 595) := rfl
theorem tc_0_151 : tw_cal 0 151 = some (0, 151, 1, 102, 1, 601, 602, 63, 603) := rfl
theorem tc_0_155 : tw_cal 0 155 = some (0, 155, 1, 101, 0, 605, 606, 63, 607) := rfl
theorem tc_0_156 : tw_cal 0 156 = some (0, 156, 1, 103, 1, 613, 614, 63, 615) := rfl
theorem tc_0_157 : tw_cal 0 157 = some (0, 157, 1, 104, 1, 621, 622, 63, 623) := rfl
theorem tc_0_160 : tw_cal 0 160 = some (0, 160, 1, 105, 1, 634, 635, 63, 636) := rfl
theorem tc_0_163 : tw_cal 0 163 = some (0, 163, 1, 106, 1, 639, 640, 63, 641) := rfl
theorem tc_0_166 : tw_cal 0 166 = some (0, 166, 0, 32, 1, 651, 652, 57, 0) := rfl
theorem tmn_0_166 : tw_mat 0 166 = none := rfl
theorem tc_0_169 : tw_cal 0 169 = some (0, 169, 0, 33, 1, 654, 655, 57, 0) := rfl
theorem tmn_0_169 : tw_mat 0 169 = none := rfl
theorem tc_0_172 : tw_cal 0 172 = some (0, 172, 1, 117, 2, 657, 658, 65, 659) := rfl
theorem tc_0_176 : tw_cal 0 176 = some (0, 176, 1, 110, 0, 701, 702, 64, 703) := rfl
theorem tc_0_177 : tw_cal 0 177 = some (0, 177, 1, 122, 2, 709, 710, 66, 711) := rfl
theorem tc_0_178 : tw_cal 0 178 = some (0, 178, 1, 114, 2, 731, 732, 64, 733) := rfl
theorem tc_0_180 : tw_cal 0 180 = some (0, 180, 0, 34, 1, 739, 740, 57, 0) := rfl
theorem tmn_0_180 : tw_mat 0 180 = none := rfl
theorem tc_0_183 : tw_cal 0 183 = some (0, 183, 1, 30, 3, 742, 744, 57, 31) := rfl
theorem tc_0_187 : tw_cal 0 187 = some (0, 187, 1, 27, 0, 746, 748, 57, 32) := rfl
theorem tc_0_190 : tw_cal 0 190 = some (0, 190, 1, 29, 3, 755, 757, 57, 33) := rfl
theorem tc_0_193 : tw_cal 0 193 = some (0, 193, 0, 31, 2, 750, 544, 57, 0) := rfl
theorem tmn_0_193 : tw_mat 0 193 = none := rfl
theorem tc_0_196 : tw_cal 0 196 = some (0, 196, 1, 91, 0, 763, 764, 62, 765) := rfl
theorem tc_0_199 : tw_cal 0 199 = some (0, 199, 1, 89, 0, 428, 429, 62, 430) := rfl
theorem tc_0_200 : tw_cal 0 200 = some (0, 200, 1, 40, 0, 432, 433, 58, 434) := rfl
theorem tc_0_203 : tw_cal 0 203 = some (0, 203, 1, 92, 1, 490, 491, 62, 492) := rfl
theorem tc_0_206 : tw_cal 0 206 = some (0, 206, 1, 41, 3, 506, 507, 58, 508) := rfl
theorem tc_0_210 : tw_cal 0 210 = some (0, 210, 1, 93, 2, 550, 551, 62, 552) := rfl
theorem tc_1_17 : tw_cal 1 17 = some (1, 17, 5, 44, 0, 86, 87, 59, 0) := rfl
theorem tin_1_17 : tw_oin 1 17 = none := rfl
theorem tc_1_22 : tw_cal 1 22 = some (1, 22, 1, 45, 5, 380, 381, 59, 382) := rfl
theorem tc_1_26 : tw_cal 1 26 = some (1, 26, 1, 46, 0, 436, 437, 59, 438) := rfl
theorem tc_1_29 : tw_cal 1 29 = some (1, 29, 1, 42, 4, 510, 512, 58, 21) := rfl
theorem tc_1_33 : tw_cal 1 33 = some (1, 33, 1, 43, 1, 514, 516, 58, 22) := rfl
theorem tc_1_43 : tw_cal 1 43 = some (1, 43, 1, 53, 1, 523, 524, 59, 525) := rfl
theorem tc_1_50 : tw_cal 1 50 = some (1, 50, 1, 52, 2, 527, 528, 59, 529) := rfl
theorem tc_1_54 : tw_cal 1 54 = some (1, 54, 1, 54, 1, 531, 532, 59, 533) := rfl
theorem tc_1_57 : tw_cal 1 57 = some (1, 57, 1, 55, 3, 535, 536, 59, 537) := rfl
theorem tc_1_61 : tw_cal 1 61 = some (1, 61, 1, 51, 2, 539, 540, 59, 541) := rfl
theorem tc_1_65 : tw_cal 1 65 = some (1, 65, 1, 39, 1, 518, 454, 58, 455) := rfl
theorem tc_1_69 : tw_cal 1 69 = some (1, 69, 1, 47, 0, 519, 520, 59, 521) := rfl
theorem tc_2_37 : tw_cal 2 37 = some (2, 37, 1, 56, 0, 461, 463, 59, 17) := rfl
theorem tc_2_41 : tw_cal 2 41 = some (2, 41, 3, 31, 2, 543, 544, 57, 0) := rfl
theorem tmn_2_41 : tw_mat 2 41 = none := rfl
theorem tc_2_45 : tw_cal 2 45 = some (2, 45, 1, 57, 2, 546, 548, 59, 23) := rfl
theorem tc_3_15 : tw_cal 3 15 = some (3, 15, 0, 64, 1, 296, 297, 60, 0) := rfl
theorem tmn_3_15 : tw_mat 3 15 = none := rfl
theorem tc_3_23 : tw_cal 3 23 = some (3, 23, 0, 65, 2, 299, 300, 60, 0) := rfl
theorem tmn_3_23 : tw_mat 3 23 = none := rfl
theorem tc_3_27 : tw_cal 3 27 = some (3, 27, 1, 62, 1, 334, 335, 60, 336) := rfl
theorem tc_4_26 : tw_cal 4 26 = some (4, 26, 1, 36, 0, 322, 323, 58, 324) := rfl
theorem tc_4_34 : tw_cal 4 34 = some (4, 34, 1, 83, 0, 326, 328, 61, 0) := rfl
theorem tc_4_37 : tw_cal 4 37 = some (4, 37, 1, 70, 1, 349, 351, 61, 2) := rfl
theorem tc_4_44 : tw_cal 4 44 = some (4, 44, 1, 81, 0, 384, 386, 61, 8) := rfl
theorem tc_4_48 : tw_cal 4 48 = some (4, 48, 1, 68, 0, 416, 417, 61, 418) := rfl
theorem tc_4_51 : tw_cal 4 51 = some (4, 51, 1, 73, 1, 353, 355, 61, 3) := rfl
theorem tc_4_54 : tw_cal 4 54 = some (4, 54, 1, 85, 0, 404, 406, 61, 13) := rfl
theorem tc_4_58 : tw_cal 4 58 = some (4, 58, 1, 72, 2, 408, 410, 61, 14) := rfl
theorem tc_4_62 : tw_cal 4 62 = some (4, 62, 1, 71, 2, 412, 414, 61, 15) := rfl
theorem tc_4_65 : tw_cal 4 65 = some (4, 65, 1, 80, 5, 372, 374, 61, 7) := rfl
theorem tc_4_72 : tw_cal 4 72 = some (4, 72, 1, 82, 1, 392, 394, 61, 10) := rfl
theorem tc_4_79 : tw_cal 4 79 = some (4, 79, 1, 74, 1, 357, 359, 61, 4) := rfl
theorem tc_4_82 : tw_cal 4 82 = some (4, 82, 1, 75, 1, 361, 363, 61, 5) := rfl
theorem tc_4_85 : tw_cal 4 85 = some (4, 85, 1, 76, 0, 365, 367, 61, 6) := rfl
theorem tc_4_88 : tw_cal 4 88 = some (4, 88, 1, 77, 1, 388, 390, 61, 9) := rfl
theorem tc_4_91 : tw_cal 4 91 = some (4, 91, 1, 78, 1, 396, 398, 61, 11) := rfl
theorem tc_4_94 : tw_cal 4 94 = some (4, 94, 1, 79, 1, 400, 402, 61, 12) := rfl
theorem tc_4_97 : tw_cal 4 97 = some (4, 97, 0, 87, 1, 369, 370, 61, 0) := rfl
theorem tmn_4_97 : tw_mat 4 97 = none := rfl
theorem tc_4_100 : tw_cal 4 100 = some (4, 100, 1, 38, 5, 376, 377, 58, 378) := rfl
theorem tc_4_103 : tw_cal 4 103 = some (4, 103, 1, 63, 1, 330, 331, 60, 332) := rfl
theorem tc_4_108 : tw_cal 4 108 = some (4, 108, 1, 62, 1, 338, 335, 60, 336) := rfl
theorem tc_4_111 : tw_cal 4 111 = some (4, 111, 0, 86, 1, 339, 340, 61, 0) := rfl
theorem tmn_4_111 : tw_mat 4 111 = none := rfl
theorem tc_4_114 : tw_cal 4 114 = some (4, 114, 1, 84, 0, 342, 344, 61, 1) := rfl
theorem tc_5_26 : tw_cal 5 26 = some (5, 26, 1, 92, 1, 554, 491, 62, 492) := rfl
theorem tc_5_30 : tw_cal 5 30 = some (5, 30, 1, 94, 1, 502, 503, 62, 504) := rfl
theorem tc_5_33 : tw_cal 5 33 = some (5, 33, 3, 31, 2, 674, 544, 57, 0) := rfl
theorem tmn_5_33 : tw_mat 5 33 = none := rfl
theorem tc_6_19 : tw_cal 6 19 = some (6, 19, 1, 107, 2, 625, 627, 63, 24) := rfl
theorem tc_6_24 : tw_cal 6 24 = some (6, 24, 1, 103, 1, 629, 614, 63, 615) := rfl
theorem tc_7_25 : tw_cal 7 25 = some (7, 25, 1, 115, 3, 687, 689, 64, 27) := rfl
theorem tc_7_29 : tw_cal 7 29 = some (7, 29, 1, 111, 0, 691, 676, 64, 677) := rfl
theorem tc_8_19 : tw_cal 8 19 = some (8, 19, 1, 109, 0, 661, 662, 64, 663) := rfl
theorem tc_8_24 : tw_cal 8 24 = some (8, 24, 1, 118, 2, 665, 667, 65, 25) := rfl
theorem tc_8_28 : tw_cal 8 28 = some (8, 28, 1, 111, 0, 675, 676, 64, 677) := rfl
theorem tc_8_32 : tw_cal 8 32 = some (8, 32, 1, 119, 3, 679, 681, 65, 26) := rfl
theorem tc_8_36 : tw_cal 8 36 = some (8, 36, 1, 90, 0, 669, 478, 62, 479) := rfl
theorem tc_8_42 : tw_cal 8 42 = some (8, 42, 1, 96, 2, 670, 671, 62, 672) := rfl
theorem tc_8_45 : tw_cal 8 45 = some (8, 45, 1, 113, 2, 683, 684, 64, 685) := rfl
theorem tc_8_49 : tw_cal 8 49 = some (8, 49, 1, 94, 1, 692, 503, 62, 504) := rfl
theorem tc_8_53 : tw_cal 8 53 = some (8, 53, 1, 120, 3, 693, 695, 65, 28) := rfl
theorem tc_8_56 : tw_cal 8 56 = some (8, 56, 1, 112, 2, 697, 698, 64, 699) := rfl
theorem tc_9_19 : tw_cal 9 19 = some (9, 19, 1, 109, 0, 713, 662, 64, 663) := rfl
theorem tc_9_28 : tw_cal 9 28 = some (9, 28, 1, 90, 0, 714, 478, 62, 479) := rfl
theorem tc_9_34 : tw_cal 9 34 = some (9, 34, 1, 111, 0, 715, 676, 64, 677) := rfl
theorem tc_9_38 : tw_cal 9 38 = some (9, 38, 1, 96, 2, 716, 671, 62, 672) := rfl
theorem tc_9_42 : tw_cal 9 42 = some (9, 42, 1, 123, 3, 717, 719, 66, 29) := rfl
theorem tc_9_46 : tw_cal 9 46 = some (9, 46, 1, 124, 2, 722, 724, 66, 30) := rfl
theorem tc_9_53 : tw_cal 9 53 = some (9, 53, 1, 113, 2, 721, 684, 64, 685) := rfl
theorem tc_9_63 : tw_cal 9 63 = some (9, 63, 1, 112, 2, 726, 698, 64, 699) := rfl
theorem tc_10_96 : tw_cal 10 96 = some (10, 96, 0, 126, 3, 924, 925, 67, 0) := rfl
theorem tmn_10_96 : tw_mat 10 96 = none := rfl
theorem tc_10_112 : tw_cal 10 112 = some (10, 112, 1, 129, 1, 918, 920, 67, 36) := rfl
theorem tc_10_120 : tw_cal 10 120 = some (10, 120, 0, 130, 1, 929, 930, 67, 0) := rfl
theorem tmn_10_120 : tw_mat 10 120 = none := rfl
theorem tc_10_135 : tw_cal 10 135 = some (10, 135, 1, 132, 1, 936, 938, 67, 38) := rfl
theorem tc_10_138 : tw_cal 10 138 = some (10, 138, 1, 136, 0, 940, 942, 67, 39) := rfl
theorem tc_10_141 : tw_cal 10 141 = some (10, 141, 1, 131, 0, 914, 916, 67, 35) := rfl
theorem tc_10_144 : tw_cal 10 144 = some (10, 144, 1, 134, 4, 944, 946, 67, 40) := rfl
theorem tc_10_148 : tw_cal 10 148 = some (10, 148, 1, 133, 5, 948, 950, 67, 41) := rfl
theorem tc_10_152 : tw_cal 10 152 = some (10, 152, 1, 135, 1, 956, 958, 67, 43) := rfl
theorem tc_10_158 : tw_cal 10 158 = some (10, 158, 1, 137, 0, 932, 934, 67, 37) := rfl
theorem tc_10_162 : tw_cal 10 162 = some (10, 162, 1, 138, 1, 952, 954, 67, 42) := rfl
theorem tc_10_166 : tw_cal 10 166 = some (10, 166, 1, 139, 1, 960, 962, 67, 44) := rfl
theorem tc_10_170 : tw_cal 10 170 = some (10, 170, 1, 140, 0, 910, 912, 67, 34) := rfl
theorem tc_10_183 : tw_cal 10 183 = some (10, 183, 1, 142, 0, 964, 966, 67, 45) := rfl
theorem tc_10_192 : tw_cal 10 192 = some (10, 192, 0, 146, 2, 996, 997, 67, 0) := rfl
theorem tmn_10_192 : tw_mat 10 192 = none := rfl
theorem tc_10_196 : tw_cal 10 196 = some (10, 196, 1, 147, 2, 999, 1001, 67, 48) := rfl
theorem tc_10_200 : tw_cal 10 200 = some (10, 200, 1, 148, 2, 992, 994, 67, 47) := rfl
theorem tc_10_207 : tw_cal 10 207 = some (10, 207, 1, 149, 1, 988, 990, 67, 46) := rfl
theorem tc_10_210 : tw_cal 10 210 = some (10, 210, 1, 153, 1, 1015, 1017, 67, 49) := rfl
theorem tc_10_213 : tw_cal 10 213 = some (10, 213, 1, 155, 1, 1023, 1025, 67, 50) := rfl
theorem tc_10_222 : tw_cal 10 222 = some (10, 222, 1, 160, 1, 1045, 1047, 67, 51) := rfl
theorem tc_10_228 : tw_cal 10 228 = some (10, 228, 1, 164, 3, 1071, 1073, 67, 54) := rfl
theorem tc_10_236 : tw_cal 10 236 = some (10, 236, 1, 165, 2, 1063, 1065, 67, 52) := rfl
theorem tc_10_239 : tw_cal 10 239 = some (10, 239, 1, 166, 3, 1067, 1069, 67, 53) := rfl
theorem tc_10_243 : tw_cal 10 243 = some (10, 243, 1, 170, 1, 1087, 1089, 67, 55) := rfl
theorem tc_11_9 : tw_cal 11 9 = some (11, 9, 2, 0, 0, 71, 72, 57, 0) := rfl
theorem tin_11_9 : tw_oin 11 9 = none := rfl
theorem tc_11_12 : tw_cal 11 12 = some (11, 12, 2, 125, 0, 769, 770, 67, 0) := rfl
theorem tin_11_12 : tw_oin 11 12 = none := rfl
theorem tc_11_15 : tw_cal 11 15 = some (11, 15, 1, 1, 1, 288, 289, 57, 290) := rfl
theorem tc_11_19 : tw_cal 11 19 = some (11, 19, 1, 127, 1, 897, 898, 67, 899) := rfl
theorem tc_11_20 : tw_cal 11 20 = some (11, 20, 1, 2, 0, 302, 303, 57, 304) := rfl
theorem tc_11_24 : tw_cal 11 24 = some (11, 24, 1, 128, 0, 902, 903, 67, 904) := rfl
theorem tc_11_25 : tw_cal 11 25 = some (11, 25, 1, 3, 0, 314, 315, 57, 316) := rfl
theorem tc_11_28 : tw_cal 11 28 = some (11, 28, 1, 141, 0, 906, 907, 67, 908) := rfl
theorem tc_11_29 : tw_cal 11 29 = some (11, 29, 1, 4, 0, 444, 445, 57, 446) := rfl
theorem tc_11_32 : tw_cal 11 32 = some (11, 32, 1, 143, 0, 968, 969, 67, 970) := rfl
theorem tc_11_33 : tw_cal 11 33 = some (11, 33, 1, 5, 3, 449, 450, 57, 451) := rfl
theorem tc_11_37 : tw_cal 11 37 = some (11, 37, 1, 144, 3, 972, 973, 67, 974) := rfl
theorem tc_11_38 : tw_cal 11 38 = some (11, 38, 1, 6, 0, 469, 470, 57, 471) := rfl
theorem tc_11_41 : tw_cal 11 41 = some (11, 41, 1, 145, 0, 978, 979, 67, 980) := rfl
theorem tc_11_42 : tw_cal 11 42 = some (11, 42, 1, 7, 2, 481, 482, 57, 483) := rfl
theorem tc_11_46 : tw_cal 11 46 = some (11, 46, 1, 150, 2, 982, 983, 67, 984) := rfl
theorem tc_11_47 : tw_cal 11 47 = some (11, 47, 1, 8, 1, 555, 556, 57, 557) := rfl
theorem tc_11_51 : tw_cal 11 51 = some (11, 51, 1, 151, 1, 1003, 1004, 67, 1005) := rfl
theorem tc_11_52 : tw_cal 11 52 = some (11, 52, 1, 9, 1, 560, 561, 57, 562) := rfl
theorem tc_11_55 : tw_cal 11 55 = some (11, 55, 1, 152, 1, 1007, 1008, 67, 1009) := rfl
theorem tc_11_56 : tw_cal 11 56 = some (11, 56, 1, 10, 1, 568, 569, 57, 570) := rfl
theorem tc_11_59 : tw_cal 11 59 = some (11, 59, 1, 154, 1, 1011, 1012, 67, 1013) := rfl
theorem tc_11_60 : tw_cal 11 60 = some (11, 60, 1, 11, 1, 577, 578, 57, 579) := rfl
theorem tc_11_63 : tw_cal 11 63 = some (11, 63, 1, 156, 1, 1019, 1020, 67, 1021) := rfl
theorem tc_11_64 : tw_cal 11 64 = some (11, 64, 1, 12, 1, 585, 586, 57, 587) := rfl
theorem tc_11_67 : tw_cal 11 67 = some (11, 67, 1, 157, 1, 1027, 1028, 67, 1029) := rfl
theorem tc_11_68 : tw_cal 11 68 = some (11, 68, 1, 13, 3, 589, 590, 57, 591) := rfl
theorem tc_11_71 : tw_cal 11 71 = some (11, 71, 1, 158, 3, 1031, 1032, 67, 1033) := rfl
theorem tc_11_72 : tw_cal 11 72 = some (11, 72, 1, 14, 1, 609, 610, 57, 611) := rfl
theorem tc_11_75 : tw_cal 11 75 = some (11, 75, 1, 159, 1, 1036, 1037, 67, 1038) := rfl
theorem tc_11_76 : tw_cal 11 76 = some (11, 76, 1, 15, 0, 617, 618, 57, 619) := rfl
theorem tc_11_79 : tw_cal 11 79 = some (11, 79, 1, 161, 0, 1040, 1041, 67, 1042) := rfl
theorem tc_11_80 : tw_cal 11 80 = some (11, 80, 1, 16, 2, 630, 631, 57, 632) := rfl
theorem tc_11_83 : tw_cal 11 83 = some (11, 83, 1, 162, 2, 1049, 1050, 67, 1051) := rfl
theorem tc_11_84 : tw_cal 11 84 = some (11, 84, 1, 17, 1, 643, 644, 57, 645) := rfl
theorem tc_11_87 : tw_cal 11 87 = some (11, 87, 1, 163, 1, 1053, 1054, 67, 1055) := rfl
theorem tc_11_88 : tw_cal 11 88 = some (11, 88, 1, 18, 2, 647, 648, 57, 649) := rfl
theorem tc_11_91 : tw_cal 11 91 = some (11, 91, 1, 167, 2, 1057, 1058, 67, 1059) := rfl
theorem tc_11_92 : tw_cal 11 92 = some (11, 92, 1, 19, 2, 705, 706, 57, 707) := rfl
theorem tc_11_95 : tw_cal 11 95 = some (11, 95, 1, 168, 2, 1075, 1076, 67, 1077) := rfl
theorem tc_11_96 : tw_cal 11 96 = some (11, 96, 1, 20, 2, 727, 728, 57, 729) := rfl
theorem tc_11_99 : tw_cal 11 99 = some (11, 99, 1, 169, 2, 1079, 1080, 67, 1081) := rfl
theorem tc_11_100 : tw_cal 11 100 = some (11, 100, 1, 21, 3, 735, 736, 57, 737) := rfl
theorem tc_11_103 : tw_cal 11 103 = some (11, 103, 1, 171, 3, 1083, 1084, 67, 1085) := rfl
theorem tc_11_104 : tw_cal 11 104 = some (11, 104, 1, 22, 5, 751, 752, 57, 753) := rfl
theorem tc_11_108 : tw_cal 11 108 = some (11, 108, 1, 172, 5, 1091, 1092, 67, 1093) := rfl
theorem tc_11_109 : tw_cal 11 109 = some (11, 109, 1, 23, 1, 759, 760, 57, 761) := rfl
theorem tc_11_112 : tw_cal 11 112 = some (11, 112, 1, 173, 1, 1095, 1096, 67, 1097) := rfl
theorem tn_0_9 : tw_new 0 9 = some (0, 9, 1, 77, 78, 58) := by decide +kernel
theorem tn_0_19 : tw_new 0 19 = some (0, 19, 3, 125, 126, 60) := by decide +kernel
theorem tn_0_26 : tw_new 0 26 = some (0, 26, 4, 139, 140, 61) := by decide +kernel
theorem tn_0_35 : tw_new 0 35 = some (0, 35, 5, 170, 171, 62) := by decide +kernel
theorem tn_0_42 : tw_new 0 42 = some (0, 42, 6, 190, 191, 63) := by decide +kernel
theorem tn_0_49 : tw_new 0 49 = some (0, 49, 7, 203, 204, 64) := by decide +kernel
theorem tn_0_56 : tw_new 0 56 = some (0, 56, 8, 222, 223, 65) := by decide +kernel
theorem tn_0_65 : tw_new 0 65 = some (0, 65, 9, 235, 236, 66) := by decide +kernel
theorem tn_1_9 : tw_new 1 9 = some (1, 9, 2, 83, 85, 59) := by decide +kernel
theorem tn_11_7 : tw_new 11 7 = some (11, 7, 0, 69, 70, 57) := by decide +kernel
theorem tn_11_10 : tw_new 11 10 = some (11, 10, 10, 767, 768, 67) := by decide +kernel
theorem tl_0_116 : tw_ldc 0 116 = some (0, 116, 65535, 485) := by decide +kernel
theorem tl_6_23 : tw_ldc 6 23 = some (6, 23, 65535, 638) := by decide +kernel
theorem tl_10_221 : tw_ldc 10 221 = some (10, 221, 65535, 1044) := by decide +kernel
theorem tl_10_87 : tw_ldl 10 87 = some (10, 87, 255, 901) := by decide +kernel
theorem tl_10_92 : tw_ldl 10 92 = some (10, 92, 48, 922) := by decide +kernel
theorem tl_10_94 : tw_ldl 10 94 = some (10, 94, 57, 923) := by decide +kernel
theorem tl_10_116 : tw_ldl 10 116 = some (10, 116, 97, 927) := by decide +kernel
theorem tl_10_118 : tw_ldl 10 118 = some (10, 118, 112, 928) := by decide +kernel
theorem tl_10_188 : tw_ldl 10 188 = some (10, 188, 8, 976) := by decide +kernel
theorem tl_10_190 : tw_ldl 10 190 = some (10, 190, 4, 977) := by decide +kernel
theorem tl_10_203 : tw_ldl 10 203 = some (10, 203, 65535, 986) := by decide +kernel
theorem tl_10_205 : tw_ldl 10 205 = some (10, 205, 1000, 987) := by decide +kernel
theorem tl_10_216 : tw_ldl 10 216 = some (10, 216, 500, 1035) := by decide +kernel
theorem tl_10_232 : tw_ldl 10 232 = some (10, 232, 15, 1061) := by decide +kernel
theorem tl_10_234 : tw_ldl 10 234 = some (10, 234, 20, 1062) := by decide +kernel
theorem tl_11_13 : tw_ldl 11 13 = some (11, 13, 4294967295, 1099) := by decide +kernel
theorem tm_0_143 : tw_mat 0 143 = some (0, 143, false, 597, 347, 68, 348) := rfl
theorem tm_0_148 : tw_mat 0 148 = some (0, 148, true, 598, 599, 68, 600) := rfl
theorem tm_4_117 : tw_mat 4 117 = some (4, 117, false, 346, 347, 68, 348) := rfl
theorem toi_0 : tw_oin 0 3 = some (0, 3, 74) := by decide +kernel
theorem toi_1 : tw_oin 1 3 = some (1, 3, 82) := by decide +kernel
theorem toi_2 : tw_oin 2 3 = some (2, 3, 89) := by decide +kernel
theorem toi_3 : tw_oin 3 3 = some (3, 3, 130) := by decide +kernel
theorem toi_4 : tw_oin 4 3 = some (4, 3, 144) := by decide +kernel
theorem toi_5 : tw_oin 5 3 = some (5, 3, 175) := by decide +kernel
theorem toi_6 : tw_oin 6 3 = some (6, 3, 195) := by decide +kernel
theorem toi_7 : tw_oin 7 3 = some (7, 3, 208) := by decide +kernel
theorem toi_8 : tw_oin 8 3 = some (8, 3, 227) := by decide +kernel
theorem toi_9 : tw_oin 9 3 = some (9, 3, 240) := by decide +kernel
theorem toi_10 : tw_oin 10 1 = some (10, 1, 772) := by decide +kernel
theorem to_0 : tw_ow 0 = 0 := rfl
theorem tp_0 : tw_lp 0 = [] := rfl
theorem tr_0 : tw_rt 0 = none := rfl
theorem to_1 : tw_ow 1 = 0 := rfl
theorem tp_1 : tw_lp 1 = [1] := rfl
theorem tr_1 : tw_rt 1 = some .int := rfl
theorem to_2 : tw_ow 2 = 0 := rfl
theorem tp_2 : tw_lp 2 = [] := rfl
theorem tr_2 : tw_rt 2 = some .int := rfl
theorem to_3 : tw_ow 3 = 0 := rfl
theorem tp_3 : tw_lp 3 = [] := rfl
theorem tr_3 : tw_rt 3 = some .int := rfl
theorem to_4 : tw_ow 4 = 0 := rfl
theorem tp_4 : tw_lp 4 = [] := rfl
theorem tr_4 : tw_rt 4 = some .int := rfl
theorem to_5 : tw_ow 5 = 0 := rfl
theorem tp_5 : tw_lp 5 = [] := rfl
theorem tr_5 : tw_rt 5 = some .int := rfl
theorem to_6 : tw_ow 6 = 0 := rfl
theorem tp_6 : tw_lp 6 = [] := rfl
theorem tr_6 : tw_rt 6 = some .int := rfl
theorem to_7 : tw_ow 7 = 0 := rfl
theorem tp_7 : tw_lp 7 = [] := rfl
theorem tr_7 : tw_rt 7 = some .int := rfl
theorem to_8 : tw_ow 8 = 0 := rfl
theorem tp_8 : tw_lp 8 = [] := rfl
theorem tr_8 : tw_rt 8 = some .int := rfl
theorem to_9 : tw_ow 9 = 0 := rfl
theorem tp_9 : tw_lp 9 = [] := rfl
theorem tr_9 : tw_rt 9 = some .int := rfl
theorem to_10 : tw_ow 10 = 0 := rfl
theorem tp_10 : tw_lp 10 = [] := rfl
theorem tr_10 : tw_rt 10 = some .int := rfl
theorem to_11 : tw_ow 11 = 0 := rfl
theorem tp_11 : tw_lp 11 = [] := rfl
theorem tr_11 : tw_rt 11 = some .int := rfl
theorem to_12 : tw_ow 12 = 0 := rfl
theorem tp_12 : tw_lp 12 = [] := rfl
theorem tr_12 : tw_rt 12 = some .int := rfl
theorem to_13 : tw_ow 13 = 0 := rfl
theorem tp_13 : tw_lp 13 = [] := rfl
theorem tr_13 : tw_rt 13 = some .int := rfl
theorem to_14 : tw_ow 14 = 0 := rfl
theorem tp_14 : tw_lp 14 = [] := rfl
theorem tr_14 : tw_rt 14 = some .int := rfl
theorem to_15 : tw_ow 15 = 0 := rfl
theorem tp_15 : tw_lp 15 = [] := rfl
theorem tr_15 : tw_rt 15 = some .int := rfl
theorem to_16 : tw_ow 16 = 0 := rfl
theorem tp_16 : tw_lp 16 = [] := rfl
theorem tr_16 : tw_rt 16 = some .int := rfl
theorem to_17 : tw_ow 17 = 0 := rfl
theorem tp_17 : tw_lp 17 = [] := rfl
theorem tr_17 : tw_rt 17 = some .int := rfl
theorem to_18 : tw_ow 18 = 0 := rfl
theorem tp_18 : tw_lp 18 = [] := rfl
theorem tr_18 : tw_rt 18 = some .int := rfl
theorem to_19 : tw_ow 19 = 0 := rfl
theorem tp_19 : tw_lp 19 = [] := rfl
theorem tr_19 : tw_rt 19 = some .int := rfl
theorem to_20 : tw_ow 20 = 0 := rfl
theorem tp_20 : tw_lp 20 = [] := rfl
theorem tr_20 : tw_rt 20 = some .int := rfl
theorem to_21 : tw_ow 21 = 0 := rfl
theorem tp_21 : tw_lp 21 = [] := rfl
theorem tr_21 : tw_rt 21 = some .int := rfl
theorem to_22 : tw_ow 22 = 0 := rfl
theorem tp_22 : tw_lp 22 = [] := rfl
theorem tr_22 : tw_rt 22 = some .int := rfl
theorem to_23 : tw_ow 23 = 0 := rfl
theorem tp_23 : tw_lp 23 = [] := rfl
theorem tr_23 : tw_rt 23 = some .int := rfl
theorem to_24 : tw_ow 24 = 0 := rfl
theorem tp_24 : tw_lp 24 = [] := rfl
theorem tr_24 : tw_rt 24 = some .boolean := rfl
theorem to_25 : tw_ow 25 = 0 := rfl
theorem tp_25 : tw_lp 25 = [] := rfl
theorem tr_25 : tw_rt 25 = none := rfl
theorem to_26 : tw_ow 26 = 0 := rfl
theorem tp_26 : tw_lp 26 = [] := rfl
theorem tr_26 : tw_rt 26 = some .int := rfl
theorem to_27 : tw_ow 27 = 0 := rfl
theorem tp_27 : tw_lp 27 = [] := rfl
theorem tr_27 : tw_rt 27 = some .int := rfl
theorem to_28 : tw_ow 28 = 0 := rfl
theorem tp_28 : tw_lp 28 = [] := rfl
theorem tr_28 : tw_rt 28 = some .int := rfl
theorem to_29 : tw_ow 29 = 0 := rfl
theorem tp_29 : tw_lp 29 = [] := rfl
theorem tr_29 : tw_rt 29 = some .int := rfl
theorem to_30 : tw_ow 30 = 0 := rfl
theorem tp_30 : tw_lp 30 = [] := rfl
theorem tr_30 : tw_rt 30 = some .int := rfl
theorem to_31 : tw_ow 31 = 0 := rfl
theorem tp_31 : tw_lp 31 = [] := rfl
theorem tr_31 : tw_rt 31 = some .int := rfl
theorem to_32 : tw_ow 32 = 0 := rfl
theorem tp_32 : tw_lp 32 = [] := rfl
theorem tr_32 : tw_rt 32 = some .boolean := rfl
theorem to_33 : tw_ow 33 = 0 := rfl
theorem tp_33 : tw_lp 33 = [] := rfl
theorem tr_33 : tw_rt 33 = some .boolean := rfl
theorem to_34 : tw_ow 34 = 0 := rfl
theorem tp_34 : tw_lp 34 = [] := rfl
theorem tr_34 : tw_rt 34 = some .boolean := rfl
theorem to_35 : tw_ow 35 = 1 := rfl
theorem tp_35 : tw_lp 35 = [] := rfl
theorem tr_35 : tw_rt 35 = none := rfl
theorem to_36 : tw_ow 36 = 1 := rfl
theorem tp_36 : tw_lp 36 = [] := rfl
theorem tr_36 : tw_rt 36 = none := rfl
theorem to_37 : tw_ow 37 = 1 := rfl
theorem tp_37 : tw_lp 37 = [] := rfl
theorem tr_37 : tw_rt 37 = some .int := rfl
theorem to_38 : tw_ow 38 = 1 := rfl
theorem tp_38 : tw_lp 38 = [] := rfl
theorem tr_38 : tw_rt 38 = some .int := rfl
theorem to_39 : tw_ow 39 = 1 := rfl
theorem tp_39 : tw_lp 39 = [] := rfl
theorem tr_39 : tw_rt 39 = some (.object tw_R2) := rfl
theorem to_40 : tw_ow 40 = 1 := rfl
theorem tp_40 : tw_lp 40 = [] := rfl
theorem tr_40 : tw_rt 40 = none := rfl
theorem to_41 : tw_ow 41 = 1 := rfl
theorem tp_41 : tw_lp 41 = [] := rfl
theorem tr_41 : tw_rt 41 = some .boolean := rfl
theorem to_42 : tw_ow 42 = 1 := rfl
theorem tp_42 : tw_lp 42 = [] := rfl
theorem tr_42 : tw_rt 42 = none := rfl
theorem to_43 : tw_ow 43 = 1 := rfl
theorem tp_43 : tw_lp 43 = [] := rfl
theorem tr_43 : tw_rt 43 = some .boolean := rfl
theorem to_44 : tw_ow 44 = 2 := rfl
theorem tp_44 : tw_lp 44 = [] := rfl
theorem tr_44 : tw_rt 44 = none := rfl
theorem to_45 : tw_ow 45 = 2 := rfl
theorem tp_45 : tw_lp 45 = [] := rfl
theorem tr_45 : tw_rt 45 = none := rfl
theorem to_46 : tw_ow 46 = 2 := rfl
theorem tp_46 : tw_lp 46 = [] := rfl
theorem tr_46 : tw_rt 46 = none := rfl
theorem to_47 : tw_ow 47 = 2 := rfl
theorem tp_47 : tw_lp 47 = [] := rfl
theorem tr_47 : tw_rt 47 = some .boolean := rfl
theorem to_48 : tw_ow 48 = 2 := rfl
theorem tp_48 : tw_lp 48 = [] := rfl
theorem tr_48 : tw_rt 48 = some .boolean := rfl
theorem to_49 : tw_ow 49 = 2 := rfl
theorem tp_49 : tw_lp 49 = [] := rfl
theorem tr_49 : tw_rt 49 = some .int := rfl
theorem to_50 : tw_ow 50 = 2 := rfl
theorem tp_50 : tw_lp 50 = [] := rfl
theorem tr_50 : tw_rt 50 = some .int := rfl
theorem to_51 : tw_ow 51 = 2 := rfl
theorem tp_51 : tw_lp 51 = [] := rfl
theorem tr_51 : tw_rt 51 = none := rfl
theorem to_52 : tw_ow 52 = 2 := rfl
theorem tp_52 : tw_lp 52 = [] := rfl
theorem tr_52 : tw_rt 52 = none := rfl
theorem to_53 : tw_ow 53 = 2 := rfl
theorem tp_53 : tw_lp 53 = [] := rfl
theorem tr_53 : tw_rt 53 = none := rfl
theorem to_54 : tw_ow 54 = 2 := rfl
theorem tp_54 : tw_lp 54 = [] := rfl
theorem tr_54 : tw_rt 54 = none := rfl
theorem to_55 : tw_ow 55 = 2 := rfl
theorem tp_55 : tw_lp 55 = [] := rfl
theorem tr_55 : tw_rt 55 = none := rfl
theorem to_56 : tw_ow 56 = 2 := rfl
theorem tp_56 : tw_lp 56 = [] := rfl
theorem tr_56 : tw_rt 56 = some .boolean := rfl
theorem to_57 : tw_ow 57 = 2 := rfl
theorem tp_57 : tw_lp 57 = [] := rfl
theorem tr_57 : tw_rt 57 = some .boolean := rfl
theorem to_58 : tw_ow 58 = 3 := rfl
theorem tp_58 : tw_lp 58 = [] := rfl
theorem tr_58 : tw_rt 58 = none := rfl
theorem to_59 : tw_ow 59 = 3 := rfl
theorem tp_59 : tw_lp 59 = [1] := rfl
theorem tr_59 : tw_rt 59 = some .int := rfl
theorem to_60 : tw_ow 60 = 3 := rfl
theorem tp_60 : tw_lp 60 = [] := rfl
theorem tr_60 : tw_rt 60 = none := rfl
theorem to_61 : tw_ow 61 = 3 := rfl
theorem tp_61 : tw_lp 61 = [] := rfl
theorem tr_61 : tw_rt 61 = some .int := rfl
theorem to_62 : tw_ow 62 = 3 := rfl
theorem tp_62 : tw_lp 62 = [] := rfl
theorem tr_62 : tw_rt 62 = some .int := rfl
theorem to_63 : tw_ow 63 = 3 := rfl
theorem tp_63 : tw_lp 63 = [] := rfl
theorem tr_63 : tw_rt 63 = some .int := rfl
theorem to_64 : tw_ow 64 = 3 := rfl
theorem tp_64 : tw_lp 64 = [0] := rfl
theorem tr_64 : tw_rt 64 = some .int := rfl
theorem to_65 : tw_ow 65 = 3 := rfl
theorem tp_65 : tw_lp 65 = [0] := rfl
theorem tr_65 : tw_rt 65 = some .int := rfl
theorem to_66 : tw_ow 66 = 4 := rfl
theorem tp_66 : tw_lp 66 = [] := rfl
theorem tr_66 : tw_rt 66 = none := rfl
theorem to_67 : tw_ow 67 = 4 := rfl
theorem tp_67 : tw_lp 67 = [] := rfl
theorem tr_67 : tw_rt 67 = some .boolean := rfl
theorem to_68 : tw_ow 68 = 4 := rfl
theorem tp_68 : tw_lp 68 = [] := rfl
theorem tr_68 : tw_rt 68 = some .int := rfl
theorem to_69 : tw_ow 69 = 4 := rfl
theorem tp_69 : tw_lp 69 = [] := rfl
theorem tr_69 : tw_rt 69 = some .int := rfl
theorem to_70 : tw_ow 70 = 4 := rfl
theorem tp_70 : tw_lp 70 = [] := rfl
theorem tr_70 : tw_rt 70 = some .int := rfl
theorem to_71 : tw_ow 71 = 4 := rfl
theorem tp_71 : tw_lp 71 = [] := rfl
theorem tr_71 : tw_rt 71 = some .int := rfl
theorem to_72 : tw_ow 72 = 4 := rfl
theorem tp_72 : tw_lp 72 = [] := rfl
theorem tr_72 : tw_rt 72 = some .int := rfl
theorem to_73 : tw_ow 73 = 4 := rfl
theorem tp_73 : tw_lp 73 = [] := rfl
theorem tr_73 : tw_rt 73 = some .int := rfl
theorem to_74 : tw_ow 74 = 4 := rfl
theorem tp_74 : tw_lp 74 = [] := rfl
theorem tr_74 : tw_rt 74 = some .int := rfl
theorem to_75 : tw_ow 75 = 4 := rfl
theorem tp_75 : tw_lp 75 = [] := rfl
theorem tr_75 : tw_rt 75 = some .int := rfl
theorem to_76 : tw_ow 76 = 4 := rfl
theorem tp_76 : tw_lp 76 = [] := rfl
theorem tr_76 : tw_rt 76 = some .int := rfl
theorem to_77 : tw_ow 77 = 4 := rfl
theorem tp_77 : tw_lp 77 = [] := rfl
theorem tr_77 : tw_rt 77 = some .int := rfl
theorem to_78 : tw_ow 78 = 4 := rfl
theorem tp_78 : tw_lp 78 = [] := rfl
theorem tr_78 : tw_rt 78 = some .int := rfl
theorem to_79 : tw_ow 79 = 4 := rfl
theorem tp_79 : tw_lp 79 = [] := rfl
theorem tr_79 : tw_rt 79 = some .int := rfl
theorem to_80 : tw_ow 80 = 4 := rfl
theorem tp_80 : tw_lp 80 = [] := rfl
theorem tr_80 : tw_rt 80 = some .int := rfl
theorem to_81 : tw_ow 81 = 4 := rfl
theorem tp_81 : tw_lp 81 = [] := rfl
theorem tr_81 : tw_rt 81 = some .int := rfl
theorem to_82 : tw_ow 82 = 4 := rfl
theorem tp_82 : tw_lp 82 = [] := rfl
theorem tr_82 : tw_rt 82 = some .boolean := rfl
theorem to_83 : tw_ow 83 = 4 := rfl
theorem tp_83 : tw_lp 83 = [] := rfl
theorem tr_83 : tw_rt 83 = none := rfl
theorem to_84 : tw_ow 84 = 4 := rfl
theorem tp_84 : tw_lp 84 = [] := rfl
theorem tr_84 : tw_rt 84 = none := rfl
theorem to_85 : tw_ow 85 = 4 := rfl
theorem tp_85 : tw_lp 85 = [] := rfl
theorem tr_85 : tw_rt 85 = some .boolean := rfl
theorem to_86 : tw_ow 86 = 4 := rfl
theorem tp_86 : tw_lp 86 = [] := rfl
theorem tr_86 : tw_rt 86 = some .boolean := rfl
theorem to_87 : tw_ow 87 = 4 := rfl
theorem tp_87 : tw_lp 87 = [] := rfl
theorem tr_87 : tw_rt 87 = some .int := rfl
theorem to_88 : tw_ow 88 = 5 := rfl
theorem tp_88 : tw_lp 88 = [] := rfl
theorem tr_88 : tw_rt 88 = none := rfl
theorem to_89 : tw_ow 89 = 5 := rfl
theorem tp_89 : tw_lp 89 = [] := rfl
theorem tr_89 : tw_rt 89 = none := rfl
theorem to_90 : tw_ow 90 = 5 := rfl
theorem tp_90 : tw_lp 90 = [] := rfl
theorem tr_90 : tw_rt 90 = some .int := rfl
theorem to_91 : tw_ow 91 = 5 := rfl
theorem tp_91 : tw_lp 91 = [] := rfl
theorem tr_91 : tw_rt 91 = some .int := rfl
theorem to_92 : tw_ow 92 = 5 := rfl
theorem tp_92 : tw_lp 92 = [] := rfl
theorem tr_92 : tw_rt 92 = some .boolean := rfl
theorem to_93 : tw_ow 93 = 5 := rfl
theorem tp_93 : tw_lp 93 = [] := rfl
theorem tr_93 : tw_rt 93 = none := rfl
theorem to_94 : tw_ow 94 = 5 := rfl
theorem tp_94 : tw_lp 94 = [] := rfl
theorem tr_94 : tw_rt 94 = some .boolean := rfl
theorem to_95 : tw_ow 95 = 5 := rfl
theorem tp_95 : tw_lp 95 = [] := rfl
theorem tr_95 : tw_rt 95 = some .int := rfl
theorem to_96 : tw_ow 96 = 5 := rfl
theorem tp_96 : tw_lp 96 = [] := rfl
theorem tr_96 : tw_rt 96 = some .int := rfl
theorem to_97 : tw_ow 97 = 5 := rfl
theorem tp_97 : tw_lp 97 = [] := rfl
theorem tr_97 : tw_rt 97 = some .boolean := rfl
theorem to_98 : tw_ow 98 = 5 := rfl
theorem tp_98 : tw_lp 98 = [] := rfl
theorem tr_98 : tw_rt 98 = some .int := rfl
theorem to_99 : tw_ow 99 = 6 := rfl
theorem tp_99 : tw_lp 99 = [] := rfl
theorem tr_99 : tw_rt 99 = none := rfl
theorem to_100 : tw_ow 100 = 6 := rfl
theorem tp_100 : tw_lp 100 = [] := rfl
theorem tr_100 : tw_rt 100 = none := rfl
theorem to_101 : tw_ow 101 = 6 := rfl
theorem tp_101 : tw_lp 101 = [] := rfl
theorem tr_101 : tw_rt 101 = some .int := rfl
theorem to_102 : tw_ow 102 = 6 := rfl
theorem tp_102 : tw_lp 102 = [] := rfl
theorem tr_102 : tw_rt 102 = none := rfl
theorem to_103 : tw_ow 103 = 6 := rfl
theorem tp_103 : tw_lp 103 = [] := rfl
theorem tr_103 : tw_rt 103 = some .int := rfl
theorem to_104 : tw_ow 104 = 6 := rfl
theorem tp_104 : tw_lp 104 = [] := rfl
theorem tr_104 : tw_rt 104 = some .int := rfl
theorem to_105 : tw_ow 105 = 6 := rfl
theorem tp_105 : tw_lp 105 = [] := rfl
theorem tr_105 : tw_rt 105 = some .int := rfl
theorem to_106 : tw_ow 106 = 6 := rfl
theorem tp_106 : tw_lp 106 = [] := rfl
theorem tr_106 : tw_rt 106 = some .int := rfl
theorem to_107 : tw_ow 107 = 6 := rfl
theorem tp_107 : tw_lp 107 = [] := rfl
theorem tr_107 : tw_rt 107 = some .boolean := rfl
theorem to_108 : tw_ow 108 = 7 := rfl
theorem tp_108 : tw_lp 108 = [] := rfl
theorem tr_108 : tw_rt 108 = none := rfl
theorem to_109 : tw_ow 109 = 7 := rfl
theorem tp_109 : tw_lp 109 = [] := rfl
theorem tr_109 : tw_rt 109 = none := rfl
theorem to_110 : tw_ow 110 = 7 := rfl
theorem tp_110 : tw_lp 110 = [] := rfl
theorem tr_110 : tw_rt 110 = some .int := rfl
theorem to_111 : tw_ow 111 = 7 := rfl
theorem tp_111 : tw_lp 111 = [] := rfl
theorem tr_111 : tw_rt 111 = some .boolean := rfl
theorem to_112 : tw_ow 112 = 7 := rfl
theorem tp_112 : tw_lp 112 = [] := rfl
theorem tr_112 : tw_rt 112 = none := rfl
theorem to_113 : tw_ow 113 = 7 := rfl
theorem tp_113 : tw_lp 113 = [] := rfl
theorem tr_113 : tw_rt 113 = none := rfl
theorem to_114 : tw_ow 114 = 7 := rfl
theorem tp_114 : tw_lp 114 = [] := rfl
theorem tr_114 : tw_rt 114 = some .int := rfl
theorem to_115 : tw_ow 115 = 7 := rfl
theorem tp_115 : tw_lp 115 = [] := rfl
theorem tr_115 : tw_rt 115 = none := rfl
theorem to_116 : tw_ow 116 = 8 := rfl
theorem tp_116 : tw_lp 116 = [] := rfl
theorem tr_116 : tw_rt 116 = none := rfl
theorem to_117 : tw_ow 117 = 8 := rfl
theorem tp_117 : tw_lp 117 = [] := rfl
theorem tr_117 : tw_rt 117 = none := rfl
theorem to_118 : tw_ow 118 = 8 := rfl
theorem tp_118 : tw_lp 118 = [] := rfl
theorem tr_118 : tw_rt 118 = some .int := rfl
theorem to_119 : tw_ow 119 = 8 := rfl
theorem tp_119 : tw_lp 119 = [] := rfl
theorem tr_119 : tw_rt 119 = some .int := rfl
theorem to_120 : tw_ow 120 = 8 := rfl
theorem tp_120 : tw_lp 120 = [] := rfl
theorem tr_120 : tw_rt 120 = some .int := rfl
theorem to_121 : tw_ow 121 = 9 := rfl
theorem tp_121 : tw_lp 121 = [] := rfl
theorem tr_121 : tw_rt 121 = none := rfl
theorem to_122 : tw_ow 122 = 9 := rfl
theorem tp_122 : tw_lp 122 = [] := rfl
theorem tr_122 : tw_rt 122 = none := rfl
theorem to_123 : tw_ow 123 = 9 := rfl
theorem tp_123 : tw_lp 123 = [] := rfl
theorem tr_123 : tw_rt 123 = none := rfl
theorem to_124 : tw_ow 124 = 9 := rfl
theorem tp_124 : tw_lp 124 = [] := rfl
theorem tr_124 : tw_rt 124 = none := rfl
theorem to_125 : tw_ow 125 = 10 := rfl
theorem tp_125 : tw_lp 125 = [] := rfl
theorem tr_125 : tw_rt 125 = none := rfl
theorem to_126 : tw_ow 126 = 10 := rfl
theorem tp_126 : tw_lp 126 = [0, 2, 4] := rfl
theorem tr_126 : tw_rt 126 = some .boolean := rfl
theorem to_127 : tw_ow 127 = 10 := rfl
theorem tp_127 : tw_lp 127 = [1] := rfl
theorem tr_127 : tw_rt 127 = some .int := rfl
theorem to_128 : tw_ow 128 = 10 := rfl
theorem tp_128 : tw_lp 128 = [] := rfl
theorem tr_128 : tw_rt 128 = some .int := rfl
theorem to_129 : tw_ow 129 = 10 := rfl
theorem tp_129 : tw_lp 129 = [] := rfl
theorem tr_129 : tw_rt 129 = some .boolean := rfl
theorem to_130 : tw_ow 130 = 10 := rfl
theorem tp_130 : tw_lp 130 = [] := rfl
theorem tr_130 : tw_rt 130 = some .boolean := rfl
theorem to_131 : tw_ow 131 = 10 := rfl
theorem tp_131 : tw_lp 131 = [] := rfl
theorem tr_131 : tw_rt 131 = none := rfl
theorem to_132 : tw_ow 132 = 10 := rfl
theorem tp_132 : tw_lp 132 = [] := rfl
theorem tr_132 : tw_rt 132 = some .boolean := rfl
theorem to_133 : tw_ow 133 = 10 := rfl
theorem tp_133 : tw_lp 133 = [] := rfl
theorem tr_133 : tw_rt 133 = some .int := rfl
theorem to_134 : tw_ow 134 = 10 := rfl
theorem tp_134 : tw_lp 134 = [] := rfl
theorem tr_134 : tw_rt 134 = none := rfl
theorem to_135 : tw_ow 135 = 10 := rfl
theorem tp_135 : tw_lp 135 = [] := rfl
theorem tr_135 : tw_rt 135 = some .boolean := rfl
theorem to_136 : tw_ow 136 = 10 := rfl
theorem tp_136 : tw_lp 136 = [] := rfl
theorem tr_136 : tw_rt 136 = none := rfl
theorem to_137 : tw_ow 137 = 10 := rfl
theorem tp_137 : tw_lp 137 = [] := rfl
theorem tr_137 : tw_rt 137 = some .int := rfl
theorem to_138 : tw_ow 138 = 10 := rfl
theorem tp_138 : tw_lp 138 = [] := rfl
theorem tr_138 : tw_rt 138 = some .int := rfl
theorem to_139 : tw_ow 139 = 10 := rfl
theorem tp_139 : tw_lp 139 = [] := rfl
theorem tr_139 : tw_rt 139 = none := rfl
theorem to_140 : tw_ow 140 = 10 := rfl
theorem tp_140 : tw_lp 140 = [] := rfl
theorem tr_140 : tw_rt 140 = none := rfl
theorem to_141 : tw_ow 141 = 10 := rfl
theorem tp_141 : tw_lp 141 = [] := rfl
theorem tr_141 : tw_rt 141 = some .int := rfl
theorem to_142 : tw_ow 142 = 10 := rfl
theorem tp_142 : tw_lp 142 = [] := rfl
theorem tr_142 : tw_rt 142 = none := rfl
theorem to_143 : tw_ow 143 = 10 := rfl
theorem tp_143 : tw_lp 143 = [] := rfl
theorem tr_143 : tw_rt 143 = some .int := rfl
theorem to_144 : tw_ow 144 = 10 := rfl
theorem tp_144 : tw_lp 144 = [] := rfl
theorem tr_144 : tw_rt 144 = some .int := rfl
theorem to_145 : tw_ow 145 = 10 := rfl
theorem tp_145 : tw_lp 145 = [] := rfl
theorem tr_145 : tw_rt 145 = some .int := rfl
theorem to_146 : tw_ow 146 = 10 := rfl
theorem tp_146 : tw_lp 146 = [] := rfl
theorem tr_146 : tw_rt 146 = some .int := rfl
theorem to_147 : tw_ow 147 = 10 := rfl
theorem tp_147 : tw_lp 147 = [] := rfl
theorem tr_147 : tw_rt 147 = some .boolean := rfl
theorem to_148 : tw_ow 148 = 10 := rfl
theorem tp_148 : tw_lp 148 = [] := rfl
theorem tr_148 : tw_rt 148 = some .boolean := rfl
theorem to_149 : tw_ow 149 = 10 := rfl
theorem tp_149 : tw_lp 149 = [] := rfl
theorem tr_149 : tw_rt 149 = some .int := rfl
theorem to_150 : tw_ow 150 = 10 := rfl
theorem tp_150 : tw_lp 150 = [] := rfl
theorem tr_150 : tw_rt 150 = some .int := rfl
theorem to_151 : tw_ow 151 = 10 := rfl
theorem tp_151 : tw_lp 151 = [] := rfl
theorem tr_151 : tw_rt 151 = some .int := rfl
theorem to_152 : tw_ow 152 = 10 := rfl
theorem tp_152 : tw_lp 152 = [] := rfl
theorem tr_152 : tw_rt 152 = some .int := rfl
theorem to_153 : tw_ow 153 = 10 := rfl
theorem tp_153 : tw_lp 153 = [] := rfl
theorem tr_153 : tw_rt 153 = some .boolean := rfl
theorem to_154 : tw_ow 154 = 10 := rfl
theorem tp_154 : tw_lp 154 = [] := rfl
theorem tr_154 : tw_rt 154 = some .int := rfl
theorem to_155 : tw_ow 155 = 10 := rfl
theorem tp_155 : tw_lp 155 = [] := rfl
theorem tr_155 : tw_rt 155 = some .int := rfl
theorem to_156 : tw_ow 156 = 10 := rfl
theorem tp_156 : tw_lp 156 = [] := rfl
theorem tr_156 : tw_rt 156 = some .int := rfl
theorem to_157 : tw_ow 157 = 10 := rfl
theorem tp_157 : tw_lp 157 = [] := rfl
theorem tr_157 : tw_rt 157 = some .int := rfl
theorem to_158 : tw_ow 158 = 10 := rfl
theorem tp_158 : tw_lp 158 = [] := rfl
theorem tr_158 : tw_rt 158 = some .int := rfl
theorem to_159 : tw_ow 159 = 10 := rfl
theorem tp_159 : tw_lp 159 = [] := rfl
theorem tr_159 : tw_rt 159 = some .int := rfl
theorem to_160 : tw_ow 160 = 10 := rfl
theorem tp_160 : tw_lp 160 = [] := rfl
theorem tr_160 : tw_rt 160 = some .int := rfl
theorem to_161 : tw_ow 161 = 10 := rfl
theorem tp_161 : tw_lp 161 = [] := rfl
theorem tr_161 : tw_rt 161 = some .int := rfl
theorem to_162 : tw_ow 162 = 10 := rfl
theorem tp_162 : tw_lp 162 = [] := rfl
theorem tr_162 : tw_rt 162 = some .int := rfl
theorem to_163 : tw_ow 163 = 10 := rfl
theorem tp_163 : tw_lp 163 = [] := rfl
theorem tr_163 : tw_rt 163 = some .int := rfl
theorem to_164 : tw_ow 164 = 10 := rfl
theorem tp_164 : tw_lp 164 = [] := rfl
theorem tr_164 : tw_rt 164 = none := rfl
theorem to_165 : tw_ow 165 = 10 := rfl
theorem tp_165 : tw_lp 165 = [] := rfl
theorem tr_165 : tw_rt 165 = some .boolean := rfl
theorem to_166 : tw_ow 166 = 10 := rfl
theorem tp_166 : tw_lp 166 = [] := rfl
theorem tr_166 : tw_rt 166 = some .int := rfl
theorem to_167 : tw_ow 167 = 10 := rfl
theorem tp_167 : tw_lp 167 = [] := rfl
theorem tr_167 : tw_rt 167 = some .int := rfl
theorem to_168 : tw_ow 168 = 10 := rfl
theorem tp_168 : tw_lp 168 = [] := rfl
theorem tr_168 : tw_rt 168 = some .int := rfl
theorem to_169 : tw_ow 169 = 10 := rfl
theorem tp_169 : tw_lp 169 = [] := rfl
theorem tr_169 : tw_rt 169 = some .int := rfl
theorem to_170 : tw_ow 170 = 10 := rfl
theorem tp_170 : tw_lp 170 = [] := rfl
theorem tr_170 : tw_rt 170 = some .int := rfl
theorem to_171 : tw_ow 171 = 10 := rfl
theorem tp_171 : tw_lp 171 = [] := rfl
theorem tr_171 : tw_rt 171 = some .int := rfl
theorem to_172 : tw_ow 172 = 10 := rfl
theorem tp_172 : tw_lp 172 = [] := rfl
theorem tr_172 : tw_rt 172 = some .int := rfl
theorem to_173 : tw_ow 173 = 10 := rfl
theorem tp_173 : tw_lp 173 = [] := rfl
theorem tr_173 : tw_rt 173 = some .int := rfl
theorem to_174 : tw_ow 174 = 11 := rfl
theorem tp_174 : tw_lp 174 = [] := rfl
theorem tr_174 : tw_rt 174 = some .boolean := rfl

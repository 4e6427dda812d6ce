theorem dX0_init_0 : decode cX0_init 0 = .ok (.aload_n 0, 1) := by decide +kernel
theorem dX0_init_1 : decode cX0_init 1 = .ok (.invokespecial 3, 3) := by decide +kernel
theorem dX0_init_4 : decode cX0_init 4 = .ok (.aload_n 0, 1) := by decide +kernel
theorem dX0_init_5 : decode cX0_init 5 = .ok (.sipush 135, 3) := by decide +kernel
theorem dX0_init_8 : decode cX0_init 8 = .ok (.newarray .long, 2) := by decide +kernel
theorem dX0_init_10 : decode cX0_init 10 = .ok (.putfield 11, 3) := by decide +kernel
theorem dX0_init_13 : decode cX0_init 13 = .ok (.aload_n 0, 1) := by decide +kernel
theorem dX0_init_14 : decode cX0_init 14 = .ok (.sipush 135, 3) := by decide +kernel
theorem dX0_init_17 : decode cX0_init 17 = .ok (.newarray .int, 2) := by decide +kernel
theorem dX0_init_19 : decode cX0_init 19 = .ok (.putfield 15, 3) := by decide +kernel
theorem dX0_init_22 : decode cX0_init 22 = .ok (.aload_n 0, 1) := by decide +kernel
theorem dX0_init_23 : decode cX0_init 23 = .ok (.sipush 135, 3) := by decide +kernel
theorem dX0_init_26 : decode cX0_init 26 = .ok (.newarray .int, 2) := by decide +kernel
theorem dX0_init_28 : decode cX0_init 28 = .ok (.putfield 19, 3) := by decide +kernel
theorem dX0_init_31 : decode cX0_init 31 = .ok (.aload_n 0, 1) := by decide +kernel
theorem dX0_init_32 : decode cX0_init 32 = .ok (.sipush 135, 3) := by decide +kernel
theorem dX0_init_35 : decode cX0_init 35 = .ok (.newarray .int, 2) := by decide +kernel
theorem dX0_init_37 : decode cX0_init 37 = .ok (.putfield 22, 3) := by decide +kernel
theorem dX0_init_40 : decode cX0_init 40 = .ok (.aload_n 0, 1) := by decide +kernel
theorem dX0_init_41 : decode cX0_init 41 = .ok (.sipush 135, 3) := by decide +kernel
theorem dX0_init_44 : decode cX0_init 44 = .ok (.newarray .int, 2) := by decide +kernel
theorem dX0_init_46 : decode cX0_init 46 = .ok (.putfield 25, 3) := by decide +kernel
theorem dX0_init_49 : decode cX0_init 49 = .ok (.aload_n 0, 1) := by decide +kernel
theorem dX0_init_50 : decode cX0_init 50 = .ok (.sipush 135, 3) := by decide +kernel
theorem dX0_init_53 : decode cX0_init 53 = .ok (.newarray .int, 2) := by decide +kernel
theorem dX0_init_55 : decode cX0_init 55 = .ok (.putfield 28, 3) := by decide +kernel
theorem dX0_init_58 : decode cX0_init 58 = .ok (.aload_n 0, 1) := by decide +kernel
theorem dX0_init_59 : decode cX0_init 59 = .ok (.bipush 14, 2) := by decide +kernel
theorem dX0_init_61 : decode cX0_init 61 = .ok (.newarray .int, 2) := by decide +kernel
theorem dX0_init_63 : decode cX0_init 63 = .ok (.putfield 31, 3) := by decide +kernel
theorem dX0_init_66 : decode cX0_init 66 = .ok (.aload_n 0, 1) := by decide +kernel
theorem dX0_init_67 : decode cX0_init 67 = .ok (.new 34, 3) := by decide +kernel
theorem dX0_init_70 : decode cX0_init 70 = .ok (.dup, 1) := by decide +kernel
theorem dX0_init_71 : decode cX0_init 71 = .ok (.invokespecial 36, 3) := by decide +kernel
theorem dX0_init_74 : decode cX0_init 74 = .ok (.putfield 37, 3) := by decide +kernel
theorem dX0_init_77 : decode cX0_init 77 = .ok (.aload_n 0, 1) := by decide +kernel
theorem dX0_init_78 : decode cX0_init 78 = .ok (.iconst (-1), 1) := by decide +kernel
theorem dX0_init_79 : decode cX0_init 79 = .ok (.putfield 41, 3) := by decide +kernel
theorem dX0_init_82 : decode cX0_init 82 = .ok (.return_, 1) := by decide +kernel
theorem dX1_init_0 : decode cX1_init 0 = .ok (.aload_n 0, 1) := by decide +kernel
theorem dX1_init_1 : decode cX1_init 1 = .ok (.invokespecial 3, 3) := by decide +kernel
theorem dX1_init_4 : decode cX1_init 4 = .ok (.aload_n 0, 1) := by decide +kernel
theorem dX1_init_5 : decode cX1_init 5 = .ok (.bipush 8, 2) := by decide +kernel
theorem dX1_init_7 : decode cX1_init 7 = .ok (.newarray .int, 2) := by decide +kernel
theorem dX1_init_9 : decode cX1_init 9 = .ok (.putfield 9, 3) := by decide +kernel
theorem dX1_init_12 : decode cX1_init 12 = .ok (.aload_n 0, 1) := by decide +kernel
theorem dX1_init_13 : decode cX1_init 13 = .ok (.bipush 6, 2) := by decide +kernel
theorem dX1_init_15 : decode cX1_init 15 = .ok (.newarray .int, 2) := by decide +kernel
theorem dX1_init_17 : decode cX1_init 17 = .ok (.putfield 15, 3) := by decide +kernel
theorem dX1_init_20 : decode cX1_init 20 = .ok (.aload_n 0, 1) := by decide +kernel
theorem dX1_init_21 : decode cX1_init 21 = .ok (.bipush 6, 2) := by decide +kernel
theorem dX1_init_23 : decode cX1_init 23 = .ok (.newarray .int, 2) := by decide +kernel
theorem dX1_init_25 : decode cX1_init 25 = .ok (.putfield 18, 3) := by decide +kernel
theorem dX1_init_28 : decode cX1_init 28 = .ok (.aload_n 0, 1) := by decide +kernel
theorem dX1_init_29 : decode cX1_init 29 = .ok (.bipush 20, 2) := by decide +kernel
theorem dX1_init_31 : decode cX1_init 31 = .ok (.newarray .int, 2) := by decide +kernel
theorem dX1_init_33 : decode cX1_init 33 = .ok (.putfield 21, 3) := by decide +kernel
theorem dX1_init_36 : decode cX1_init 36 = .ok (.aload_n 0, 1) := by decide +kernel
theorem dX1_init_37 : decode cX1_init 37 = .ok (.bipush 20, 2) := by decide +kernel
theorem dX1_init_39 : decode cX1_init 39 = .ok (.newarray .int, 2) := by decide +kernel
theorem dX1_init_41 : decode cX1_init 41 = .ok (.putfield 24, 3) := by decide +kernel
theorem dX1_init_44 : decode cX1_init 44 = .ok (.return_, 1) := by decide +kernel
theorem dX2_init_0 : decode cX2_init 0 = .ok (.aload_n 0, 1) := by decide +kernel
theorem dX2_init_1 : decode cX2_init 1 = .ok (.invokespecial 3, 3) := by decide +kernel
theorem dX2_init_4 : decode cX2_init 4 = .ok (.aload_n 0, 1) := by decide +kernel
theorem dX2_init_5 : decode cX2_init 5 = .ok (.new 9, 3) := by decide +kernel
theorem dX2_init_8 : decode cX2_init 8 = .ok (.dup, 1) := by decide +kernel
theorem dX2_init_9 : decode cX2_init 9 = .ok (.invokespecial 11, 3) := by decide +kernel
theorem dX2_init_12 : decode cX2_init 12 = .ok (.putfield 12, 3) := by decide +kernel
theorem dX2_init_15 : decode cX2_init 15 = .ok (.aload_n 0, 1) := by decide +kernel
theorem dX2_init_16 : decode cX2_init 16 = .ok (.new 9, 3) := by decide +kernel
theorem dX2_init_19 : decode cX2_init 19 = .ok (.dup, 1) := by decide +kernel
theorem dX2_init_20 : decode cX2_init 20 = .ok (.invokespecial 11, 3) := by decide +kernel
theorem dX2_init_23 : decode cX2_init 23 = .ok (.putfield 18, 3) := by decide +kernel
theorem dX2_init_26 : decode cX2_init 26 = .ok (.return_, 1) := by decide +kernel
theorem dX3_init_0 : decode cX3_init 0 = .ok (.aload_n 0, 1) := by decide +kernel
theorem dX3_init_1 : decode cX3_init 1 = .ok (.invokespecial 3, 3) := by decide +kernel
theorem dX3_init_4 : decode cX3_init 4 = .ok (.aload_n 0, 1) := by decide +kernel
theorem dX3_init_5 : decode cX3_init 5 = .ok (.bipush 40, 2) := by decide +kernel
theorem dX3_init_7 : decode cX3_init 7 = .ok (.newarray .int, 2) := by decide +kernel
theorem dX3_init_9 : decode cX3_init 9 = .ok (.putfield 11, 3) := by decide +kernel
theorem dX3_init_12 : decode cX3_init 12 = .ok (.aload_n 0, 1) := by decide +kernel
theorem dX3_init_13 : decode cX3_init 13 = .ok (.bipush 40, 2) := by decide +kernel
theorem dX3_init_15 : decode cX3_init 15 = .ok (.newarray .int, 2) := by decide +kernel
theorem dX3_init_17 : decode cX3_init 17 = .ok (.putfield 15, 3) := by decide +kernel
theorem dX3_init_20 : decode cX3_init 20 = .ok (.return_, 1) := by decide +kernel
theorem dX4_init_0 : decode cX4_init 0 = .ok (.aload_n 0, 1) := by decide +kernel
theorem dX4_init_1 : decode cX4_init 1 = .ok (.invokespecial 3, 3) := by decide +kernel
theorem dX4_init_4 : decode cX4_init 4 = .ok (.aload_n 0, 1) := by decide +kernel
theorem dX4_init_5 : decode cX4_init 5 = .ok (.bipush 17, 2) := by decide +kernel
theorem dX4_init_7 : decode cX4_init 7 = .ok (.anewarray 9, 3) := by decide +kernel
theorem dX4_init_10 : decode cX4_init 10 = .ok (.putfield 11, 3) := by decide +kernel
theorem dX4_init_13 : decode cX4_init 13 = .ok (.iconst 0, 1) := by decide +kernel
theorem dX4_init_14 : decode cX4_init 14 = .ok (.istore_n 1, 1) := by decide +kernel
theorem dX4_init_15 : decode cX4_init 15 = .ok (.iload_n 1, 1) := by decide +kernel
theorem dX4_init_16 : decode cX4_init 16 = .ok (.bipush 16, 2) := by decide +kernel
theorem dX4_init_18 : decode cX4_init 18 = .ok (.if_icmp .gt 22, 3) := by decide +kernel
theorem dX4_init_21 : decode cX4_init 21 = .ok (.aload_n 0, 1) := by decide +kernel
theorem dX4_init_22 : decode cX4_init 22 = .ok (.getfield 11, 3) := by decide +kernel
theorem dX4_init_25 : decode cX4_init 25 = .ok (.iload_n 1, 1) := by decide +kernel
theorem dX4_init_26 : decode cX4_init 26 = .ok (.new 9, 3) := by decide +kernel
theorem dX4_init_29 : decode cX4_init 29 = .ok (.dup, 1) := by decide +kernel
theorem dX4_init_30 : decode cX4_init 30 = .ok (.invokespecial 17, 3) := by decide +kernel
theorem dX4_init_33 : decode cX4_init 33 = .ok (.aastore, 1) := by decide +kernel
theorem dX4_init_34 : decode cX4_init 34 = .ok (.iinc 1 1, 3) := by decide +kernel
theorem dX4_init_37 : decode cX4_init 37 = .ok (.goto (-22), 3) := by decide +kernel
theorem dX4_init_40 : decode cX4_init 40 = .ok (.return_, 1) := by decide +kernel
theorem dX5_init_0 : decode cX5_init 0 = .ok (.aload_n 0, 1) := by decide +kernel
theorem dX5_init_1 : decode cX5_init 1 = .ok (.invokespecial 3, 3) := by decide +kernel
theorem dX5_init_4 : decode cX5_init 4 = .ok (.aload_n 0, 1) := by decide +kernel
theorem dX5_init_5 : decode cX5_init 5 = .ok (.bipush 20, 2) := by decide +kernel
theorem dX5_init_7 : decode cX5_init 7 = .ok (.newarray .int, 2) := by decide +kernel
theorem dX5_init_9 : decode cX5_init 9 = .ok (.putfield 9, 3) := by decide +kernel
theorem dX5_init_12 : decode cX5_init 12 = .ok (.aload_n 0, 1) := by decide +kernel
theorem dX5_init_13 : decode cX5_init 13 = .ok (.bipush 20, 2) := by decide +kernel
theorem dX5_init_15 : decode cX5_init 15 = .ok (.bipush 17, 2) := by decide +kernel
theorem dX5_init_17 : decode cX5_init 17 = .ok (.multianewarray 15 2, 4) := by decide +kernel
theorem dX5_init_21 : decode cX5_init 21 = .ok (.putfield 17, 3) := by decide +kernel
theorem dX5_init_24 : decode cX5_init 24 = .ok (.return_, 1) := by decide +kernel
theorem dX6_init_0 : decode cX6_init 0 = .ok (.aload_n 0, 1) := by decide +kernel
theorem dX6_init_1 : decode cX6_init 1 = .ok (.invokespecial 3, 3) := by decide +kernel
theorem dX6_init_4 : decode cX6_init 4 = .ok (.aload_n 0, 1) := by decide +kernel
theorem dX6_init_5 : decode cX6_init 5 = .ok (.bipush 60, 2) := by decide +kernel
theorem dX6_init_7 : decode cX6_init 7 = .ok (.newarray .long, 2) := by decide +kernel
theorem dX6_init_9 : decode cX6_init 9 = .ok (.putfield 9, 3) := by decide +kernel
theorem dX6_init_12 : decode cX6_init 12 = .ok (.return_, 1) := by decide +kernel
theorem dX7_init_0 : decode cX7_init 0 = .ok (.aload_n 0, 1) := by decide +kernel
theorem dX7_init_1 : decode cX7_init 1 = .ok (.invokespecial 3, 3) := by decide +kernel
theorem dX7_init_4 : decode cX7_init 4 = .ok (.aload_n 0, 1) := by decide +kernel
theorem dX7_init_5 : decode cX7_init 5 = .ok (.sipush 500, 3) := by decide +kernel
theorem dX7_init_8 : decode cX7_init 8 = .ok (.newarray .byte, 2) := by decide +kernel
theorem dX7_init_10 : decode cX7_init 10 = .ok (.putfield 9, 3) := by decide +kernel
theorem dX7_init_13 : decode cX7_init 13 = .ok (.aload_n 0, 1) := by decide +kernel
theorem dX7_init_14 : decode cX7_init 14 = .ok (.iconst (-1), 1) := by decide +kernel
theorem dX7_init_15 : decode cX7_init 15 = .ok (.putfield 15, 3) := by decide +kernel
theorem dX7_init_18 : decode cX7_init 18 = .ok (.return_, 1) := by decide +kernel
theorem dX8_init_0 : decode cX8_init 0 = .ok (.aload_n 0, 1) := by decide +kernel
theorem dX8_init_1 : decode cX8_init 1 = .ok (.invokespecial 3, 3) := by decide +kernel
theorem dX8_init_4 : decode cX8_init 4 = .ok (.aload_n 0, 1) := by decide +kernel
theorem dX8_init_5 : decode cX8_init 5 = .ok (.new 9, 3) := by decide +kernel
theorem dX8_init_8 : decode cX8_init 8 = .ok (.dup, 1) := by decide +kernel
theorem dX8_init_9 : decode cX8_init 9 = .ok (.invokespecial 11, 3) := by decide +kernel
theorem dX8_init_12 : decode cX8_init 12 = .ok (.putfield 12, 3) := by decide +kernel
theorem dX8_init_15 : decode cX8_init 15 = .ok (.aload_n 0, 1) := by decide +kernel
theorem dX8_init_16 : decode cX8_init 16 = .ok (.new 16, 3) := by decide +kernel
theorem dX8_init_19 : decode cX8_init 19 = .ok (.dup, 1) := by decide +kernel
theorem dX8_init_20 : decode cX8_init 20 = .ok (.invokespecial 18, 3) := by decide +kernel
theorem dX8_init_23 : decode cX8_init 23 = .ok (.putfield 19, 3) := by decide +kernel
theorem dX8_init_26 : decode cX8_init 26 = .ok (.aload_n 0, 1) := by decide +kernel
theorem dX8_init_27 : decode cX8_init 27 = .ok (.new 16, 3) := by decide +kernel
theorem dX8_init_30 : decode cX8_init 30 = .ok (.dup, 1) := by decide +kernel
theorem dX8_init_31 : decode cX8_init 31 = .ok (.invokespecial 18, 3) := by decide +kernel
theorem dX8_init_34 : decode cX8_init 34 = .ok (.putfield 23, 3) := by decide +kernel
theorem dX8_init_37 : decode cX8_init 37 = .ok (.aload_n 0, 1) := by decide +kernel
theorem dX8_init_38 : decode cX8_init 38 = .ok (.iconst 3, 1) := by decide +kernel
theorem dX8_init_39 : decode cX8_init 39 = .ok (.anewarray 16, 3) := by decide +kernel
theorem dX8_init_42 : decode cX8_init 42 = .ok (.putfield 26, 3) := by decide +kernel
theorem dX8_init_45 : decode cX8_init 45 = .ok (.aload_n 0, 1) := by decide +kernel
theorem dX8_init_46 : decode cX8_init 46 = .ok (.iconst 4, 1) := by decide +kernel
theorem dX8_init_47 : decode cX8_init 47 = .ok (.anewarray 30, 3) := by decide +kernel
theorem dX8_init_50 : decode cX8_init 50 = .ok (.putfield 32, 3) := by decide +kernel
theorem dX8_init_53 : decode cX8_init 53 = .ok (.aload_n 0, 1) := by decide +kernel
theorem dX8_init_54 : decode cX8_init 54 = .ok (.new 36, 3) := by decide +kernel
theorem dX8_init_57 : decode cX8_init 57 = .ok (.dup, 1) := by decide +kernel
theorem dX8_init_58 : decode cX8_init 58 = .ok (.invokespecial 38, 3) := by decide +kernel
theorem dX8_init_61 : decode cX8_init 61 = .ok (.putfield 39, 3) := by decide +kernel
theorem dX8_init_64 : decode cX8_init 64 = .ok (.aload_n 0, 1) := by decide +kernel
theorem dX8_init_65 : decode cX8_init 65 = .ok (.new 36, 3) := by decide +kernel
theorem dX8_init_68 : decode cX8_init 68 = .ok (.dup, 1) := by decide +kernel
theorem dX8_init_69 : decode cX8_init 69 = .ok (.invokespecial 38, 3) := by decide +kernel
theorem dX8_init_72 : decode cX8_init 72 = .ok (.putfield 43, 3) := by decide +kernel
theorem dX8_init_75 : decode cX8_init 75 = .ok (.aload_n 0, 1) := by decide +kernel
theorem dX8_init_76 : decode cX8_init 76 = .ok (.new 46, 3) := by decide +kernel
theorem dX8_init_79 : decode cX8_init 79 = .ok (.dup, 1) := by decide +kernel
theorem dX8_init_80 : decode cX8_init 80 = .ok (.invokespecial 48, 3) := by decide +kernel
theorem dX8_init_83 : decode cX8_init 83 = .ok (.putfield 49, 3) := by decide +kernel
theorem dX8_init_86 : decode cX8_init 86 = .ok (.aload_n 0, 1) := by decide +kernel
theorem dX8_init_87 : decode cX8_init 87 = .ok (.new 53, 3) := by decide +kernel
theorem dX8_init_90 : decode cX8_init 90 = .ok (.dup, 1) := by decide +kernel
theorem dX8_init_91 : decode cX8_init 91 = .ok (.invokespecial 55, 3) := by decide +kernel
theorem dX8_init_94 : decode cX8_init 94 = .ok (.putfield 56, 3) := by decide +kernel
theorem dX8_init_97 : decode cX8_init 97 = .ok (.aload_n 0, 1) := by decide +kernel
theorem dX8_init_98 : decode cX8_init 98 = .ok (.new 60, 3) := by decide +kernel
theorem dX8_init_101 : decode cX8_init 101 = .ok (.dup, 1) := by decide +kernel
theorem dX8_init_102 : decode cX8_init 102 = .ok (.invokespecial 62, 3) := by decide +kernel
theorem dX8_init_105 : decode cX8_init 105 = .ok (.putfield 63, 3) := by decide +kernel
theorem dX8_init_108 : decode cX8_init 108 = .ok (.aload_n 0, 1) := by decide +kernel
theorem dX8_init_109 : decode cX8_init 109 = .ok (.new 67, 3) := by decide +kernel
theorem dX8_init_112 : decode cX8_init 112 = .ok (.dup, 1) := by decide +kernel
theorem dX8_init_113 : decode cX8_init 113 = .ok (.invokespecial 69, 3) := by decide +kernel
theorem dX8_init_116 : decode cX8_init 116 = .ok (.putfield 70, 3) := by decide +kernel
theorem dX8_init_119 : decode cX8_init 119 = .ok (.aload_n 0, 1) := by decide +kernel
theorem dX8_init_120 : decode cX8_init 120 = .ok (.bipush 64, 2) := by decide +kernel
theorem dX8_init_122 : decode cX8_init 122 = .ok (.newarray .int, 2) := by decide +kernel
theorem dX8_init_124 : decode cX8_init 124 = .ok (.putfield 74, 3) := by decide +kernel
theorem dX8_init_127 : decode cX8_init 127 = .ok (.aload_n 0, 1) := by decide +kernel
theorem dX8_init_128 : decode cX8_init 128 = .ok (.bipush 8, 2) := by decide +kernel
theorem dX8_init_130 : decode cX8_init 130 = .ok (.newarray .int, 2) := by decide +kernel
theorem dX8_init_132 : decode cX8_init 132 = .ok (.putfield 78, 3) := by decide +kernel
theorem dX8_init_135 : decode cX8_init 135 = .ok (.aload_n 0, 1) := by decide +kernel
theorem dX8_init_136 : decode cX8_init 136 = .ok (.iconst (-1), 1) := by decide +kernel
theorem dX8_init_137 : decode cX8_init 137 = .ok (.putfield 81, 3) := by decide +kernel
theorem dX8_init_140 : decode cX8_init 140 = .ok (.iconst 0, 1) := by decide +kernel
theorem dX8_init_141 : decode cX8_init 141 = .ok (.istore_n 1, 1) := by decide +kernel
theorem dX8_init_142 : decode cX8_init 142 = .ok (.iload_n 1, 1) := by decide +kernel
theorem dX8_init_143 : decode cX8_init 143 = .ok (.iconst 3, 1) := by decide +kernel
theorem dX8_init_144 : decode cX8_init 144 = .ok (.if_icmp .ge 22, 3) := by decide +kernel
theorem dX8_init_147 : decode cX8_init 147 = .ok (.aload_n 0, 1) := by decide +kernel
theorem dX8_init_148 : decode cX8_init 148 = .ok (.getfield 26, 3) := by decide +kernel
theorem dX8_init_151 : decode cX8_init 151 = .ok (.iload_n 1, 1) := by decide +kernel
theorem dX8_init_152 : decode cX8_init 152 = .ok (.new 16, 3) := by decide +kernel
theorem dX8_init_155 : decode cX8_init 155 = .ok (.dup, 1) := by decide +kernel
theorem dX8_init_156 : decode cX8_init 156 = .ok (.invokespecial 18, 3) := by decide +kernel
theorem dX8_init_159 : decode cX8_init 159 = .ok (.aastore, 1) := by decide +kernel
theorem dX8_init_160 : decode cX8_init 160 = .ok (.iinc 1 1, 3) := by decide +kernel
theorem dX8_init_163 : decode cX8_init 163 = .ok (.goto (-21), 3) := by decide +kernel
theorem dX8_init_166 : decode cX8_init 166 = .ok (.iconst 0, 1) := by decide +kernel
theorem dX8_init_167 : decode cX8_init 167 = .ok (.istore_n 1, 1) := by decide +kernel
theorem dX8_init_168 : decode cX8_init 168 = .ok (.iload_n 1, 1) := by decide +kernel
theorem dX8_init_169 : decode cX8_init 169 = .ok (.iconst 4, 1) := by decide +kernel
theorem dX8_init_170 : decode cX8_init 170 = .ok (.if_icmp .ge 22, 3) := by decide +kernel
theorem dX8_init_173 : decode cX8_init 173 = .ok (.aload_n 0, 1) := by decide +kernel
theorem dX8_init_174 : decode cX8_init 174 = .ok (.getfield 32, 3) := by decide +kernel
theorem dX8_init_177 : decode cX8_init 177 = .ok (.iload_n 1, 1) := by decide +kernel
theorem dX8_init_178 : decode cX8_init 178 = .ok (.new 30, 3) := by decide +kernel
theorem dX8_init_181 : decode cX8_init 181 = .ok (.dup, 1) := by decide +kernel
theorem dX8_init_182 : decode cX8_init 182 = .ok (.invokespecial 85, 3) := by decide +kernel
theorem dX8_init_185 : decode cX8_init 185 = .ok (.aastore, 1) := by decide +kernel
theorem dX8_init_186 : decode cX8_init 186 = .ok (.iinc 1 1, 3) := by decide +kernel
theorem dX8_init_189 : decode cX8_init 189 = .ok (.goto (-21), 3) := by decide +kernel
theorem dX8_init_192 : decode cX8_init 192 = .ok (.return_, 1) := by decide +kernel
theorem dX9_init_0 : decode cX9_init 0 = .ok (.aload_n 0, 1) := by decide +kernel
theorem dX9_init_1 : decode cX9_init 1 = .ok (.invokespecial 3, 3) := by decide +kernel
theorem dX9_init_4 : decode cX9_init 4 = .ok (.aload_n 0, 1) := by decide +kernel
theorem dX9_init_5 : decode cX9_init 5 = .ok (.bipush 47, 2) := by decide +kernel
theorem dX9_init_7 : decode cX9_init 7 = .ok (.newarray .int, 2) := by decide +kernel
theorem dX9_init_9 : decode cX9_init 9 = .ok (.putfield 9, 3) := by decide +kernel
theorem dX9_init_12 : decode cX9_init 12 = .ok (.aload_n 0, 1) := by decide +kernel
theorem dX9_init_13 : decode cX9_init 13 = .ok (.sipush 141, 3) := by decide +kernel
theorem dX9_init_16 : decode cX9_init 16 = .ok (.newarray .int, 2) := by decide +kernel
theorem dX9_init_18 : decode cX9_init 18 = .ok (.putfield 13, 3) := by decide +kernel
theorem dX9_init_21 : decode cX9_init 21 = .ok (.aload_n 0, 1) := by decide +kernel
theorem dX9_init_22 : decode cX9_init 22 = .ok (.iconst 3, 1) := by decide +kernel
theorem dX9_init_23 : decode cX9_init 23 = .ok (.newarray .boolean, 2) := by decide +kernel
theorem dX9_init_25 : decode cX9_init 25 = .ok (.putfield 16, 3) := by decide +kernel
theorem dX9_init_28 : decode cX9_init 28 = .ok (.aload_n 0, 1) := by decide +kernel
theorem dX9_init_29 : decode cX9_init 29 = .ok (.sipush 500, 3) := by decide +kernel
theorem dX9_init_32 : decode cX9_init 32 = .ok (.newarray .byte, 2) := by decide +kernel
theorem dX9_init_34 : decode cX9_init 34 = .ok (.putfield 20, 3) := by decide +kernel
theorem dX9_init_37 : decode cX9_init 37 = .ok (.aload_n 0, 1) := by decide +kernel
theorem dX9_init_38 : decode cX9_init 38 = .ok (.iconst 5, 1) := by decide +kernel
theorem dX9_init_39 : decode cX9_init 39 = .ok (.newarray .int, 2) := by decide +kernel
theorem dX9_init_41 : decode cX9_init 41 = .ok (.putfield 24, 3) := by decide +kernel
theorem dX9_init_44 : decode cX9_init 44 = .ok (.aload_n 0, 1) := by decide +kernel
theorem dX9_init_45 : decode cX9_init 45 = .ok (.iconst (-1), 1) := by decide +kernel
theorem dX9_init_46 : decode cX9_init 46 = .ok (.putfield 27, 3) := by decide +kernel
theorem dX9_init_49 : decode cX9_init 49 = .ok (.aload_n 0, 1) := by decide +kernel
theorem dX9_init_50 : decode cX9_init 50 = .ok (.bipush 47, 2) := by decide +kernel
theorem dX9_init_52 : decode cX9_init 52 = .ok (.newarray .int, 2) := by decide +kernel
theorem dX9_init_54 : decode cX9_init 54 = .ok (.putfield 31, 3) := by decide +kernel
theorem dX9_init_57 : decode cX9_init 57 = .ok (.aload_n 0, 1) := by decide +kernel
theorem dX9_init_58 : decode cX9_init 58 = .ok (.sipush 14721, 3) := by decide +kernel
theorem dX9_init_61 : decode cX9_init 61 = .ok (.newarray .int, 2) := by decide +kernel
theorem dX9_init_63 : decode cX9_init 63 = .ok (.putfield 34, 3) := by decide +kernel
theorem dX9_init_66 : decode cX9_init 66 = .ok (.aload_n 0, 1) := by decide +kernel
theorem dX9_init_67 : decode cX9_init 67 = .ok (.bipush 8, 2) := by decide +kernel
theorem dX9_init_69 : decode cX9_init 69 = .ok (.newarray .int, 2) := by decide +kernel
theorem dX9_init_71 : decode cX9_init 71 = .ok (.putfield 37, 3) := by decide +kernel
theorem dX9_init_74 : decode cX9_init 74 = .ok (.aload_n 0, 1) := by decide +kernel
theorem dX9_init_75 : decode cX9_init 75 = .ok (.bipush 6, 2) := by decide +kernel
theorem dX9_init_77 : decode cX9_init 77 = .ok (.newarray .int, 2) := by decide +kernel
theorem dX9_init_79 : decode cX9_init 79 = .ok (.putfield 40, 3) := by decide +kernel
theorem dX9_init_82 : decode cX9_init 82 = .ok (.aload_n 0, 1) := by decide +kernel
theorem dX9_init_83 : decode cX9_init 83 = .ok (.bipush 16, 2) := by decide +kernel
theorem dX9_init_85 : decode cX9_init 85 = .ok (.newarray .int, 2) := by decide +kernel
theorem dX9_init_87 : decode cX9_init 87 = .ok (.putfield 43, 3) := by decide +kernel
theorem dX9_init_90 : decode cX9_init 90 = .ok (.aload_n 0, 1) := by decide +kernel
theorem dX9_init_91 : decode cX9_init 91 = .ok (.bipush 16, 2) := by decide +kernel
theorem dX9_init_93 : decode cX9_init 93 = .ok (.newarray .int, 2) := by decide +kernel
theorem dX9_init_95 : decode cX9_init 95 = .ok (.putfield 46, 3) := by decide +kernel
theorem dX9_init_98 : decode cX9_init 98 = .ok (.aload_n 0, 1) := by decide +kernel
theorem dX9_init_99 : decode cX9_init 99 = .ok (.sipush 2025, 3) := by decide +kernel
theorem dX9_init_102 : decode cX9_init 102 = .ok (.newarray .int, 2) := by decide +kernel
theorem dX9_init_104 : decode cX9_init 104 = .ok (.putfield 49, 3) := by decide +kernel
theorem dX9_init_107 : decode cX9_init 107 = .ok (.aload_n 0, 1) := by decide +kernel
theorem dX9_init_108 : decode cX9_init 108 = .ok (.sipush 135, 3) := by decide +kernel
theorem dX9_init_111 : decode cX9_init 111 = .ok (.newarray .int, 2) := by decide +kernel
theorem dX9_init_113 : decode cX9_init 113 = .ok (.putfield 52, 3) := by decide +kernel
theorem dX9_init_116 : decode cX9_init 116 = .ok (.aload_n 0, 1) := by decide +kernel
theorem dX9_init_117 : decode cX9_init 117 = .ok (.sipush 135, 3) := by decide +kernel
theorem dX9_init_120 : decode cX9_init 120 = .ok (.newarray .int, 2) := by decide +kernel
theorem dX9_init_122 : decode cX9_init 122 = .ok (.putfield 55, 3) := by decide +kernel
theorem dX9_init_125 : decode cX9_init 125 = .ok (.aload_n 0, 1) := by decide +kernel
theorem dX9_init_126 : decode cX9_init 126 = .ok (.bipush 20, 2) := by decide +kernel
theorem dX9_init_128 : decode cX9_init 128 = .ok (.newarray .int, 2) := by decide +kernel
theorem dX9_init_130 : decode cX9_init 130 = .ok (.putfield 58, 3) := by decide +kernel
theorem dX9_init_133 : decode cX9_init 133 = .ok (.aload_n 0, 1) := by decide +kernel
theorem dX9_init_134 : decode cX9_init 134 = .ok (.sipush 340, 3) := by decide +kernel
theorem dX9_init_137 : decode cX9_init 137 = .ok (.newarray .int, 2) := by decide +kernel
theorem dX9_init_139 : decode cX9_init 139 = .ok (.putfield 61, 3) := by decide +kernel
theorem dX9_init_142 : decode cX9_init 142 = .ok (.aload_n 0, 1) := by decide +kernel
theorem dX9_init_143 : decode cX9_init 143 = .ok (.bipush 64, 2) := by decide +kernel
theorem dX9_init_145 : decode cX9_init 145 = .ok (.newarray .int, 2) := by decide +kernel
theorem dX9_init_147 : decode cX9_init 147 = .ok (.putfield 64, 3) := by decide +kernel
theorem dX9_init_150 : decode cX9_init 150 = .ok (.aload_n 0, 1) := by decide +kernel
theorem dX9_init_151 : decode cX9_init 151 = .ok (.iconst 4, 1) := by decide +kernel
theorem dX9_init_152 : decode cX9_init 152 = .ok (.newarray .int, 2) := by decide +kernel
theorem dX9_init_154 : decode cX9_init 154 = .ok (.dup, 1) := by decide +kernel
theorem dX9_init_155 : decode cX9_init 155 = .ok (.iconst 0, 1) := by decide +kernel
theorem dX9_init_156 : decode cX9_init 156 = .ok (.iconst (-1), 1) := by decide +kernel
theorem dX9_init_157 : decode cX9_init 157 = .ok (.iastore, 1) := by decide +kernel
theorem dX9_init_158 : decode cX9_init 158 = .ok (.dup, 1) := by decide +kernel
theorem dX9_init_159 : decode cX9_init 159 = .ok (.iconst 1, 1) := by decide +kernel
theorem dX9_init_160 : decode cX9_init 160 = .ok (.iconst (-1), 1) := by decide +kernel
theorem dX9_init_161 : decode cX9_init 161 = .ok (.iastore, 1) := by decide +kernel
theorem dX9_init_162 : decode cX9_init 162 = .ok (.dup, 1) := by decide +kernel
theorem dX9_init_163 : decode cX9_init 163 = .ok (.iconst 2, 1) := by decide +kernel
theorem dX9_init_164 : decode cX9_init 164 = .ok (.iconst (-1), 1) := by decide +kernel
theorem dX9_init_165 : decode cX9_init 165 = .ok (.iastore, 1) := by decide +kernel
theorem dX9_init_166 : decode cX9_init 166 = .ok (.dup, 1) := by decide +kernel
theorem dX9_init_167 : decode cX9_init 167 = .ok (.iconst 3, 1) := by decide +kernel
theorem dX9_init_168 : decode cX9_init 168 = .ok (.iconst (-1), 1) := by decide +kernel
theorem dX9_init_169 : decode cX9_init 169 = .ok (.iastore, 1) := by decide +kernel
theorem dX9_init_170 : decode cX9_init 170 = .ok (.putfield 67, 3) := by decide +kernel
theorem dX9_init_173 : decode cX9_init 173 = .ok (.aload_n 0, 1) := by decide +kernel
theorem dX9_init_174 : decode cX9_init 174 = .ok (.iconst 4, 1) := by decide +kernel
theorem dX9_init_175 : decode cX9_init 175 = .ok (.newarray .int, 2) := by decide +kernel
theorem dX9_init_177 : decode cX9_init 177 = .ok (.putfield 70, 3) := by decide +kernel
theorem dX9_init_180 : decode cX9_init 180 = .ok (.aload_n 0, 1) := by decide +kernel
theorem dX9_init_181 : decode cX9_init 181 = .ok (.sipush 240, 3) := by decide +kernel
theorem dX9_init_184 : decode cX9_init 184 = .ok (.newarray .long, 2) := by decide +kernel
theorem dX9_init_186 : decode cX9_init 186 = .ok (.putfield 73, 3) := by decide +kernel
theorem dX9_init_189 : decode cX9_init 189 = .ok (.aload_n 0, 1) := by decide +kernel
theorem dX9_init_190 : decode cX9_init 190 = .ok (.bipush 60, 2) := by decide +kernel
theorem dX9_init_192 : decode cX9_init 192 = .ok (.newarray .long, 2) := by decide +kernel
theorem dX9_init_194 : decode cX9_init 194 = .ok (.putfield 77, 3) := by decide +kernel
theorem dX9_init_197 : decode cX9_init 197 = .ok (.return_, 1) := by decide +kernel

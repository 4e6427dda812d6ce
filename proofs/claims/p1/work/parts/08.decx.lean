theorem dX1_become_0 : decode cX1_become 0 = .ok (.aload_n 0, 1) := by decide +kernel
theorem dX1_become_1 : decode cX1_become 1 = .ok (.aload_n 1, 1) := by decide +kernel
theorem dX1_become_2 : decode cX1_become 2 = .ok (.getfield 27, 3) := by decide +kernel
theorem dX1_become_5 : decode cX1_become 5 = .ok (.putfield 27, 3) := by decide +kernel
theorem dX1_become_8 : decode cX1_become 8 = .ok (.aload_n 0, 1) := by decide +kernel
theorem dX1_become_9 : decode cX1_become 9 = .ok (.aload_n 1, 1) := by decide +kernel
theorem dX1_become_10 : decode cX1_become 10 = .ok (.getfield 31, 3) := by decide +kernel
theorem dX1_become_13 : decode cX1_become 13 = .ok (.putfield 31, 3) := by decide +kernel
theorem dX1_become_16 : decode cX1_become 16 = .ok (.aload_n 0, 1) := by decide +kernel
theorem dX1_become_17 : decode cX1_become 17 = .ok (.aload_n 1, 1) := by decide +kernel
theorem dX1_become_18 : decode cX1_become 18 = .ok (.getfield 34, 3) := by decide +kernel
theorem dX1_become_21 : decode cX1_become 21 = .ok (.putfield 34, 3) := by decide +kernel
theorem dX1_become_24 : decode cX1_become 24 = .ok (.aload_n 0, 1) := by decide +kernel
theorem dX1_become_25 : decode cX1_become 25 = .ok (.aload_n 1, 1) := by decide +kernel
theorem dX1_become_26 : decode cX1_become 26 = .ok (.getfield 37, 3) := by decide +kernel
theorem dX1_become_29 : decode cX1_become 29 = .ok (.putfield 37, 3) := by decide +kernel
theorem dX1_become_32 : decode cX1_become 32 = .ok (.aload_n 0, 1) := by decide +kernel
theorem dX1_become_33 : decode cX1_become 33 = .ok (.aload_n 1, 1) := by decide +kernel
theorem dX1_become_34 : decode cX1_become 34 = .ok (.getfield 40, 3) := by decide +kernel
theorem dX1_become_37 : decode cX1_become 37 = .ok (.putfield 40, 3) := by decide +kernel
theorem dX1_become_40 : decode cX1_become 40 = .ok (.aload_n 0, 1) := by decide +kernel
theorem dX1_become_41 : decode cX1_become 41 = .ok (.aload_n 1, 1) := by decide +kernel
theorem dX1_become_42 : decode cX1_become 42 = .ok (.getfield 43, 3) := by decide +kernel
theorem dX1_become_45 : decode cX1_become 45 = .ok (.putfield 43, 3) := by decide +kernel
theorem dX1_become_48 : decode cX1_become 48 = .ok (.aload_n 0, 1) := by decide +kernel
theorem dX1_become_49 : decode cX1_become 49 = .ok (.aload_n 1, 1) := by decide +kernel
theorem dX1_become_50 : decode cX1_become 50 = .ok (.getfield 46, 3) := by decide +kernel
theorem dX1_become_53 : decode cX1_become 53 = .ok (.putfield 46, 3) := by decide +kernel
theorem dX1_become_56 : decode cX1_become 56 = .ok (.aload_n 1, 1) := by decide +kernel
theorem dX1_become_57 : decode cX1_become 57 = .ok (.getfield 9, 3) := by decide +kernel
theorem dX1_become_60 : decode cX1_become 60 = .ok (.iconst 0, 1) := by decide +kernel
theorem dX1_become_61 : decode cX1_become 61 = .ok (.aload_n 0, 1) := by decide +kernel
theorem dX1_become_62 : decode cX1_become 62 = .ok (.getfield 9, 3) := by decide +kernel
theorem dX1_become_65 : decode cX1_become 65 = .ok (.iconst 0, 1) := by decide +kernel
theorem dX1_become_66 : decode cX1_become 66 = .ok (.bipush 8, 2) := by decide +kernel
theorem dX1_become_68 : decode cX1_become 68 = .ok (.invokestatic 49, 3) := by decide +kernel
theorem dX1_become_71 : decode cX1_become 71 = .ok (.aload_n 1, 1) := by decide +kernel
theorem dX1_become_72 : decode cX1_become 72 = .ok (.getfield 15, 3) := by decide +kernel
theorem dX1_become_75 : decode cX1_become 75 = .ok (.iconst 0, 1) := by decide +kernel
theorem dX1_become_76 : decode cX1_become 76 = .ok (.aload_n 0, 1) := by decide +kernel
theorem dX1_become_77 : decode cX1_become 77 = .ok (.getfield 15, 3) := by decide +kernel
theorem dX1_become_80 : decode cX1_become 80 = .ok (.iconst 0, 1) := by decide +kernel
theorem dX1_become_81 : decode cX1_become 81 = .ok (.bipush 6, 2) := by decide +kernel
theorem dX1_become_83 : decode cX1_become 83 = .ok (.invokestatic 49, 3) := by decide +kernel
theorem dX1_become_86 : decode cX1_become 86 = .ok (.aload_n 1, 1) := by decide +kernel
theorem dX1_become_87 : decode cX1_become 87 = .ok (.getfield 18, 3) := by decide +kernel
theorem dX1_become_90 : decode cX1_become 90 = .ok (.iconst 0, 1) := by decide +kernel
theorem dX1_become_91 : decode cX1_become 91 = .ok (.aload_n 0, 1) := by decide +kernel
theorem dX1_become_92 : decode cX1_become 92 = .ok (.getfield 18, 3) := by decide +kernel
theorem dX1_become_95 : decode cX1_become 95 = .ok (.iconst 0, 1) := by decide +kernel
theorem dX1_become_96 : decode cX1_become 96 = .ok (.bipush 6, 2) := by decide +kernel
theorem dX1_become_98 : decode cX1_become 98 = .ok (.invokestatic 49, 3) := by decide +kernel
theorem dX1_become_101 : decode cX1_become 101 = .ok (.aload_n 1, 1) := by decide +kernel
theorem dX1_become_102 : decode cX1_become 102 = .ok (.getfield 21, 3) := by decide +kernel
theorem dX1_become_105 : decode cX1_become 105 = .ok (.iconst 0, 1) := by decide +kernel
theorem dX1_become_106 : decode cX1_become 106 = .ok (.aload_n 0, 1) := by decide +kernel
theorem dX1_become_107 : decode cX1_become 107 = .ok (.getfield 21, 3) := by decide +kernel
theorem dX1_become_110 : decode cX1_become 110 = .ok (.iconst 0, 1) := by decide +kernel
theorem dX1_become_111 : decode cX1_become 111 = .ok (.bipush 20, 2) := by decide +kernel
theorem dX1_become_113 : decode cX1_become 113 = .ok (.invokestatic 49, 3) := by decide +kernel
theorem dX1_become_116 : decode cX1_become 116 = .ok (.aload_n 1, 1) := by decide +kernel
theorem dX1_become_117 : decode cX1_become 117 = .ok (.getfield 24, 3) := by decide +kernel
theorem dX1_become_120 : decode cX1_become 120 = .ok (.iconst 0, 1) := by decide +kernel
theorem dX1_become_121 : decode cX1_become 121 = .ok (.aload_n 0, 1) := by decide +kernel
theorem dX1_become_122 : decode cX1_become 122 = .ok (.getfield 24, 3) := by decide +kernel
theorem dX1_become_125 : decode cX1_become 125 = .ok (.iconst 0, 1) := by decide +kernel
theorem dX1_become_126 : decode cX1_become 126 = .ok (.bipush 20, 2) := by decide +kernel
theorem dX1_become_128 : decode cX1_become 128 = .ok (.invokestatic 49, 3) := by decide +kernel
theorem dX1_become_131 : decode cX1_become 131 = .ok (.return_, 1) := by decide +kernel
theorem dX1_clear_0 : decode cX1_clear 0 = .ok (.aload_n 0, 1) := by decide +kernel
theorem dX1_clear_1 : decode cX1_clear 1 = .ok (.iconst 0, 1) := by decide +kernel
theorem dX1_clear_2 : decode cX1_clear 2 = .ok (.putfield 27, 3) := by decide +kernel
theorem dX1_clear_5 : decode cX1_clear 5 = .ok (.aload_n 0, 1) := by decide +kernel
theorem dX1_clear_6 : decode cX1_clear 6 = .ok (.iconst 0, 1) := by decide +kernel
theorem dX1_clear_7 : decode cX1_clear 7 = .ok (.putfield 31, 3) := by decide +kernel
theorem dX1_clear_10 : decode cX1_clear 10 = .ok (.aload_n 0, 1) := by decide +kernel
theorem dX1_clear_11 : decode cX1_clear 11 = .ok (.iconst 0, 1) := by decide +kernel
theorem dX1_clear_12 : decode cX1_clear 12 = .ok (.putfield 34, 3) := by decide +kernel
theorem dX1_clear_15 : decode cX1_clear 15 = .ok (.aload_n 0, 1) := by decide +kernel
theorem dX1_clear_16 : decode cX1_clear 16 = .ok (.iconst 0, 1) := by decide +kernel
theorem dX1_clear_17 : decode cX1_clear 17 = .ok (.putfield 37, 3) := by decide +kernel
theorem dX1_clear_20 : decode cX1_clear 20 = .ok (.aload_n 0, 1) := by decide +kernel
theorem dX1_clear_21 : decode cX1_clear 21 = .ok (.iconst 0, 1) := by decide +kernel
theorem dX1_clear_22 : decode cX1_clear 22 = .ok (.putfield 40, 3) := by decide +kernel
theorem dX1_clear_25 : decode cX1_clear 25 = .ok (.aload_n 0, 1) := by decide +kernel
theorem dX1_clear_26 : decode cX1_clear 26 = .ok (.iconst 0, 1) := by decide +kernel
theorem dX1_clear_27 : decode cX1_clear 27 = .ok (.putfield 43, 3) := by decide +kernel
theorem dX1_clear_30 : decode cX1_clear 30 = .ok (.aload_n 0, 1) := by decide +kernel
theorem dX1_clear_31 : decode cX1_clear 31 = .ok (.iconst 0, 1) := by decide +kernel
theorem dX1_clear_32 : decode cX1_clear 32 = .ok (.putfield 46, 3) := by decide +kernel
theorem dX1_clear_35 : decode cX1_clear 35 = .ok (.return_, 1) := by decide +kernel
theorem dX6_lay_0 : decode cX6_lay 0 = .ok (.aload_n 0, 1) := by decide +kernel
theorem dX6_lay_1 : decode cX6_lay 1 = .ok (.iconst 1, 1) := by decide +kernel
theorem dX6_lay_2 : decode cX6_lay 2 = .ok (.putfield 15, 3) := by decide +kernel
theorem dX6_lay_5 : decode cX6_lay 5 = .ok (.aload_n 0, 1) := by decide +kernel
theorem dX6_lay_6 : decode cX6_lay 6 = .ok (.iload_n 1, 1) := by decide +kernel
theorem dX6_lay_7 : decode cX6_lay 7 = .ok (.putfield 19, 3) := by decide +kernel
theorem dX6_lay_10 : decode cX6_lay 10 = .ok (.aload_n 0, 1) := by decide +kernel
theorem dX6_lay_11 : decode cX6_lay 11 = .ok (.iload_n 2, 1) := by decide +kernel
theorem dX6_lay_12 : decode cX6_lay 12 = .ok (.putfield 23, 3) := by decide +kernel
theorem dX6_lay_15 : decode cX6_lay 15 = .ok (.iconst 0, 1) := by decide +kernel
theorem dX6_lay_16 : decode cX6_lay 16 = .ok (.istore_n 3, 1) := by decide +kernel
theorem dX6_lay_17 : decode cX6_lay 17 = .ok (.iload_n 3, 1) := by decide +kernel
theorem dX6_lay_18 : decode cX6_lay 18 = .ok (.iload_n 2, 1) := by decide +kernel
theorem dX6_lay_19 : decode cX6_lay 19 = .ok (.if_icmp .ge 16, 3) := by decide +kernel
theorem dX6_lay_22 : decode cX6_lay 22 = .ok (.aload_n 0, 1) := by decide +kernel
theorem dX6_lay_23 : decode cX6_lay 23 = .ok (.getfield 9, 3) := by decide +kernel
theorem dX6_lay_26 : decode cX6_lay 26 = .ok (.iload_n 3, 1) := by decide +kernel
theorem dX6_lay_27 : decode cX6_lay 27 = .ok (.lconst 0, 1) := by decide +kernel
theorem dX6_lay_28 : decode cX6_lay 28 = .ok (.lastore, 1) := by decide +kernel
theorem dX6_lay_29 : decode cX6_lay 29 = .ok (.iinc 3 1, 3) := by decide +kernel
theorem dX6_lay_32 : decode cX6_lay 32 = .ok (.goto (-15), 3) := by decide +kernel
theorem dX6_lay_35 : decode cX6_lay 35 = .ok (.return_, 1) := by decide +kernel
theorem dX7_nextToken_0 : decode cX7_nextToken 0 = .ok (.aload_n 0, 1) := by decide +kernel
theorem dX7_nextToken_1 : decode cX7_nextToken 1 = .ok (.getfield 30, 3) := by decide +kernel
theorem dX7_nextToken_4 : decode cX7_nextToken 4 = .ok (.aload_n 0, 1) := by decide +kernel
theorem dX7_nextToken_5 : decode cX7_nextToken 5 = .ok (.getfield 19, 3) := by decide +kernel
theorem dX7_nextToken_8 : decode cX7_nextToken 8 = .ok (.if_icmp .ge 31, 3) := by decide +kernel
theorem dX7_nextToken_11 : decode cX7_nextToken 11 = .ok (.aload_n 0, 1) := by decide +kernel
theorem dX7_nextToken_12 : decode cX7_nextToken 12 = .ok (.getfield 9, 3) := by decide +kernel
theorem dX7_nextToken_15 : decode cX7_nextToken 15 = .ok (.aload_n 0, 1) := by decide +kernel
theorem dX7_nextToken_16 : decode cX7_nextToken 16 = .ok (.getfield 30, 3) := by decide +kernel
theorem dX7_nextToken_19 : decode cX7_nextToken 19 = .ok (.baload, 1) := by decide +kernel
theorem dX7_nextToken_20 : decode cX7_nextToken 20 = .ok (.invokestatic 116, 3) := by decide +kernel
theorem dX7_nextToken_23 : decode cX7_nextToken 23 = .ok (.ifCond .eq 16, 3) := by decide +kernel
theorem dX7_nextToken_26 : decode cX7_nextToken 26 = .ok (.aload_n 0, 1) := by decide +kernel
theorem dX7_nextToken_27 : decode cX7_nextToken 27 = .ok (.dup, 1) := by decide +kernel
theorem dX7_nextToken_28 : decode cX7_nextToken 28 = .ok (.getfield 30, 3) := by decide +kernel
theorem dX7_nextToken_31 : decode cX7_nextToken 31 = .ok (.iconst 1, 1) := by decide +kernel
theorem dX7_nextToken_32 : decode cX7_nextToken 32 = .ok (.iadd, 1) := by decide +kernel
theorem dX7_nextToken_33 : decode cX7_nextToken 33 = .ok (.putfield 30, 3) := by decide +kernel
theorem dX7_nextToken_36 : decode cX7_nextToken 36 = .ok (.goto (-36), 3) := by decide +kernel
theorem dX7_nextToken_39 : decode cX7_nextToken 39 = .ok (.aload_n 0, 1) := by decide +kernel
theorem dX7_nextToken_40 : decode cX7_nextToken 40 = .ok (.aload_n 0, 1) := by decide +kernel
theorem dX7_nextToken_41 : decode cX7_nextToken 41 = .ok (.getfield 30, 3) := by decide +kernel
theorem dX7_nextToken_44 : decode cX7_nextToken 44 = .ok (.putfield 113, 3) := by decide +kernel
theorem dX7_nextToken_47 : decode cX7_nextToken 47 = .ok (.aload_n 0, 1) := by decide +kernel
theorem dX7_nextToken_48 : decode cX7_nextToken 48 = .ok (.getfield 30, 3) := by decide +kernel
theorem dX7_nextToken_51 : decode cX7_nextToken 51 = .ok (.aload_n 0, 1) := by decide +kernel
theorem dX7_nextToken_52 : decode cX7_nextToken 52 = .ok (.getfield 19, 3) := by decide +kernel
theorem dX7_nextToken_55 : decode cX7_nextToken 55 = .ok (.if_icmp .lt 9, 3) := by decide +kernel
theorem dX7_nextToken_58 : decode cX7_nextToken 58 = .ok (.aload_n 0, 1) := by decide +kernel
theorem dX7_nextToken_59 : decode cX7_nextToken 59 = .ok (.iconst 0, 1) := by decide +kernel
theorem dX7_nextToken_60 : decode cX7_nextToken 60 = .ok (.putfield 36, 3) := by decide +kernel
theorem dX7_nextToken_63 : decode cX7_nextToken 63 = .ok (.return_, 1) := by decide +kernel
theorem dX7_nextToken_64 : decode cX7_nextToken 64 = .ok (.aload_n 0, 1) := by decide +kernel
theorem dX7_nextToken_65 : decode cX7_nextToken 65 = .ok (.getfield 9, 3) := by decide +kernel
theorem dX7_nextToken_68 : decode cX7_nextToken 68 = .ok (.aload_n 0, 1) := by decide +kernel
theorem dX7_nextToken_69 : decode cX7_nextToken 69 = .ok (.getfield 30, 3) := by decide +kernel
theorem dX7_nextToken_72 : decode cX7_nextToken 72 = .ok (.baload, 1) := by decide +kernel
theorem dX7_nextToken_73 : decode cX7_nextToken 73 = .ok (.istore_n 1, 1) := by decide +kernel
theorem dX7_nextToken_74 : decode cX7_nextToken 74 = .ok (.aload_n 0, 1) := by decide +kernel
theorem dX7_nextToken_75 : decode cX7_nextToken 75 = .ok (.dup, 1) := by decide +kernel
theorem dX7_nextToken_76 : decode cX7_nextToken 76 = .ok (.getfield 30, 3) := by decide +kernel
theorem dX7_nextToken_79 : decode cX7_nextToken 79 = .ok (.iconst 1, 1) := by decide +kernel
theorem dX7_nextToken_80 : decode cX7_nextToken 80 = .ok (.iadd, 1) := by decide +kernel
theorem dX7_nextToken_81 : decode cX7_nextToken 81 = .ok (.putfield 30, 3) := by decide +kernel
theorem dX7_nextToken_84 : decode cX7_nextToken 84 = .ok (.iload_n 1, 1) := by decide +kernel
theorem dX7_nextToken_85 : decode cX7_nextToken 85 = .ok (.invokestatic 120, 3) := by decide +kernel
theorem dX7_nextToken_88 : decode cX7_nextToken 88 = .ok (.ifCond .eq 47, 3) := by decide +kernel
theorem dX7_nextToken_91 : decode cX7_nextToken 91 = .ok (.aload_n 0, 1) := by decide +kernel
theorem dX7_nextToken_92 : decode cX7_nextToken 92 = .ok (.iconst 1, 1) := by decide +kernel
theorem dX7_nextToken_93 : decode cX7_nextToken 93 = .ok (.putfield 36, 3) := by decide +kernel
theorem dX7_nextToken_96 : decode cX7_nextToken 96 = .ok (.aload_n 0, 1) := by decide +kernel
theorem dX7_nextToken_97 : decode cX7_nextToken 97 = .ok (.getfield 30, 3) := by decide +kernel
theorem dX7_nextToken_100 : decode cX7_nextToken 100 = .ok (.aload_n 0, 1) := by decide +kernel
theorem dX7_nextToken_101 : decode cX7_nextToken 101 = .ok (.getfield 19, 3) := by decide +kernel
theorem dX7_nextToken_104 : decode cX7_nextToken 104 = .ok (.if_icmp .ge 97, 3) := by decide +kernel
theorem dX7_nextToken_107 : decode cX7_nextToken 107 = .ok (.aload_n 0, 1) := by decide +kernel
theorem dX7_nextToken_108 : decode cX7_nextToken 108 = .ok (.getfield 9, 3) := by decide +kernel
theorem dX7_nextToken_111 : decode cX7_nextToken 111 = .ok (.aload_n 0, 1) := by decide +kernel
theorem dX7_nextToken_112 : decode cX7_nextToken 112 = .ok (.getfield 30, 3) := by decide +kernel
theorem dX7_nextToken_115 : decode cX7_nextToken 115 = .ok (.baload, 1) := by decide +kernel
theorem dX7_nextToken_116 : decode cX7_nextToken 116 = .ok (.invokestatic 120, 3) := by decide +kernel
theorem dX7_nextToken_119 : decode cX7_nextToken 119 = .ok (.ifCond .eq 82, 3) := by decide +kernel
theorem dX7_nextToken_122 : decode cX7_nextToken 122 = .ok (.aload_n 0, 1) := by decide +kernel
theorem dX7_nextToken_123 : decode cX7_nextToken 123 = .ok (.dup, 1) := by decide +kernel
theorem dX7_nextToken_124 : decode cX7_nextToken 124 = .ok (.getfield 30, 3) := by decide +kernel
theorem dX7_nextToken_127 : decode cX7_nextToken 127 = .ok (.iconst 1, 1) := by decide +kernel
theorem dX7_nextToken_128 : decode cX7_nextToken 128 = .ok (.iadd, 1) := by decide +kernel
theorem dX7_nextToken_129 : decode cX7_nextToken 129 = .ok (.putfield 30, 3) := by decide +kernel
theorem dX7_nextToken_132 : decode cX7_nextToken 132 = .ok (.goto (-36), 3) := by decide +kernel
theorem dX7_nextToken_135 : decode cX7_nextToken 135 = .ok (.iload_n 1, 1) := by decide +kernel
theorem dX7_nextToken_136 : decode cX7_nextToken 136 = .ok (.invokestatic 123, 3) := by decide +kernel
theorem dX7_nextToken_139 : decode cX7_nextToken 139 = .ok (.ifCond .eq 47, 3) := by decide +kernel
theorem dX7_nextToken_142 : decode cX7_nextToken 142 = .ok (.aload_n 0, 1) := by decide +kernel
theorem dX7_nextToken_143 : decode cX7_nextToken 143 = .ok (.iconst 2, 1) := by decide +kernel
theorem dX7_nextToken_144 : decode cX7_nextToken 144 = .ok (.putfield 36, 3) := by decide +kernel
theorem dX7_nextToken_147 : decode cX7_nextToken 147 = .ok (.aload_n 0, 1) := by decide +kernel
theorem dX7_nextToken_148 : decode cX7_nextToken 148 = .ok (.getfield 30, 3) := by decide +kernel
theorem dX7_nextToken_151 : decode cX7_nextToken 151 = .ok (.aload_n 0, 1) := by decide +kernel
theorem dX7_nextToken_152 : decode cX7_nextToken 152 = .ok (.getfield 19, 3) := by decide +kernel
theorem dX7_nextToken_155 : decode cX7_nextToken 155 = .ok (.if_icmp .ge 46, 3) := by decide +kernel
theorem dX7_nextToken_158 : decode cX7_nextToken 158 = .ok (.aload_n 0, 1) := by decide +kernel
theorem dX7_nextToken_159 : decode cX7_nextToken 159 = .ok (.getfield 9, 3) := by decide +kernel
theorem dX7_nextToken_162 : decode cX7_nextToken 162 = .ok (.aload_n 0, 1) := by decide +kernel
theorem dX7_nextToken_163 : decode cX7_nextToken 163 = .ok (.getfield 30, 3) := by decide +kernel
theorem dX7_nextToken_166 : decode cX7_nextToken 166 = .ok (.baload, 1) := by decide +kernel
theorem dX7_nextToken_167 : decode cX7_nextToken 167 = .ok (.invokestatic 123, 3) := by decide +kernel
theorem dX7_nextToken_170 : decode cX7_nextToken 170 = .ok (.ifCond .eq 31, 3) := by decide +kernel
theorem dX7_nextToken_173 : decode cX7_nextToken 173 = .ok (.aload_n 0, 1) := by decide +kernel
theorem dX7_nextToken_174 : decode cX7_nextToken 174 = .ok (.dup, 1) := by decide +kernel
theorem dX7_nextToken_175 : decode cX7_nextToken 175 = .ok (.getfield 30, 3) := by decide +kernel
theorem dX7_nextToken_178 : decode cX7_nextToken 178 = .ok (.iconst 1, 1) := by decide +kernel
theorem dX7_nextToken_179 : decode cX7_nextToken 179 = .ok (.iadd, 1) := by decide +kernel
theorem dX7_nextToken_180 : decode cX7_nextToken 180 = .ok (.putfield 30, 3) := by decide +kernel
theorem dX7_nextToken_183 : decode cX7_nextToken 183 = .ok (.goto (-36), 3) := by decide +kernel
theorem dX7_nextToken_186 : decode cX7_nextToken 186 = .ok (.aload_n 0, 1) := by decide +kernel
theorem dX7_nextToken_187 : decode cX7_nextToken 187 = .ok (.iload_n 1, 1) := by decide +kernel
theorem dX7_nextToken_188 : decode cX7_nextToken 188 = .ok (.bipush 59, 2) := by decide +kernel
theorem dX7_nextToken_190 : decode cX7_nextToken 190 = .ok (.if_icmp .ne 7, 3) := by decide +kernel
theorem dX7_nextToken_193 : decode cX7_nextToken 193 = .ok (.iconst 3, 1) := by decide +kernel
theorem dX7_nextToken_194 : decode cX7_nextToken 194 = .ok (.goto 4, 3) := by decide +kernel
theorem dX7_nextToken_197 : decode cX7_nextToken 197 = .ok (.iconst 4, 1) := by decide +kernel
theorem dX7_nextToken_198 : decode cX7_nextToken 198 = .ok (.putfield 36, 3) := by decide +kernel
theorem dX7_nextToken_201 : decode cX7_nextToken 201 = .ok (.return_, 1) := by decide +kernel
theorem dX7_put_0 : decode cX7_put 0 = .ok (.bipush 24, 2) := by decide +kernel
theorem dX7_put_2 : decode cX7_put 2 = .ok (.istore_n 2, 1) := by decide +kernel
theorem dX7_put_3 : decode cX7_put 3 = .ok (.iload_n 2, 1) := by decide +kernel
theorem dX7_put_4 : decode cX7_put 4 = .ok (.ifCond .lt 42, 3) := by decide +kernel
theorem dX7_put_7 : decode cX7_put 7 = .ok (.aload_n 0, 1) := by decide +kernel
theorem dX7_put_8 : decode cX7_put 8 = .ok (.getfield 19, 3) := by decide +kernel
theorem dX7_put_11 : decode cX7_put 11 = .ok (.sipush 500, 3) := by decide +kernel
theorem dX7_put_14 : decode cX7_put 14 = .ok (.if_icmp .ge 26, 3) := by decide +kernel
theorem dX7_put_17 : decode cX7_put 17 = .ok (.aload_n 0, 1) := by decide +kernel
theorem dX7_put_18 : decode cX7_put 18 = .ok (.getfield 9, 3) := by decide +kernel
theorem dX7_put_21 : decode cX7_put 21 = .ok (.aload_n 0, 1) := by decide +kernel
theorem dX7_put_22 : decode cX7_put 22 = .ok (.getfield 19, 3) := by decide +kernel
theorem dX7_put_25 : decode cX7_put 25 = .ok (.iload_n 1, 1) := by decide +kernel
theorem dX7_put_26 : decode cX7_put 26 = .ok (.iload_n 2, 1) := by decide +kernel
theorem dX7_put_27 : decode cX7_put 27 = .ok (.ishr, 1) := by decide +kernel
theorem dX7_put_28 : decode cX7_put 28 = .ok (.i2b, 1) := by decide +kernel
theorem dX7_put_29 : decode cX7_put 29 = .ok (.bastore, 1) := by decide +kernel
theorem dX7_put_30 : decode cX7_put 30 = .ok (.aload_n 0, 1) := by decide +kernel
theorem dX7_put_31 : decode cX7_put 31 = .ok (.dup, 1) := by decide +kernel
theorem dX7_put_32 : decode cX7_put 32 = .ok (.getfield 19, 3) := by decide +kernel
theorem dX7_put_35 : decode cX7_put 35 = .ok (.iconst 1, 1) := by decide +kernel
theorem dX7_put_36 : decode cX7_put 36 = .ok (.iadd, 1) := by decide +kernel
theorem dX7_put_37 : decode cX7_put 37 = .ok (.putfield 19, 3) := by decide +kernel
theorem dX7_put_40 : decode cX7_put 40 = .ok (.iinc 2 (-8), 3) := by decide +kernel
theorem dX7_put_43 : decode cX7_put 43 = .ok (.goto (-40), 3) := by decide +kernel
theorem dX7_put_46 : decode cX7_put 46 = .ok (.return_, 1) := by decide +kernel
theorem dX7_readInto_0 : decode cX7_readInto 0 = .ok (.aload_n 1, 1) := by decide +kernel
theorem dX7_readInto_1 : decode cX7_readInto 1 = .ok (.invokevirtual 22, 3) := by decide +kernel
theorem dX7_readInto_4 : decode cX7_readInto 4 = .ok (.aload_n 0, 1) := by decide +kernel
theorem dX7_readInto_5 : decode cX7_readInto 5 = .ok (.iconst 0, 1) := by decide +kernel
theorem dX7_readInto_6 : decode cX7_readInto 6 = .ok (.putfield 27, 3) := by decide +kernel
theorem dX7_readInto_9 : decode cX7_readInto 9 = .ok (.aload_n 0, 1) := by decide +kernel
theorem dX7_readInto_10 : decode cX7_readInto 10 = .ok (.iconst (-1), 1) := by decide +kernel
theorem dX7_readInto_11 : decode cX7_readInto 11 = .ok (.putfield 15, 3) := by decide +kernel
theorem dX7_readInto_14 : decode cX7_readInto 14 = .ok (.aload_n 0, 1) := by decide +kernel
theorem dX7_readInto_15 : decode cX7_readInto 15 = .ok (.iconst 0, 1) := by decide +kernel
theorem dX7_readInto_16 : decode cX7_readInto 16 = .ok (.putfield 30, 3) := by decide +kernel
theorem dX7_readInto_19 : decode cX7_readInto 19 = .ok (.aload_n 0, 1) := by decide +kernel
theorem dX7_readInto_20 : decode cX7_readInto 20 = .ok (.invokevirtual 33, 3) := by decide +kernel
theorem dX7_readInto_23 : decode cX7_readInto 23 = .ok (.iconst 0, 1) := by decide +kernel
theorem dX7_readInto_24 : decode cX7_readInto 24 = .ok (.istore_n 2, 1) := by decide +kernel
theorem dX7_readInto_25 : decode cX7_readInto 25 = .ok (.iload_n 2, 1) := by decide +kernel
theorem dX7_readInto_26 : decode cX7_readInto 26 = .ok (.sipush 500, 3) := by decide +kernel
theorem dX7_readInto_29 : decode cX7_readInto 29 = .ok (.if_icmp .ge 28, 3) := by decide +kernel
theorem dX7_readInto_32 : decode cX7_readInto 32 = .ok (.aload_n 0, 1) := by decide +kernel
theorem dX7_readInto_33 : decode cX7_readInto 33 = .ok (.getfield 36, 3) := by decide +kernel
theorem dX7_readInto_36 : decode cX7_readInto 36 = .ok (.ifCond .eq 21, 3) := by decide +kernel
theorem dX7_readInto_39 : decode cX7_readInto 39 = .ok (.aload_n 0, 1) := by decide +kernel
theorem dX7_readInto_40 : decode cX7_readInto 40 = .ok (.getfield 27, 3) := by decide +kernel
theorem dX7_readInto_43 : decode cX7_readInto 43 = .ok (.ifCond .ne 14, 3) := by decide +kernel
theorem dX7_readInto_46 : decode cX7_readInto 46 = .ok (.aload_n 0, 1) := by decide +kernel
theorem dX7_readInto_47 : decode cX7_readInto 47 = .ok (.aload_n 1, 1) := by decide +kernel
theorem dX7_readInto_48 : decode cX7_readInto 48 = .ok (.invokevirtual 39, 3) := by decide +kernel
theorem dX7_readInto_51 : decode cX7_readInto 51 = .ok (.iinc 2 1, 3) := by decide +kernel
theorem dX7_readInto_54 : decode cX7_readInto 54 = .ok (.goto (-29), 3) := by decide +kernel
theorem dX7_readInto_57 : decode cX7_readInto 57 = .ok (.aload_n 0, 1) := by decide +kernel
theorem dX7_readInto_58 : decode cX7_readInto 58 = .ok (.getfield 27, 3) := by decide +kernel
theorem dX7_readInto_61 : decode cX7_readInto 61 = .ok (.ifCond .ne 7, 3) := by decide +kernel
theorem dX7_readInto_64 : decode cX7_readInto 64 = .ok (.iconst 1, 1) := by decide +kernel
theorem dX7_readInto_65 : decode cX7_readInto 65 = .ok (.goto 4, 3) := by decide +kernel
theorem dX7_readInto_68 : decode cX7_readInto 68 = .ok (.iconst 0, 1) := by decide +kernel
theorem dX7_readInto_69 : decode cX7_readInto 69 = .ok (.ireturn, 1) := by decide +kernel
theorem dX8_above_0 : decode cX8_above 0 = .ok (.aload_n 0, 1) := by decide +kernel
theorem dX8_above_1 : decode cX8_above 1 = .ok (.iload_n 1, 1) := by decide +kernel
theorem dX8_above_2 : decode cX8_above 2 = .ok (.invokevirtual 132, 3) := by decide +kernel
theorem dX8_above_5 : decode cX8_above 5 = .ok (.ifCond .eq 11, 3) := by decide +kernel
theorem dX8_above_8 : decode cX8_above 8 = .ok (.aload_n 0, 1) := by decide +kernel
theorem dX8_above_9 : decode cX8_above 9 = .ok (.iload_n 2, 1) := by decide +kernel
theorem dX8_above_10 : decode cX8_above 10 = .ok (.invokevirtual 132, 3) := by decide +kernel
theorem dX8_above_13 : decode cX8_above 13 = .ok (.ifCond .ne 6, 3) := by decide +kernel
theorem dX8_above_16 : decode cX8_above 16 = .ok (.bipush (-2), 2) := by decide +kernel
theorem dX8_above_18 : decode cX8_above 18 = .ok (.ireturn, 1) := by decide +kernel
theorem dX8_above_19 : decode cX8_above 19 = .ok (.aload_n 0, 1) := by decide +kernel
theorem dX8_above_20 : decode cX8_above 20 = .ok (.iload_n 1, 1) := by decide +kernel
theorem dX8_above_21 : decode cX8_above 21 = .ok (.invokevirtual 135, 3) := by decide +kernel
theorem dX8_above_24 : decode cX8_above 24 = .ok (.aload_n 0, 1) := by decide +kernel
theorem dX8_above_25 : decode cX8_above 25 = .ok (.iload_n 2, 1) := by decide +kernel
theorem dX8_above_26 : decode cX8_above 26 = .ok (.invokevirtual 135, 3) := by decide +kernel
theorem dX8_above_29 : decode cX8_above 29 = .ok (.invokevirtual 213, 3) := by decide +kernel
theorem dX8_above_32 : decode cX8_above 32 = .ok (.ireturn, 1) := by decide +kernel
theorem dX8_ahead_0 : decode cX8_ahead 0 = .ok (.aload_n 0, 1) := by decide +kernel
theorem dX8_ahead_1 : decode cX8_ahead 1 = .ok (.iload_n 1, 1) := by decide +kernel
theorem dX8_ahead_2 : decode cX8_ahead 2 = .ok (.invokevirtual 259, 3) := by decide +kernel
theorem dX8_ahead_5 : decode cX8_ahead 5 = .ok (.istore_n 2, 1) := by decide +kernel
theorem dX8_ahead_6 : decode cX8_ahead 6 = .ok (.iload_n 2, 1) := by decide +kernel
theorem dX8_ahead_7 : decode cX8_ahead 7 = .ok (.ifCond .eq 5, 3) := by decide +kernel
theorem dX8_ahead_10 : decode cX8_ahead 10 = .ok (.iload_n 2, 1) := by decide +kernel
theorem dX8_ahead_11 : decode cX8_ahead 11 = .ok (.ireturn, 1) := by decide +kernel
theorem dX8_ahead_12 : decode cX8_ahead 12 = .ok (.aload_n 0, 1) := by decide +kernel
theorem dX8_ahead_13 : decode cX8_ahead 13 = .ok (.aload_n 0, 1) := by decide +kernel
theorem dX8_ahead_14 : decode cX8_ahead 14 = .ok (.getfield 70, 3) := by decide +kernel
theorem dX8_ahead_17 : decode cX8_ahead 17 = .ok (.getfield 146, 3) := by decide +kernel
theorem dX8_ahead_20 : decode cX8_ahead 20 = .ok (.invokevirtual 242, 3) := by decide +kernel
theorem dX8_ahead_23 : decode cX8_ahead 23 = .ok (.aload_n 0, 1) := by decide +kernel
theorem dX8_ahead_24 : decode cX8_ahead 24 = .ok (.getfield 70, 3) := by decide +kernel
theorem dX8_ahead_27 : decode cX8_ahead 27 = .ok (.invokevirtual 262, 3) := by decide +kernel
theorem dX8_ahead_30 : decode cX8_ahead 30 = .ok (.ireturn, 1) := by decide +kernel
theorem dX8_all_0 : decode cX8_all 0 = .ok (.aload_n 0, 1) := by decide +kernel
theorem dX8_all_1 : decode cX8_all 1 = .ok (.iload_n 1, 1) := by decide +kernel
theorem dX8_all_2 : decode cX8_all 2 = .ok (.invokevirtual 132, 3) := by decide +kernel
theorem dX8_all_5 : decode cX8_all 5 = .ok (.ifCond .eq 14, 3) := by decide +kernel
theorem dX8_all_8 : decode cX8_all 8 = .ok (.aload_n 0, 1) := by decide +kernel
theorem dX8_all_9 : decode cX8_all 9 = .ok (.iload_n 1, 1) := by decide +kernel
theorem dX8_all_10 : decode cX8_all 10 = .ok (.invokevirtual 135, 3) := by decide +kernel
theorem dX8_all_13 : decode cX8_all 13 = .ok (.getfield 146, 3) := by decide +kernel
theorem dX8_all_16 : decode cX8_all 16 = .ok (.goto 5, 3) := by decide +kernel
theorem dX8_all_19 : decode cX8_all 19 = .ok (.bipush (-2), 2) := by decide +kernel
theorem dX8_all_21 : decode cX8_all 21 = .ok (.ireturn, 1) := by decide +kernel
theorem dX8_anew_0 : decode cX8_anew 0 = .ok (.aload_n 0, 1) := by decide +kernel
theorem dX8_anew_1 : decode cX8_anew 1 = .ok (.invokevirtual 177, 3) := by decide +kernel
theorem dX8_anew_4 : decode cX8_anew 4 = .ok (.ifCond .eq 6, 3) := by decide +kernel
theorem dX8_anew_7 : decode cX8_anew 7 = .ok (.bipush (-2), 2) := by decide +kernel
theorem dX8_anew_9 : decode cX8_anew 9 = .ok (.ireturn, 1) := by decide +kernel
theorem dX8_anew_10 : decode cX8_anew 10 = .ok (.aload_n 0, 1) := by decide +kernel
theorem dX8_anew_11 : decode cX8_anew 11 = .ok (.getfield 19, 3) := by decide +kernel
theorem dX8_anew_14 : decode cX8_anew 14 = .ok (.getfield 358, 3) := by decide +kernel
theorem dX8_anew_17 : decode cX8_anew 17 = .ok (.istore_n 1, 1) := by decide +kernel
theorem dX8_anew_18 : decode cX8_anew 18 = .ok (.aload_n 0, 1) := by decide +kernel
theorem dX8_anew_19 : decode cX8_anew 19 = .ok (.getfield 19, 3) := by decide +kernel
theorem dX8_anew_22 : decode cX8_anew 22 = .ok (.iconst 0, 1) := by decide +kernel
theorem dX8_anew_23 : decode cX8_anew 23 = .ok (.putfield 358, 3) := by decide +kernel
theorem dX8_anew_26 : decode cX8_anew 26 = .ok (.aload_n 0, 1) := by decide +kernel
theorem dX8_anew_27 : decode cX8_anew 27 = .ok (.invokevirtual 101, 3) := by decide +kernel
theorem dX8_anew_30 : decode cX8_anew 30 = .ok (.iload_n 1, 1) := by decide +kernel
theorem dX8_anew_31 : decode cX8_anew 31 = .ok (.ireturn, 1) := by decide +kernel
theorem dX8_asNumber_0 : decode cX8_asNumber 0 = .ok (.iload_n 0, 1) := by decide +kernel
theorem dX8_asNumber_1 : decode cX8_asNumber 1 = .ok (.ifCond .eq 7, 3) := by decide +kernel
theorem dX8_asNumber_4 : decode cX8_asNumber 4 = .ok (.iconst 1, 1) := by decide +kernel
theorem dX8_asNumber_5 : decode cX8_asNumber 5 = .ok (.goto 4, 3) := by decide +kernel
theorem dX8_asNumber_8 : decode cX8_asNumber 8 = .ok (.iconst 0, 1) := by decide +kernel
theorem dX8_asNumber_9 : decode cX8_asNumber 9 = .ok (.ireturn, 1) := by decide +kernel
theorem dX8_ask_0 : decode cX8_ask 0 = .ok (.aload_n 0, 1) := by decide +kernel
theorem dX8_ask_1 : decode cX8_ask 1 = .ok (.iload_n 1, 1) := by decide +kernel
theorem dX8_ask_2 : decode cX8_ask 2 = .ok (.aload_n 0, 1) := by decide +kernel
theorem dX8_ask_3 : decode cX8_ask 3 = .ok (.iload_n 2, 1) := by decide +kernel
theorem dX8_ask_4 : decode cX8_ask 4 = .ok (.invokevirtual 113, 3) := by decide +kernel
theorem dX8_ask_7 : decode cX8_ask 7 = .ok (.invokevirtual 284, 3) := by decide +kernel
theorem dX8_ask_10 : decode cX8_ask 10 = .ok (.istore_n 3, 1) := by decide +kernel
theorem dX8_ask_11 : decode cX8_ask 11 = .ok (.iload_n 3, 1) := by decide +kernel
theorem dX8_ask_12 : decode cX8_ask 12 = .ok (.ifCond .eq 7, 3) := by decide +kernel
theorem dX8_ask_15 : decode cX8_ask 15 = .ok (.iload_n 3, 1) := by decide +kernel
theorem dX8_ask_16 : decode cX8_ask 16 = .ok (.goto 19, 3) := by decide +kernel
theorem dX8_ask_19 : decode cX8_ask 19 = .ok (.aload_n 0, 1) := by decide +kernel
theorem dX8_ask_20 : decode cX8_ask 20 = .ok (.iload_n 1, 1) := by decide +kernel
theorem dX8_ask_21 : decode cX8_ask 21 = .ok (.iload_n 2, 1) := by decide +kernel
theorem dX8_ask_22 : decode cX8_ask 22 = .ok (.invokevirtual 288, 3) := by decide +kernel
theorem dX8_ask_25 : decode cX8_ask 25 = .ok (.aload_n 0, 1) := by decide +kernel
theorem dX8_ask_26 : decode cX8_ask 26 = .ok (.getfield 19, 3) := by decide +kernel
theorem dX8_ask_29 : decode cX8_ask 29 = .ok (.getfield 181, 3) := by decide +kernel
theorem dX8_ask_32 : decode cX8_ask 32 = .ok (.invokevirtual 297, 3) := by decide +kernel
theorem dX8_ask_35 : decode cX8_ask 35 = .ok (.ireturn, 1) := by decide +kernel
theorem dX8_away_0 : decode cX8_away 0 = .ok (.aload_n 0, 1) := by decide +kernel
theorem dX8_away_1 : decode cX8_away 1 = .ok (.iload_n 1, 1) := by decide +kernel
theorem dX8_away_2 : decode cX8_away 2 = .ok (.invokevirtual 132, 3) := by decide +kernel
theorem dX8_away_5 : decode cX8_away 5 = .ok (.ifCond .eq 12, 3) := by decide +kernel
theorem dX8_away_8 : decode cX8_away 8 = .ok (.aload_n 0, 1) := by decide +kernel
theorem dX8_away_9 : decode cX8_away 9 = .ok (.iload_n 1, 1) := by decide +kernel
theorem dX8_away_10 : decode cX8_away 10 = .ok (.iconst 0, 1) := by decide +kernel
theorem dX8_away_11 : decode cX8_away 11 = .ok (.invokevirtual 355, 3) := by decide +kernel
theorem dX8_away_14 : decode cX8_away 14 = .ok (.goto 5, 3) := by decide +kernel
theorem dX8_away_17 : decode cX8_away 17 = .ok (.bipush (-2), 2) := by decide +kernel
theorem dX8_away_19 : decode cX8_away 19 = .ok (.ireturn, 1) := by decide +kernel
theorem dX8_back_0 : decode cX8_back 0 = .ok (.iload_n 1, 1) := by decide +kernel
theorem dX8_back_1 : decode cX8_back 1 = .ok (.ifCond .lt 8, 3) := by decide +kernel
theorem dX8_back_4 : decode cX8_back 4 = .ok (.iload_n 1, 1) := by decide +kernel
theorem dX8_back_5 : decode cX8_back 5 = .ok (.iconst 3, 1) := by decide +kernel
theorem dX8_back_6 : decode cX8_back 6 = .ok (.if_icmp .lt 6, 3) := by decide +kernel
theorem dX8_back_9 : decode cX8_back 9 = .ok (.bipush (-2), 2) := by decide +kernel
theorem dX8_back_11 : decode cX8_back 11 = .ok (.ireturn, 1) := by decide +kernel
theorem dX8_back_12 : decode cX8_back 12 = .ok (.aload_n 0, 1) := by decide +kernel
theorem dX8_back_13 : decode cX8_back 13 = .ok (.getfield 26, 3) := by decide +kernel
theorem dX8_back_16 : decode cX8_back 16 = .ok (.iload_n 1, 1) := by decide +kernel
theorem dX8_back_17 : decode cX8_back 17 = .ok (.aaload, 1) := by decide +kernel
theorem dX8_back_18 : decode cX8_back 18 = .ok (.getfield 378, 3) := by decide +kernel
theorem dX8_back_21 : decode cX8_back 21 = .ok (.ifCond .ne 6, 3) := by decide +kernel
theorem dX8_back_24 : decode cX8_back 24 = .ok (.bipush (-6), 2) := by decide +kernel
theorem dX8_back_26 : decode cX8_back 26 = .ok (.ireturn, 1) := by decide +kernel
theorem dX8_back_27 : decode cX8_back 27 = .ok (.aload_n 0, 1) := by decide +kernel
theorem dX8_back_28 : decode cX8_back 28 = .ok (.getfield 19, 3) := by decide +kernel
theorem dX8_back_31 : decode cX8_back 31 = .ok (.aload_n 0, 1) := by decide +kernel
theorem dX8_back_32 : decode cX8_back 32 = .ok (.getfield 26, 3) := by decide +kernel
theorem dX8_back_35 : decode cX8_back 35 = .ok (.iload_n 1, 1) := by decide +kernel
theorem dX8_back_36 : decode cX8_back 36 = .ok (.aaload, 1) := by decide +kernel
theorem dX8_back_37 : decode cX8_back 37 = .ok (.invokevirtual 97, 3) := by decide +kernel
theorem dX8_back_40 : decode cX8_back 40 = .ok (.aload_n 0, 1) := by decide +kernel
theorem dX8_back_41 : decode cX8_back 41 = .ok (.invokevirtual 101, 3) := by decide +kernel
theorem dX8_back_44 : decode cX8_back 44 = .ok (.iconst 0, 1) := by decide +kernel
theorem dX8_back_45 : decode cX8_back 45 = .ok (.ireturn, 1) := by decide +kernel
theorem dX8_bring_0 : decode cX8_bring 0 = .ok (.aload_n 0, 1) := by decide +kernel
theorem dX8_bring_1 : decode cX8_bring 1 = .ok (.iload_n 1, 1) := by decide +kernel
theorem dX8_bring_2 : decode cX8_bring 2 = .ok (.invokevirtual 165, 3) := by decide +kernel
theorem dX8_bring_5 : decode cX8_bring 5 = .ok (.ifCond .eq 13, 3) := by decide +kernel
theorem dX8_bring_8 : decode cX8_bring 8 = .ok (.iload_n 2, 1) := by decide +kernel
theorem dX8_bring_9 : decode cX8_bring 9 = .ok (.ifCond .lt 9, 3) := by decide +kernel
theorem dX8_bring_12 : decode cX8_bring 12 = .ok (.iload_n 2, 1) := by decide +kernel
theorem dX8_bring_13 : decode cX8_bring 13 = .ok (.bipush 30, 2) := by decide +kernel
theorem dX8_bring_15 : decode cX8_bring 15 = .ok (.if_icmp .le 6, 3) := by decide +kernel
theorem dX8_bring_18 : decode cX8_bring 18 = .ok (.bipush (-2), 2) := by decide +kernel
theorem dX8_bring_20 : decode cX8_bring 20 = .ok (.ireturn, 1) := by decide +kernel
theorem dX8_bring_21 : decode cX8_bring 21 = .ok (.aload_n 0, 1) := by decide +kernel
theorem dX8_bring_22 : decode cX8_bring 22 = .ok (.invokevirtual 272, 3) := by decide +kernel
theorem dX8_bring_25 : decode cX8_bring 25 = .ok (.iload_n 2, 1) := by decide +kernel
theorem dX8_bring_26 : decode cX8_bring 26 = .ok (.if_icmp .lt 5, 3) := by decide +kernel
theorem dX8_bring_29 : decode cX8_bring 29 = .ok (.iconst 0, 1) := by decide +kernel
theorem dX8_bring_30 : decode cX8_bring 30 = .ok (.ireturn, 1) := by decide +kernel
theorem dX8_bring_31 : decode cX8_bring 31 = .ok (.iconst 1, 1) := by decide +kernel
theorem dX8_bring_32 : decode cX8_bring 32 = .ok (.istore_n 3, 1) := by decide +kernel
theorem dX8_bring_33 : decode cX8_bring 33 = .ok (.iload_n 3, 1) := by decide +kernel
theorem dX8_bring_34 : decode cX8_bring 34 = .ok (.bipush 20, 2) := by decide +kernel
theorem dX8_bring_36 : decode cX8_bring 36 = .ok (.if_icmp .gt 21, 3) := by decide +kernel
theorem dX8_bring_39 : decode cX8_bring 39 = .ok (.aload_n 0, 1) := by decide +kernel
theorem dX8_bring_40 : decode cX8_bring 40 = .ok (.iload_n 1, 1) := by decide +kernel
theorem dX8_bring_41 : decode cX8_bring 41 = .ok (.iload_n 3, 1) := by decide +kernel
theorem dX8_bring_42 : decode cX8_bring 42 = .ok (.invokevirtual 275, 3) := by decide +kernel
theorem dX8_bring_45 : decode cX8_bring 45 = .ok (.iload_n 2, 1) := by decide +kernel
theorem dX8_bring_46 : decode cX8_bring 46 = .ok (.if_icmp .lt 5, 3) := by decide +kernel
theorem dX8_bring_49 : decode cX8_bring 49 = .ok (.iload_n 3, 1) := by decide +kernel
theorem dX8_bring_50 : decode cX8_bring 50 = .ok (.ireturn, 1) := by decide +kernel
theorem dX8_bring_51 : decode cX8_bring 51 = .ok (.iinc 3 1, 3) := by decide +kernel
theorem dX8_bring_54 : decode cX8_bring 54 = .ok (.goto (-21), 3) := by decide +kernel
theorem dX8_bring_57 : decode cX8_bring 57 = .ok (.iconst (-1), 1) := by decide +kernel
theorem dX8_bring_58 : decode cX8_bring 58 = .ok (.ireturn, 1) := by decide +kernel
theorem dX8_brings_0 : decode cX8_brings 0 = .ok (.aload_n 0, 1) := by decide +kernel
theorem dX8_brings_1 : decode cX8_brings 1 = .ok (.iload_n 2, 1) := by decide +kernel
theorem dX8_brings_2 : decode cX8_brings 2 = .ok (.invokevirtual 132, 3) := by decide +kernel
theorem dX8_brings_5 : decode cX8_brings 5 = .ok (.ifCond .eq 14, 3) := by decide +kernel
theorem dX8_brings_8 : decode cX8_brings 8 = .ok (.iload_n 1, 1) := by decide +kernel
theorem dX8_brings_9 : decode cX8_brings 9 = .ok (.iconst 1, 1) := by decide +kernel
theorem dX8_brings_10 : decode cX8_brings 10 = .ok (.if_icmp .lt 9, 3) := by decide +kernel
theorem dX8_brings_13 : decode cX8_brings 13 = .ok (.iload_n 1, 1) := by decide +kernel
theorem dX8_brings_14 : decode cX8_brings 14 = .ok (.bipush 20, 2) := by decide +kernel
theorem dX8_brings_16 : decode cX8_brings 16 = .ok (.if_icmp .le 6, 3) := by decide +kernel
theorem dX8_brings_19 : decode cX8_brings 19 = .ok (.bipush (-2), 2) := by decide +kernel
theorem dX8_brings_21 : decode cX8_brings 21 = .ok (.ireturn, 1) := by decide +kernel
theorem dX8_brings_22 : decode cX8_brings 22 = .ok (.aload_n 0, 1) := by decide +kernel
theorem dX8_brings_23 : decode cX8_brings 23 = .ok (.iload_n 2, 1) := by decide +kernel
theorem dX8_brings_24 : decode cX8_brings 24 = .ok (.iload_n 1, 1) := by decide +kernel
theorem dX8_brings_25 : decode cX8_brings 25 = .ok (.invokevirtual 355, 3) := by decide +kernel
theorem dX8_brings_28 : decode cX8_brings 28 = .ok (.ireturn, 1) := by decide +kernel
theorem dX8_by_0 : decode cX8_by 0 = .ok (.aload_n 0, 1) := by decide +kernel
theorem dX8_by_1 : decode cX8_by 1 = .ok (.invokevirtual 177, 3) := by decide +kernel
theorem dX8_by_4 : decode cX8_by 4 = .ok (.ifCond .ne 12, 3) := by decide +kernel
theorem dX8_by_7 : decode cX8_by 7 = .ok (.iload_n 1, 1) := by decide +kernel
theorem dX8_by_8 : decode cX8_by 8 = .ok (.ifCond .lt 8, 3) := by decide +kernel
theorem dX8_by_11 : decode cX8_by 11 = .ok (.iload_n 1, 1) := by decide +kernel
theorem dX8_by_12 : decode cX8_by 12 = .ok (.iconst 4, 1) := by decide +kernel
theorem dX8_by_13 : decode cX8_by 13 = .ok (.if_icmp .lt 6, 3) := by decide +kernel
theorem dX8_by_16 : decode cX8_by 16 = .ok (.bipush (-2), 2) := by decide +kernel
theorem dX8_by_18 : decode cX8_by 18 = .ok (.ireturn, 1) := by decide +kernel
theorem dX8_by_19 : decode cX8_by 19 = .ok (.aload_n 0, 1) := by decide +kernel
theorem dX8_by_20 : decode cX8_by 20 = .ok (.iload_n 1, 1) := by decide +kernel
theorem dX8_by_21 : decode cX8_by 21 = .ok (.invokevirtual 303, 3) := by decide +kernel
theorem dX8_by_24 : decode cX8_by 24 = .ok (.getfield 139, 3) := by decide +kernel
theorem dX8_by_27 : decode cX8_by 27 = .ok (.ireturn, 1) := by decide +kernel
theorem dX8_cart_0 : decode cX8_cart 0 = .ok (.aload_n 0, 1) := by decide +kernel
theorem dX8_cart_1 : decode cX8_cart 1 = .ok (.iload_n 1, 1) := by decide +kernel
theorem dX8_cart_2 : decode cX8_cart 2 = .ok (.invokevirtual 120, 3) := by decide +kernel
theorem dX8_cart_5 : decode cX8_cart 5 = .ok (.ifCond .eq 10, 3) := by decide +kernel
theorem dX8_cart_8 : decode cX8_cart 8 = .ok (.iload_n 2, 1) := by decide +kernel
theorem dX8_cart_9 : decode cX8_cart 9 = .ok (.invokestatic 123, 3) := by decide +kernel
theorem dX8_cart_12 : decode cX8_cart 12 = .ok (.ifCond .ne 6, 3) := by decide +kernel
theorem dX8_cart_15 : decode cX8_cart 15 = .ok (.bipush (-2), 2) := by decide +kernel
theorem dX8_cart_17 : decode cX8_cart 17 = .ok (.ireturn, 1) := by decide +kernel
theorem dX8_cart_18 : decode cX8_cart 18 = .ok (.iload_n 2, 1) := by decide +kernel
theorem dX8_cart_19 : decode cX8_cart 19 = .ok (.ifCond .ne 15, 3) := by decide +kernel
theorem dX8_cart_22 : decode cX8_cart 22 = .ok (.aload_n 0, 1) := by decide +kernel
theorem dX8_cart_23 : decode cX8_cart 23 = .ok (.getfield 19, 3) := by decide +kernel
theorem dX8_cart_26 : decode cX8_cart 26 = .ok (.getfield 126, 3) := by decide +kernel
theorem dX8_cart_29 : decode cX8_cart 29 = .ok (.iload_n 1, 1) := by decide +kernel
theorem dX8_cart_30 : decode cX8_cart 30 = .ok (.iaload, 1) := by decide +kernel
theorem dX8_cart_31 : decode cX8_cart 31 = .ok (.goto 12, 3) := by decide +kernel
theorem dX8_cart_34 : decode cX8_cart 34 = .ok (.aload_n 0, 1) := by decide +kernel
theorem dX8_cart_35 : decode cX8_cart 35 = .ok (.getfield 19, 3) := by decide +kernel
theorem dX8_cart_38 : decode cX8_cart 38 = .ok (.getfield 129, 3) := by decide +kernel
theorem dX8_cart_41 : decode cX8_cart 41 = .ok (.iload_n 1, 1) := by decide +kernel
theorem dX8_cart_42 : decode cX8_cart 42 = .ok (.iaload, 1) := by decide +kernel
theorem dX8_cart_43 : decode cX8_cart 43 = .ok (.ireturn, 1) := by decide +kernel
theorem dX8_chance_0 : decode cX8_chance 0 = .ok (.aload_n 0, 1) := by decide +kernel
theorem dX8_chance_1 : decode cX8_chance 1 = .ok (.iload_n 1, 1) := by decide +kernel
theorem dX8_chance_2 : decode cX8_chance 2 = .ok (.invokevirtual 342, 3) := by decide +kernel
theorem dX8_chance_5 : decode cX8_chance 5 = .ok (.ifCond .eq 21, 3) := by decide +kernel
theorem dX8_chance_8 : decode cX8_chance 8 = .ok (.iload_n 2, 1) := by decide +kernel
theorem dX8_chance_9 : decode cX8_chance 9 = .ok (.ifCond .lt 17, 3) := by decide +kernel
theorem dX8_chance_12 : decode cX8_chance 12 = .ok (.iload_n 2, 1) := by decide +kernel
theorem dX8_chance_13 : decode cX8_chance 13 = .ok (.sipush 700, 3) := by decide +kernel
theorem dX8_chance_16 : decode cX8_chance 16 = .ok (.if_icmp .gt 10, 3) := by decide +kernel
theorem dX8_chance_19 : decode cX8_chance 19 = .ok (.iload_n 3, 1) := by decide +kernel
theorem dX8_chance_20 : decode cX8_chance 20 = .ok (.invokestatic 123, 3) := by decide +kernel
theorem dX8_chance_23 : decode cX8_chance 23 = .ok (.ifCond .ne 7, 3) := by decide +kernel
theorem dX8_chance_26 : decode cX8_chance 26 = .ok (.ldc2_w 345, 3) := by decide +kernel
theorem dX8_chance_29 : decode cX8_chance 29 = .ok (.lreturn, 1) := by decide +kernel
theorem dX8_chance_30 : decode cX8_chance 30 = .ok (.aload_n 0, 1) := by decide +kernel
theorem dX8_chance_31 : decode cX8_chance 31 = .ok (.iload_n 1, 1) := by decide +kernel
theorem dX8_chance_32 : decode cX8_chance 32 = .ok (.iload_n 2, 1) := by decide +kernel
theorem dX8_chance_33 : decode cX8_chance 33 = .ok (.invokevirtual 347, 3) := by decide +kernel
theorem dX8_chance_36 : decode cX8_chance 36 = .ok (.iload_n 1, 1) := by decide +kernel
theorem dX8_chance_37 : decode cX8_chance 37 = .ok (.iconst 1, 1) := by decide +kernel
theorem dX8_chance_38 : decode cX8_chance 38 = .ok (.iadd, 1) := by decide +kernel
theorem dX8_chance_39 : decode cX8_chance 39 = .ok (.invokestatic 351, 3) := by decide +kernel
theorem dX8_chance_42 : decode cX8_chance 42 = .ok (.iload_n 3, 1) := by decide +kernel
theorem dX8_chance_43 : decode cX8_chance 43 = .ok (.invokestatic 319, 3) := by decide +kernel
theorem dX8_chance_46 : decode cX8_chance 46 = .ok (.lreturn, 1) := by decide +kernel
theorem dX8_count_0 : decode cX8_count 0 = .ok (.iload_n 1, 1) := by decide +kernel
theorem dX8_count_1 : decode cX8_count 1 = .ok (.tableswitch 120 0 8 #[51, 59, 67, 75, 83, 91, 99, 107, 115], 51) := by decide +kernel
theorem dX8_count_52 : decode cX8_count 52 = .ok (.aload_n 0, 1) := by decide +kernel
theorem dX8_count_53 : decode cX8_count 53 = .ok (.getfield 19, 3) := by decide +kernel
theorem dX8_count_56 : decode cX8_count 56 = .ok (.getfield 181, 3) := by decide +kernel
theorem dX8_count_59 : decode cX8_count 59 = .ok (.ireturn, 1) := by decide +kernel
theorem dX8_count_60 : decode cX8_count 60 = .ok (.aload_n 0, 1) := by decide +kernel
theorem dX8_count_61 : decode cX8_count 61 = .ok (.getfield 19, 3) := by decide +kernel
theorem dX8_count_64 : decode cX8_count 64 = .ok (.getfield 168, 3) := by decide +kernel
theorem dX8_count_67 : decode cX8_count 67 = .ok (.ireturn, 1) := by decide +kernel
theorem dX8_count_68 : decode cX8_count 68 = .ok (.aload_n 0, 1) := by decide +kernel
theorem dX8_count_69 : decode cX8_count 69 = .ok (.getfield 19, 3) := by decide +kernel
theorem dX8_count_72 : decode cX8_count 72 = .ok (.getfield 369, 3) := by decide +kernel
theorem dX8_count_75 : decode cX8_count 75 = .ok (.ireturn, 1) := by decide +kernel
theorem dX8_count_76 : decode cX8_count 76 = .ok (.aload_n 0, 1) := by decide +kernel
theorem dX8_count_77 : decode cX8_count 77 = .ok (.getfield 19, 3) := by decide +kernel
theorem dX8_count_80 : decode cX8_count 80 = .ok (.getfield 372, 3) := by decide +kernel
theorem dX8_count_83 : decode cX8_count 83 = .ok (.ireturn, 1) := by decide +kernel
theorem dX8_count_84 : decode cX8_count 84 = .ok (.aload_n 0, 1) := by decide +kernel
theorem dX8_count_85 : decode cX8_count 85 = .ok (.getfield 19, 3) := by decide +kernel
theorem dX8_count_88 : decode cX8_count 88 = .ok (.getfield 278, 3) := by decide +kernel
theorem dX8_count_91 : decode cX8_count 91 = .ok (.ireturn, 1) := by decide +kernel
theorem dX8_count_92 : decode cX8_count 92 = .ok (.aload_n 0, 1) := by decide +kernel
theorem dX8_count_93 : decode cX8_count 93 = .ok (.getfield 19, 3) := by decide +kernel
theorem dX8_count_96 : decode cX8_count 96 = .ok (.getfield 358, 3) := by decide +kernel
theorem dX8_count_99 : decode cX8_count 99 = .ok (.ireturn, 1) := by decide +kernel
theorem dX8_count_100 : decode cX8_count 100 = .ok (.aload_n 0, 1) := by decide +kernel
theorem dX8_count_101 : decode cX8_count 101 = .ok (.getfield 19, 3) := by decide +kernel
theorem dX8_count_104 : decode cX8_count 104 = .ok (.getfield 104, 3) := by decide +kernel
theorem dX8_count_107 : decode cX8_count 107 = .ok (.ireturn, 1) := by decide +kernel
theorem dX8_count_108 : decode cX8_count 108 = .ok (.aload_n 0, 1) := by decide +kernel
theorem dX8_count_109 : decode cX8_count 109 = .ok (.getfield 12, 3) := by decide +kernel
theorem dX8_count_112 : decode cX8_count 112 = .ok (.getfield 86, 3) := by decide +kernel
theorem dX8_count_115 : decode cX8_count 115 = .ok (.ireturn, 1) := by decide +kernel
theorem dX8_count_116 : decode cX8_count 116 = .ok (.aload_n 0, 1) := by decide +kernel
theorem dX8_count_117 : decode cX8_count 117 = .ok (.invokevirtual 375, 3) := by decide +kernel
theorem dX8_count_120 : decode cX8_count 120 = .ok (.ireturn, 1) := by decide +kernel
theorem dX8_count_121 : decode cX8_count 121 = .ok (.iconst (-1), 1) := by decide +kernel
theorem dX8_count_122 : decode cX8_count 122 = .ok (.ireturn, 1) := by decide +kernel
theorem dX8_drawn_0 : decode cX8_drawn 0 = .ok (.aload_n 0, 1) := by decide +kernel
theorem dX8_drawn_1 : decode cX8_drawn 1 = .ok (.invokevirtual 177, 3) := by decide +kernel
theorem dX8_drawn_4 : decode cX8_drawn 4 = .ok (.ifCond .ne 21, 3) := by decide +kernel
theorem dX8_drawn_7 : decode cX8_drawn 7 = .ok (.iload_n 1, 1) := by decide +kernel
theorem dX8_drawn_8 : decode cX8_drawn 8 = .ok (.ifCond .lt 17, 3) := by decide +kernel
theorem dX8_drawn_11 : decode cX8_drawn 11 = .ok (.iload_n 1, 1) := by decide +kernel
theorem dX8_drawn_12 : decode cX8_drawn 12 = .ok (.ldc_w 361, 3) := by decide +kernel
theorem dX8_drawn_15 : decode cX8_drawn 15 = .ok (.if_icmp .gt 10, 3) := by decide +kernel
theorem dX8_drawn_18 : decode cX8_drawn 18 = .ok (.iload_n 2, 1) := by decide +kernel
theorem dX8_drawn_19 : decode cX8_drawn 19 = .ok (.invokestatic 123, 3) := by decide +kernel
theorem dX8_drawn_22 : decode cX8_drawn 22 = .ok (.ifCond .ne 6, 3) := by decide +kernel
theorem dX8_drawn_25 : decode cX8_drawn 25 = .ok (.bipush (-2), 2) := by decide +kernel
theorem dX8_drawn_27 : decode cX8_drawn 27 = .ok (.ireturn, 1) := by decide +kernel
theorem dX8_drawn_28 : decode cX8_drawn 28 = .ok (.aload_n 0, 1) := by decide +kernel
theorem dX8_drawn_29 : decode cX8_drawn 29 = .ok (.iload_n 1, 1) := by decide +kernel
theorem dX8_drawn_30 : decode cX8_drawn 30 = .ok (.i2l, 1) := by decide +kernel
theorem dX8_drawn_31 : decode cX8_drawn 31 = .ok (.invokevirtual 362, 3) := by decide +kernel
theorem dX8_drawn_34 : decode cX8_drawn 34 = .ok (.istore_n 3, 1) := by decide +kernel
theorem dX8_drawn_35 : decode cX8_drawn 35 = .ok (.iload_n 2, 1) := by decide +kernel
theorem dX8_drawn_36 : decode cX8_drawn 36 = .ok (.ifCond .ne 7, 3) := by decide +kernel
theorem dX8_drawn_39 : decode cX8_drawn 39 = .ok (.iload_n 3, 1) := by decide +kernel
theorem dX8_drawn_40 : decode cX8_drawn 40 = .ok (.goto 8, 3) := by decide +kernel
theorem dX8_drawn_43 : decode cX8_drawn 43 = .ok (.aload_n 0, 1) := by decide +kernel
theorem dX8_drawn_44 : decode cX8_drawn 44 = .ok (.iload_n 3, 1) := by decide +kernel
theorem dX8_drawn_45 : decode cX8_drawn 45 = .ok (.invokevirtual 366, 3) := by decide +kernel
theorem dX8_drawn_48 : decode cX8_drawn 48 = .ok (.ireturn, 1) := by decide +kernel
theorem dX8_end_0 : decode cX8_end 0 = .ok (.iload_n 1, 1) := by decide +kernel
theorem dX8_end_1 : decode cX8_end 1 = .ok (.ifCond .lt 14, 3) := by decide +kernel
theorem dX8_end_4 : decode cX8_end 4 = .ok (.iload_n 1, 1) := by decide +kernel
theorem dX8_end_5 : decode cX8_end 5 = .ok (.aload_n 0, 1) := by decide +kernel
theorem dX8_end_6 : decode cX8_end 6 = .ok (.getfield 12, 3) := by decide +kernel
theorem dX8_end_9 : decode cX8_end 9 = .ok (.getfield 86, 3) := by decide +kernel
theorem dX8_end_12 : decode cX8_end 12 = .ok (.if_icmp .le 5, 3) := by decide +kernel
theorem dX8_end_15 : decode cX8_end 15 = .ok (.iconst (-1), 1) := by decide +kernel
theorem dX8_end_16 : decode cX8_end 16 = .ok (.ireturn, 1) := by decide +kernel
theorem dX8_end_17 : decode cX8_end 17 = .ok (.aload_n 0, 1) := by decide +kernel
theorem dX8_end_18 : decode cX8_end 18 = .ok (.getfield 12, 3) := by decide +kernel
theorem dX8_end_21 : decode cX8_end 21 = .ok (.iload_n 1, 1) := by decide +kernel
theorem dX8_end_22 : decode cX8_end 22 = .ok (.putfield 86, 3) := by decide +kernel
theorem dX8_end_25 : decode cX8_end 25 = .ok (.iload_n 1, 1) := by decide +kernel
theorem dX8_end_26 : decode cX8_end 26 = .ok (.ireturn, 1) := by decide +kernel
theorem dX8_even_0 : decode cX8_even 0 = .ok (.aload_n 0, 1) := by decide +kernel
theorem dX8_even_1 : decode cX8_even 1 = .ok (.iload_n 1, 1) := by decide +kernel
theorem dX8_even_2 : decode cX8_even 2 = .ok (.invokevirtual 132, 3) := by decide +kernel
theorem dX8_even_5 : decode cX8_even 5 = .ok (.ifCond .eq 17, 3) := by decide +kernel
theorem dX8_even_8 : decode cX8_even 8 = .ok (.aload_n 0, 1) := by decide +kernel
theorem dX8_even_9 : decode cX8_even 9 = .ok (.iload_n 1, 1) := by decide +kernel
theorem dX8_even_10 : decode cX8_even 10 = .ok (.invokevirtual 135, 3) := by decide +kernel
theorem dX8_even_13 : decode cX8_even 13 = .ok (.invokevirtual 210, 3) := by decide +kernel
theorem dX8_even_16 : decode cX8_even 16 = .ok (.invokestatic 200, 3) := by decide +kernel
theorem dX8_even_19 : decode cX8_even 19 = .ok (.goto 5, 3) := by decide +kernel
theorem dX8_even_22 : decode cX8_even 22 = .ok (.bipush (-2), 2) := by decide +kernel
theorem dX8_even_24 : decode cX8_even 24 = .ok (.ireturn, 1) := by decide +kernel
theorem dX8_fault_0 : decode cX8_fault 0 = .ok (.iload_n 1, 1) := by decide +kernel
theorem dX8_fault_1 : decode cX8_fault 1 = .ok (.ifCond .ne 11, 3) := by decide +kernel
theorem dX8_fault_4 : decode cX8_fault 4 = .ok (.aload_n 0, 1) := by decide +kernel
theorem dX8_fault_5 : decode cX8_fault 5 = .ok (.getfield 12, 3) := by decide +kernel
theorem dX8_fault_8 : decode cX8_fault 8 = .ok (.getfield 107, 3) := by decide +kernel
theorem dX8_fault_11 : decode cX8_fault 11 = .ok (.ireturn, 1) := by decide +kernel
theorem dX8_fault_12 : decode cX8_fault 12 = .ok (.iload_n 1, 1) := by decide +kernel
theorem dX8_fault_13 : decode cX8_fault 13 = .ok (.iconst 1, 1) := by decide +kernel
theorem dX8_fault_14 : decode cX8_fault 14 = .ok (.if_icmp .ne 13, 3) := by decide +kernel
theorem dX8_fault_17 : decode cX8_fault 17 = .ok (.aload_n 0, 1) := by decide +kernel
theorem dX8_fault_18 : decode cX8_fault 18 = .ok (.getfield 12, 3) := by decide +kernel
theorem dX8_fault_21 : decode cX8_fault 21 = .ok (.getfield 110, 3) := by decide +kernel
theorem dX8_fault_24 : decode cX8_fault 24 = .ok (.goto 4, 3) := by decide +kernel
theorem dX8_fault_27 : decode cX8_fault 27 = .ok (.iconst (-1), 1) := by decide +kernel
theorem dX8_fault_28 : decode cX8_fault 28 = .ok (.ireturn, 1) := by decide +kernel
theorem dX8_feed_0 : decode cX8_feed 0 = .ok (.aload_n 0, 1) := by decide +kernel
theorem dX8_feed_1 : decode cX8_feed 1 = .ok (.getfield 12, 3) := by decide +kernel
theorem dX8_feed_4 : decode cX8_feed 4 = .ok (.getfield 86, 3) := by decide +kernel
theorem dX8_feed_7 : decode cX8_feed 7 = .ok (.bipush 20, 2) := by decide +kernel
theorem dX8_feed_9 : decode cX8_feed 9 = .ok (.iadd, 1) := by decide +kernel
theorem dX8_feed_10 : decode cX8_feed 10 = .ok (.sipush 500, 3) := by decide +kernel
theorem dX8_feed_13 : decode cX8_feed 13 = .ok (.if_icmp .le 5, 3) := by decide +kernel
theorem dX8_feed_16 : decode cX8_feed 16 = .ok (.iconst (-1), 1) := by decide +kernel
theorem dX8_feed_17 : decode cX8_feed 17 = .ok (.ireturn, 1) := by decide +kernel
theorem dX8_feed_18 : decode cX8_feed 18 = .ok (.aload_n 0, 1) := by decide +kernel
theorem dX8_feed_19 : decode cX8_feed 19 = .ok (.getfield 12, 3) := by decide +kernel
theorem dX8_feed_22 : decode cX8_feed 22 = .ok (.iload_n 1, 1) := by decide +kernel
theorem dX8_feed_23 : decode cX8_feed 23 = .ok (.invokevirtual 89, 3) := by decide +kernel
theorem dX8_feed_26 : decode cX8_feed 26 = .ok (.aload_n 0, 1) := by decide +kernel
theorem dX8_feed_27 : decode cX8_feed 27 = .ok (.getfield 12, 3) := by decide +kernel
theorem dX8_feed_30 : decode cX8_feed 30 = .ok (.iload_n 2, 1) := by decide +kernel
theorem dX8_feed_31 : decode cX8_feed 31 = .ok (.invokevirtual 89, 3) := by decide +kernel
theorem dX8_feed_34 : decode cX8_feed 34 = .ok (.aload_n 0, 1) := by decide +kernel
theorem dX8_feed_35 : decode cX8_feed 35 = .ok (.getfield 12, 3) := by decide +kernel
theorem dX8_feed_38 : decode cX8_feed 38 = .ok (.iload_n 3, 1) := by decide +kernel
theorem dX8_feed_39 : decode cX8_feed 39 = .ok (.invokevirtual 89, 3) := by decide +kernel
theorem dX8_feed_42 : decode cX8_feed 42 = .ok (.aload_n 0, 1) := by decide +kernel
theorem dX8_feed_43 : decode cX8_feed 43 = .ok (.getfield 12, 3) := by decide +kernel
theorem dX8_feed_46 : decode cX8_feed 46 = .ok (.iload 4, 2) := by decide +kernel
theorem dX8_feed_48 : decode cX8_feed 48 = .ok (.invokevirtual 89, 3) := by decide +kernel
theorem dX8_feed_51 : decode cX8_feed 51 = .ok (.aload_n 0, 1) := by decide +kernel
theorem dX8_feed_52 : decode cX8_feed 52 = .ok (.getfield 12, 3) := by decide +kernel
theorem dX8_feed_55 : decode cX8_feed 55 = .ok (.iload 5, 2) := by decide +kernel
theorem dX8_feed_57 : decode cX8_feed 57 = .ok (.invokevirtual 89, 3) := by decide +kernel
theorem dX8_feed_60 : decode cX8_feed 60 = .ok (.aload_n 0, 1) := by decide +kernel
theorem dX8_feed_61 : decode cX8_feed 61 = .ok (.getfield 12, 3) := by decide +kernel
theorem dX8_feed_64 : decode cX8_feed 64 = .ok (.getfield 86, 3) := by decide +kernel
theorem dX8_feed_67 : decode cX8_feed 67 = .ok (.ireturn, 1) := by decide +kernel
theorem dX8_flip_0 : decode cX8_flip 0 = .ok (.aload_n 0, 1) := by decide +kernel
theorem dX8_flip_1 : decode cX8_flip 1 = .ok (.iload_n 1, 1) := by decide +kernel
theorem dX8_flip_2 : decode cX8_flip 2 = .ok (.invokevirtual 132, 3) := by decide +kernel
theorem dX8_flip_5 : decode cX8_flip 5 = .ok (.ifCond .eq 7, 3) := by decide +kernel
theorem dX8_flip_8 : decode cX8_flip 8 = .ok (.iload_n 2, 1) := by decide +kernel
theorem dX8_flip_9 : decode cX8_flip 9 = .ok (.ifCond .ge 6, 3) := by decide +kernel
theorem dX8_flip_12 : decode cX8_flip 12 = .ok (.bipush (-2), 2) := by decide +kernel
theorem dX8_flip_14 : decode cX8_flip 14 = .ok (.ireturn, 1) := by decide +kernel
theorem dX8_flip_15 : decode cX8_flip 15 = .ok (.aload_n 0, 1) := by decide +kernel
theorem dX8_flip_16 : decode cX8_flip 16 = .ok (.iload_n 1, 1) := by decide +kernel
theorem dX8_flip_17 : decode cX8_flip 17 = .ok (.invokevirtual 135, 3) := by decide +kernel
theorem dX8_flip_20 : decode cX8_flip 20 = .ok (.astore_n 3, 1) := by decide +kernel
theorem dX8_flip_21 : decode cX8_flip 21 = .ok (.iload_n 2, 1) := by decide +kernel
theorem dX8_flip_22 : decode cX8_flip 22 = .ok (.aload_n 3, 1) := by decide +kernel
theorem dX8_flip_23 : decode cX8_flip 23 = .ok (.invokevirtual 155, 3) := by decide +kernel
theorem dX8_flip_26 : decode cX8_flip 26 = .ok (.if_icmp .ge 13, 3) := by decide +kernel
theorem dX8_flip_29 : decode cX8_flip 29 = .ok (.aload_n 3, 1) := by decide +kernel
theorem dX8_flip_30 : decode cX8_flip 30 = .ok (.iload_n 2, 1) := by decide +kernel
theorem dX8_flip_31 : decode cX8_flip 31 = .ok (.iconst 1, 1) := by decide +kernel
theorem dX8_flip_32 : decode cX8_flip 32 = .ok (.iadd, 1) := by decide +kernel
theorem dX8_flip_33 : decode cX8_flip 33 = .ok (.invokevirtual 207, 3) := by decide +kernel
theorem dX8_flip_36 : decode cX8_flip 36 = .ok (.goto 4, 3) := by decide +kernel
theorem dX8_flip_39 : decode cX8_flip 39 = .ok (.iconst (-1), 1) := by decide +kernel
theorem dX8_flip_40 : decode cX8_flip 40 = .ok (.ireturn, 1) := by decide +kernel
theorem dX8_forget_0 : decode cX8_forget 0 = .ok (.aload_n 0, 1) := by decide +kernel
theorem dX8_forget_1 : decode cX8_forget 1 = .ok (.iconst 0, 1) := by decide +kernel
theorem dX8_forget_2 : decode cX8_forget 2 = .ok (.putfield 414, 3) := by decide +kernel
theorem dX8_forget_5 : decode cX8_forget 5 = .ok (.aload_n 0, 1) := by decide +kernel
theorem dX8_forget_6 : decode cX8_forget 6 = .ok (.iconst 0, 1) := by decide +kernel
theorem dX8_forget_7 : decode cX8_forget 7 = .ok (.putfield 417, 3) := by decide +kernel
theorem dX8_forget_10 : decode cX8_forget 10 = .ok (.aload_n 0, 1) := by decide +kernel
theorem dX8_forget_11 : decode cX8_forget 11 = .ok (.iconst (-1), 1) := by decide +kernel
theorem dX8_forget_12 : decode cX8_forget 12 = .ok (.putfield 81, 3) := by decide +kernel
theorem dX8_forget_15 : decode cX8_forget 15 = .ok (.return_, 1) := by decide +kernel
theorem dX8_from_0 : decode cX8_from 0 = .ok (.iload_n 2, 1) := by decide +kernel
theorem dX8_from_1 : decode cX8_from 1 = .ok (.ifCond .ge 8, 3) := by decide +kernel
theorem dX8_from_4 : decode cX8_from 4 = .ok (.bipush (-2), 2) := by decide +kernel
theorem dX8_from_6 : decode cX8_from 6 = .ok (.goto 8, 3) := by decide +kernel
theorem dX8_from_9 : decode cX8_from 9 = .ok (.aload_n 0, 1) := by decide +kernel
theorem dX8_from_10 : decode cX8_from 10 = .ok (.iload_n 1, 1) := by decide +kernel
theorem dX8_from_11 : decode cX8_from 11 = .ok (.invokevirtual 259, 3) := by decide +kernel
theorem dX8_from_14 : decode cX8_from 14 = .ok (.istore_n 3, 1) := by decide +kernel
theorem dX8_from_15 : decode cX8_from 15 = .ok (.iload_n 3, 1) := by decide +kernel
theorem dX8_from_16 : decode cX8_from 16 = .ok (.ifCond .eq 5, 3) := by decide +kernel
theorem dX8_from_19 : decode cX8_from 19 = .ok (.iload_n 3, 1) := by decide +kernel
theorem dX8_from_20 : decode cX8_from 20 = .ok (.ireturn, 1) := by decide +kernel
theorem dX8_from_21 : decode cX8_from 21 = .ok (.aload_n 0, 1) := by decide +kernel
theorem dX8_from_22 : decode cX8_from 22 = .ok (.aload_n 0, 1) := by decide +kernel
theorem dX8_from_23 : decode cX8_from 23 = .ok (.getfield 70, 3) := by decide +kernel
theorem dX8_from_26 : decode cX8_from 26 = .ok (.getfield 146, 3) := by decide +kernel
theorem dX8_from_29 : decode cX8_from 29 = .ok (.invokevirtual 242, 3) := by decide +kernel
theorem dX8_from_32 : decode cX8_from 32 = .ok (.aload_n 0, 1) := by decide +kernel
theorem dX8_from_33 : decode cX8_from 33 = .ok (.getfield 70, 3) := by decide +kernel
theorem dX8_from_36 : decode cX8_from 36 = .ok (.iload_n 2, 1) := by decide +kernel
theorem dX8_from_37 : decode cX8_from 37 = .ok (.invokevirtual 265, 3) := by decide +kernel
theorem dX8_from_40 : decode cX8_from 40 = .ok (.ireturn, 1) := by decide +kernel
theorem dX8_gardens_0 : decode cX8_gardens 0 = .ok (.aload_n 0, 1) := by decide +kernel
theorem dX8_gardens_1 : decode cX8_gardens 1 = .ok (.iload_n 1, 1) := by decide +kernel
theorem dX8_gardens_2 : decode cX8_gardens 2 = .ok (.invokevirtual 239, 3) := by decide +kernel
theorem dX8_gardens_5 : decode cX8_gardens 5 = .ok (.ifCond .eq 14, 3) := by decide +kernel
theorem dX8_gardens_8 : decode cX8_gardens 8 = .ok (.aload_n 0, 1) := by decide +kernel
theorem dX8_gardens_9 : decode cX8_gardens 9 = .ok (.iload_n 1, 1) := by decide +kernel
theorem dX8_gardens_10 : decode cX8_gardens 10 = .ok (.invokevirtual 242, 3) := by decide +kernel
theorem dX8_gardens_13 : decode cX8_gardens 13 = .ok (.getfield 253, 3) := by decide +kernel
theorem dX8_gardens_16 : decode cX8_gardens 16 = .ok (.goto 5, 3) := by decide +kernel
theorem dX8_gardens_19 : decode cX8_gardens 19 = .ok (.bipush (-2), 2) := by decide +kernel
theorem dX8_gardens_21 : decode cX8_gardens 21 = .ok (.ireturn, 1) := by decide +kernel
theorem dX8_gets_0 : decode cX8_gets 0 = .ok (.aload_n 0, 1) := by decide +kernel
theorem dX8_gets_1 : decode cX8_gets 1 = .ok (.iload_n 1, 1) := by decide +kernel
theorem dX8_gets_2 : decode cX8_gets 2 = .ok (.invokevirtual 120, 3) := by decide +kernel
theorem dX8_gets_5 : decode cX8_gets 5 = .ok (.ifCond .eq 20, 3) := by decide +kernel
theorem dX8_gets_8 : decode cX8_gets 8 = .ok (.aload_n 0, 1) := by decide +kernel
theorem dX8_gets_9 : decode cX8_gets 9 = .ok (.iload_n 2, 1) := by decide +kernel
theorem dX8_gets_10 : decode cX8_gets 10 = .ok (.invokevirtual 120, 3) := by decide +kernel
theorem dX8_gets_13 : decode cX8_gets 13 = .ok (.ifCond .eq 12, 3) := by decide +kernel
theorem dX8_gets_16 : decode cX8_gets 16 = .ok (.iload_n 1, 1) := by decide +kernel
theorem dX8_gets_17 : decode cX8_gets 17 = .ok (.iload_n 2, 1) := by decide +kernel
theorem dX8_gets_18 : decode cX8_gets 18 = .ok (.if_icmp .eq 7, 3) := by decide +kernel
theorem dX8_gets_21 : decode cX8_gets 21 = .ok (.iconst 1, 1) := by decide +kernel
theorem dX8_gets_22 : decode cX8_gets 22 = .ok (.goto 4, 3) := by decide +kernel
theorem dX8_gets_25 : decode cX8_gets 25 = .ok (.iconst 0, 1) := by decide +kernel
theorem dX8_gets_26 : decode cX8_gets 26 = .ok (.istore 6, 2) := by decide +kernel
theorem dX8_gets_28 : decode cX8_gets 28 = .ok (.iload 6, 2) := by decide +kernel
theorem dX8_gets_30 : decode cX8_gets 30 = .ok (.ifCond .eq 26, 3) := by decide +kernel
theorem dX8_gets_33 : decode cX8_gets 33 = .ok (.iload_n 3, 1) := by decide +kernel
theorem dX8_gets_34 : decode cX8_gets 34 = .ok (.invokestatic 123, 3) := by decide +kernel
theorem dX8_gets_37 : decode cX8_gets 37 = .ok (.ifCond .eq 19, 3) := by decide +kernel
theorem dX8_gets_40 : decode cX8_gets 40 = .ok (.iload 4, 2) := by decide +kernel
theorem dX8_gets_42 : decode cX8_gets 42 = .ok (.invokestatic 123, 3) := by decide +kernel
theorem dX8_gets_45 : decode cX8_gets 45 = .ok (.ifCond .eq 11, 3) := by decide +kernel
theorem dX8_gets_48 : decode cX8_gets 48 = .ok (.iload 5, 2) := by decide +kernel
theorem dX8_gets_50 : decode cX8_gets 50 = .ok (.invokestatic 123, 3) := by decide +kernel
theorem dX8_gets_53 : decode cX8_gets 53 = .ok (.ifCond .ne 7, 3) := by decide +kernel
theorem dX8_gets_56 : decode cX8_gets 56 = .ok (.sipush (-1000), 3) := by decide +kernel
theorem dX8_gets_59 : decode cX8_gets 59 = .ok (.ireturn, 1) := by decide +kernel
theorem dX8_gets_60 : decode cX8_gets 60 = .ok (.aload_n 0, 1) := by decide +kernel
theorem dX8_gets_61 : decode cX8_gets 61 = .ok (.iload_n 1, 1) := by decide +kernel
theorem dX8_gets_62 : decode cX8_gets 62 = .ok (.iload_n 2, 1) := by decide +kernel
theorem dX8_gets_63 : decode cX8_gets 63 = .ok (.iload_n 3, 1) := by decide +kernel
theorem dX8_gets_64 : decode cX8_gets 64 = .ok (.iload 4, 2) := by decide +kernel
theorem dX8_gets_66 : decode cX8_gets 66 = .ok (.invokevirtual 332, 3) := by decide +kernel
theorem dX8_gets_69 : decode cX8_gets 69 = .ok (.astore 7, 2) := by decide +kernel
theorem dX8_gets_71 : decode cX8_gets 71 = .ok (.iload 5, 2) := by decide +kernel
theorem dX8_gets_73 : decode cX8_gets 73 = .ok (.ifCond .ne 12, 3) := by decide +kernel
theorem dX8_gets_76 : decode cX8_gets 76 = .ok (.aload 7, 2) := by decide +kernel
theorem dX8_gets_78 : decode cX8_gets 78 = .ok (.iload_n 3, 1) := by decide +kernel
theorem dX8_gets_79 : decode cX8_gets 79 = .ok (.invokestatic 336, 3) := by decide +kernel
theorem dX8_gets_82 : decode cX8_gets 82 = .ok (.goto 10, 3) := by decide +kernel
theorem dX8_gets_85 : decode cX8_gets 85 = .ok (.aload 7, 2) := by decide +kernel
theorem dX8_gets_87 : decode cX8_gets 87 = .ok (.iload 4, 2) := by decide +kernel
theorem dX8_gets_89 : decode cX8_gets 89 = .ok (.invokestatic 339, 3) := by decide +kernel
theorem dX8_gets_92 : decode cX8_gets 92 = .ok (.ireturn, 1) := by decide +kernel
theorem dX8_gone_0 : decode cX8_gone 0 = .ok (.aload_n 0, 1) := by decide +kernel
theorem dX8_gone_1 : decode cX8_gone 1 = .ok (.iload_n 1, 1) := by decide +kernel
theorem dX8_gone_2 : decode cX8_gone 2 = .ok (.invokevirtual 165, 3) := by decide +kernel
theorem dX8_gone_5 : decode cX8_gone 5 = .ok (.ifCond .eq 21, 3) := by decide +kernel
theorem dX8_gone_8 : decode cX8_gone 8 = .ok (.aload_n 0, 1) := by decide +kernel
theorem dX8_gone_9 : decode cX8_gone 9 = .ok (.iload_n 1, 1) := by decide +kernel
theorem dX8_gone_10 : decode cX8_gone 10 = .ok (.invokevirtual 135, 3) := by decide +kernel
theorem dX8_gone_13 : decode cX8_gone 13 = .ok (.aload_n 0, 1) := by decide +kernel
theorem dX8_gone_14 : decode cX8_gone 14 = .ok (.getfield 19, 3) := by decide +kernel
theorem dX8_gone_17 : decode cX8_gone 17 = .ok (.getfield 168, 3) := by decide +kernel
theorem dX8_gone_20 : decode cX8_gone 20 = .ok (.invokevirtual 174, 3) := by decide +kernel
theorem dX8_gone_23 : decode cX8_gone 23 = .ok (.goto 5, 3) := by decide +kernel
theorem dX8_gone_26 : decode cX8_gone 26 = .ok (.bipush (-2), 2) := by decide +kernel
theorem dX8_gone_28 : decode cX8_gone 28 = .ok (.ireturn, 1) := by decide +kernel
theorem dX8_greatest_0 : decode cX8_greatest 0 = .ok (.aload_n 0, 1) := by decide +kernel
theorem dX8_greatest_1 : decode cX8_greatest 1 = .ok (.iload_n 1, 1) := by decide +kernel
theorem dX8_greatest_2 : decode cX8_greatest 2 = .ok (.aload_n 0, 1) := by decide +kernel
theorem dX8_greatest_3 : decode cX8_greatest 3 = .ok (.iload_n 2, 1) := by decide +kernel
theorem dX8_greatest_4 : decode cX8_greatest 4 = .ok (.invokevirtual 113, 3) := by decide +kernel
theorem dX8_greatest_7 : decode cX8_greatest 7 = .ok (.invokevirtual 284, 3) := by decide +kernel
theorem dX8_greatest_10 : decode cX8_greatest 10 = .ok (.istore_n 3, 1) := by decide +kernel
theorem dX8_greatest_11 : decode cX8_greatest 11 = .ok (.iload_n 3, 1) := by decide +kernel
theorem dX8_greatest_12 : decode cX8_greatest 12 = .ok (.ifCond .eq 7, 3) := by decide +kernel
theorem dX8_greatest_15 : decode cX8_greatest 15 = .ok (.iload_n 3, 1) := by decide +kernel
theorem dX8_greatest_16 : decode cX8_greatest 16 = .ok (.goto 12, 3) := by decide +kernel
theorem dX8_greatest_19 : decode cX8_greatest 19 = .ok (.aload_n 0, 1) := by decide +kernel
theorem dX8_greatest_20 : decode cX8_greatest 20 = .ok (.iload_n 1, 1) := by decide +kernel
theorem dX8_greatest_21 : decode cX8_greatest 21 = .ok (.iload_n 2, 1) := by decide +kernel
theorem dX8_greatest_22 : decode cX8_greatest 22 = .ok (.invokevirtual 288, 3) := by decide +kernel
theorem dX8_greatest_25 : decode cX8_greatest 25 = .ok (.invokevirtual 296, 3) := by decide +kernel
theorem dX8_greatest_28 : decode cX8_greatest 28 = .ok (.ireturn, 1) := by decide +kernel
theorem dX8_heap_0 : decode cX8_heap 0 = .ok (.aload_n 0, 1) := by decide +kernel
theorem dX8_heap_1 : decode cX8_heap 1 = .ok (.iload_n 1, 1) := by decide +kernel
theorem dX8_heap_2 : decode cX8_heap 2 = .ok (.invokevirtual 132, 3) := by decide +kernel
theorem dX8_heap_5 : decode cX8_heap 5 = .ok (.ifCond .eq 7, 3) := by decide +kernel
theorem dX8_heap_8 : decode cX8_heap 8 = .ok (.iload_n 2, 1) := by decide +kernel
theorem dX8_heap_9 : decode cX8_heap 9 = .ok (.ifCond .ge 6, 3) := by decide +kernel
theorem dX8_heap_12 : decode cX8_heap 12 = .ok (.bipush (-2), 2) := by decide +kernel
theorem dX8_heap_14 : decode cX8_heap 14 = .ok (.ireturn, 1) := by decide +kernel
theorem dX8_heap_15 : decode cX8_heap 15 = .ok (.aload_n 0, 1) := by decide +kernel
theorem dX8_heap_16 : decode cX8_heap 16 = .ok (.iload_n 1, 1) := by decide +kernel
theorem dX8_heap_17 : decode cX8_heap 17 = .ok (.invokevirtual 135, 3) := by decide +kernel
theorem dX8_heap_20 : decode cX8_heap 20 = .ok (.iload_n 2, 1) := by decide +kernel
theorem dX8_heap_21 : decode cX8_heap 21 = .ok (.invokevirtual 142, 3) := by decide +kernel
theorem dX8_heap_24 : decode cX8_heap 24 = .ok (.ireturn, 1) := by decide +kernel
theorem dX8_heaps_0 : decode cX8_heaps 0 = .ok (.aload_n 0, 1) := by decide +kernel
theorem dX8_heaps_1 : decode cX8_heaps 1 = .ok (.iload_n 1, 1) := by decide +kernel
theorem dX8_heaps_2 : decode cX8_heaps 2 = .ok (.invokevirtual 132, 3) := by decide +kernel
theorem dX8_heaps_5 : decode cX8_heaps 5 = .ok (.ifCond .eq 14, 3) := by decide +kernel
theorem dX8_heaps_8 : decode cX8_heaps 8 = .ok (.aload_n 0, 1) := by decide +kernel
theorem dX8_heaps_9 : decode cX8_heaps 9 = .ok (.iload_n 1, 1) := by decide +kernel
theorem dX8_heaps_10 : decode cX8_heaps 10 = .ok (.invokevirtual 135, 3) := by decide +kernel
theorem dX8_heaps_13 : decode cX8_heaps 13 = .ok (.getfield 139, 3) := by decide +kernel
theorem dX8_heaps_16 : decode cX8_heaps 16 = .ok (.goto 5, 3) := by decide +kernel
theorem dX8_heaps_19 : decode cX8_heaps 19 = .ok (.bipush (-2), 2) := by decide +kernel
theorem dX8_heaps_21 : decode cX8_heaps 21 = .ok (.ireturn, 1) := by decide +kernel
theorem dX8_heights_0 : decode cX8_heights 0 = .ok (.aload_n 0, 1) := by decide +kernel
theorem dX8_heights_1 : decode cX8_heights 1 = .ok (.iload_n 1, 1) := by decide +kernel
theorem dX8_heights_2 : decode cX8_heights 2 = .ok (.aload_n 0, 1) := by decide +kernel
theorem dX8_heights_3 : decode cX8_heights 3 = .ok (.iload_n 2, 1) := by decide +kernel
theorem dX8_heights_4 : decode cX8_heights 4 = .ok (.invokevirtual 113, 3) := by decide +kernel
theorem dX8_heights_7 : decode cX8_heights 7 = .ok (.invokevirtual 284, 3) := by decide +kernel
theorem dX8_heights_10 : decode cX8_heights 10 = .ok (.istore_n 3, 1) := by decide +kernel
theorem dX8_heights_11 : decode cX8_heights 11 = .ok (.iload_n 3, 1) := by decide +kernel
theorem dX8_heights_12 : decode cX8_heights 12 = .ok (.ifCond .eq 7, 3) := by decide +kernel
theorem dX8_heights_15 : decode cX8_heights 15 = .ok (.iload_n 3, 1) := by decide +kernel
theorem dX8_heights_16 : decode cX8_heights 16 = .ok (.goto 12, 3) := by decide +kernel
theorem dX8_heights_19 : decode cX8_heights 19 = .ok (.aload_n 0, 1) := by decide +kernel
theorem dX8_heights_20 : decode cX8_heights 20 = .ok (.iload_n 1, 1) := by decide +kernel
theorem dX8_heights_21 : decode cX8_heights 21 = .ok (.iload_n 2, 1) := by decide +kernel
theorem dX8_heights_22 : decode cX8_heights 22 = .ok (.invokevirtual 288, 3) := by decide +kernel
theorem dX8_heights_25 : decode cX8_heights 25 = .ok (.getfield 292, 3) := by decide +kernel
theorem dX8_heights_28 : decode cX8_heights 28 = .ok (.ireturn, 1) := by decide +kernel
theorem dX8_image_0 : decode cX8_image 0 = .ok (.iload_n 1, 1) := by decide +kernel
theorem dX8_image_1 : decode cX8_image 1 = .ok (.ifCond .lt 8, 3) := by decide +kernel
theorem dX8_image_4 : decode cX8_image 4 = .ok (.iload_n 1, 1) := by decide +kernel
theorem dX8_image_5 : decode cX8_image 5 = .ok (.iconst 3, 1) := by decide +kernel
theorem dX8_image_6 : decode cX8_image 6 = .ok (.if_icmp .lt 6, 3) := by decide +kernel
theorem dX8_image_9 : decode cX8_image 9 = .ok (.bipush (-2), 2) := by decide +kernel
theorem dX8_image_11 : decode cX8_image 11 = .ok (.ireturn, 1) := by decide +kernel
theorem dX8_image_12 : decode cX8_image 12 = .ok (.aload_n 0, 1) := by decide +kernel
theorem dX8_image_13 : decode cX8_image 13 = .ok (.getfield 26, 3) := by decide +kernel
theorem dX8_image_16 : decode cX8_image 16 = .ok (.iload_n 1, 1) := by decide +kernel
theorem dX8_image_17 : decode cX8_image 17 = .ok (.aaload, 1) := by decide +kernel
theorem dX8_image_18 : decode cX8_image 18 = .ok (.aload_n 0, 1) := by decide +kernel
theorem dX8_image_19 : decode cX8_image 19 = .ok (.getfield 19, 3) := by decide +kernel
theorem dX8_image_22 : decode cX8_image 22 = .ok (.invokevirtual 97, 3) := by decide +kernel
theorem dX8_image_25 : decode cX8_image 25 = .ok (.aload_n 0, 1) := by decide +kernel
theorem dX8_image_26 : decode cX8_image 26 = .ok (.getfield 26, 3) := by decide +kernel
theorem dX8_image_29 : decode cX8_image 29 = .ok (.iload_n 1, 1) := by decide +kernel
theorem dX8_image_30 : decode cX8_image 30 = .ok (.aaload, 1) := by decide +kernel
theorem dX8_image_31 : decode cX8_image 31 = .ok (.iconst 1, 1) := by decide +kernel
theorem dX8_image_32 : decode cX8_image 32 = .ok (.putfield 378, 3) := by decide +kernel
theorem dX8_image_35 : decode cX8_image 35 = .ok (.iconst 0, 1) := by decide +kernel
theorem dX8_image_36 : decode cX8_image 36 = .ok (.ireturn, 1) := by decide +kernel
theorem dX8_isCart_0 : decode cX8_isCart 0 = .ok (.iload_n 1, 1) := by decide +kernel
theorem dX8_isCart_1 : decode cX8_isCart 1 = .ok (.ifCond .lt 18, 3) := by decide +kernel
theorem dX8_isCart_4 : decode cX8_isCart 4 = .ok (.iload_n 1, 1) := by decide +kernel
theorem dX8_isCart_5 : decode cX8_isCart 5 = .ok (.aload_n 0, 1) := by decide +kernel
theorem dX8_isCart_6 : decode cX8_isCart 6 = .ok (.getfield 19, 3) := by decide +kernel
theorem dX8_isCart_9 : decode cX8_isCart 9 = .ok (.getfield 278, 3) := by decide +kernel
theorem dX8_isCart_12 : decode cX8_isCart 12 = .ok (.if_icmp .ge 7, 3) := by decide +kernel
theorem dX8_isCart_15 : decode cX8_isCart 15 = .ok (.iconst 1, 1) := by decide +kernel
theorem dX8_isCart_16 : decode cX8_isCart 16 = .ok (.goto 4, 3) := by decide +kernel
theorem dX8_isCart_19 : decode cX8_isCart 19 = .ok (.iconst 0, 1) := by decide +kernel
theorem dX8_isCart_20 : decode cX8_isCart 20 = .ok (.ireturn, 1) := by decide +kernel
theorem dX8_isChanceDay_0 : decode cX8_isChanceDay 0 = .ok (.aload_n 0, 1) := by decide +kernel
theorem dX8_isChanceDay_1 : decode cX8_isChanceDay 1 = .ok (.iload_n 1, 1) := by decide +kernel
theorem dX8_isChanceDay_2 : decode cX8_isChanceDay 2 = .ok (.invokevirtual 165, 3) := by decide +kernel
theorem dX8_isChanceDay_5 : decode cX8_isChanceDay 5 = .ok (.ifCond .eq 13, 3) := by decide +kernel
theorem dX8_isChanceDay_8 : decode cX8_isChanceDay 8 = .ok (.iload_n 1, 1) := by decide +kernel
theorem dX8_isChanceDay_9 : decode cX8_isChanceDay 9 = .ok (.bipush 7, 2) := by decide +kernel
theorem dX8_isChanceDay_11 : decode cX8_isChanceDay 11 = .ok (.if_icmp .gt 7, 3) := by decide +kernel
theorem dX8_isChanceDay_14 : decode cX8_isChanceDay 14 = .ok (.iconst 1, 1) := by decide +kernel
theorem dX8_isChanceDay_15 : decode cX8_isChanceDay 15 = .ok (.goto 4, 3) := by decide +kernel
theorem dX8_isChanceDay_18 : decode cX8_isChanceDay 18 = .ok (.iconst 0, 1) := by decide +kernel
theorem dX8_isChanceDay_19 : decode cX8_isChanceDay 19 = .ok (.ireturn, 1) := by decide +kernel
theorem dX8_isDay_0 : decode cX8_isDay 0 = .ok (.aload_n 0, 1) := by decide +kernel
theorem dX8_isDay_1 : decode cX8_isDay 1 = .ok (.invokevirtual 177, 3) := by decide +kernel
theorem dX8_isDay_4 : decode cX8_isDay 4 = .ok (.ifCond .ne 22, 3) := by decide +kernel
theorem dX8_isDay_7 : decode cX8_isDay 7 = .ok (.iload_n 1, 1) := by decide +kernel
theorem dX8_isDay_8 : decode cX8_isDay 8 = .ok (.ifCond .lt 18, 3) := by decide +kernel
theorem dX8_isDay_11 : decode cX8_isDay 11 = .ok (.iload_n 1, 1) := by decide +kernel
theorem dX8_isDay_12 : decode cX8_isDay 12 = .ok (.aload_n 0, 1) := by decide +kernel
theorem dX8_isDay_13 : decode cX8_isDay 13 = .ok (.getfield 19, 3) := by decide +kernel
theorem dX8_isDay_16 : decode cX8_isDay 16 = .ok (.getfield 181, 3) := by decide +kernel
theorem dX8_isDay_19 : decode cX8_isDay 19 = .ok (.if_icmp .gt 7, 3) := by decide +kernel
theorem dX8_isDay_22 : decode cX8_isDay 22 = .ok (.iconst 1, 1) := by decide +kernel
theorem dX8_isDay_23 : decode cX8_isDay 23 = .ok (.goto 4, 3) := by decide +kernel
theorem dX8_isDay_26 : decode cX8_isDay 26 = .ok (.iconst 0, 1) := by decide +kernel
theorem dX8_isDay_27 : decode cX8_isDay 27 = .ok (.ireturn, 1) := by decide +kernel
theorem dX8_isDayAheadOfLast_0 : decode cX8_isDayAheadOfLast 0 = .ok (.aload_n 0, 1) := by decide +kernel
theorem dX8_isDayAheadOfLast_1 : decode cX8_isDayAheadOfLast 1 = .ok (.iload_n 1, 1) := by decide +kernel
theorem dX8_isDayAheadOfLast_2 : decode cX8_isDayAheadOfLast 2 = .ok (.invokevirtual 132, 3) := by decide +kernel
theorem dX8_isDayAheadOfLast_5 : decode cX8_isDayAheadOfLast 5 = .ok (.ifCond .eq 18, 3) := by decide +kernel
theorem dX8_isDayAheadOfLast_8 : decode cX8_isDayAheadOfLast 8 = .ok (.iload_n 1, 1) := by decide +kernel
theorem dX8_isDayAheadOfLast_9 : decode cX8_isDayAheadOfLast 9 = .ok (.aload_n 0, 1) := by decide +kernel
theorem dX8_isDayAheadOfLast_10 : decode cX8_isDayAheadOfLast 10 = .ok (.getfield 19, 3) := by decide +kernel
theorem dX8_isDayAheadOfLast_13 : decode cX8_isDayAheadOfLast 13 = .ok (.getfield 181, 3) := by decide +kernel
theorem dX8_isDayAheadOfLast_16 : decode cX8_isDayAheadOfLast 16 = .ok (.if_icmp .ge 7, 3) := by decide +kernel
theorem dX8_isDayAheadOfLast_19 : decode cX8_isDayAheadOfLast 19 = .ok (.iconst 1, 1) := by decide +kernel
theorem dX8_isDayAheadOfLast_20 : decode cX8_isDayAheadOfLast 20 = .ok (.goto 4, 3) := by decide +kernel
theorem dX8_isDayAheadOfLast_23 : decode cX8_isDayAheadOfLast 23 = .ok (.iconst 0, 1) := by decide +kernel
theorem dX8_isDayAheadOfLast_24 : decode cX8_isDayAheadOfLast 24 = .ok (.ireturn, 1) := by decide +kernel
theorem dX8_isOfAll_0 : decode cX8_isOfAll 0 = .ok (.aload_n 0, 1) := by decide +kernel
theorem dX8_isOfAll_1 : decode cX8_isOfAll 1 = .ok (.invokevirtual 177, 3) := by decide +kernel
theorem dX8_isOfAll_4 : decode cX8_isOfAll 4 = .ok (.ifCond .ne 18, 3) := by decide +kernel
theorem dX8_isOfAll_7 : decode cX8_isOfAll 7 = .ok (.iload_n 1, 1) := by decide +kernel
theorem dX8_isOfAll_8 : decode cX8_isOfAll 8 = .ok (.iconst 1, 1) := by decide +kernel
theorem dX8_isOfAll_9 : decode cX8_isOfAll 9 = .ok (.if_icmp .lt 13, 3) := by decide +kernel
theorem dX8_isOfAll_12 : decode cX8_isOfAll 12 = .ok (.iload_n 1, 1) := by decide +kernel
theorem dX8_isOfAll_13 : decode cX8_isOfAll 13 = .ok (.bipush 14, 2) := by decide +kernel
theorem dX8_isOfAll_15 : decode cX8_isOfAll 15 = .ok (.if_icmp .gt 7, 3) := by decide +kernel
theorem dX8_isOfAll_18 : decode cX8_isOfAll 18 = .ok (.iconst 1, 1) := by decide +kernel
theorem dX8_isOfAll_19 : decode cX8_isOfAll 19 = .ok (.goto 4, 3) := by decide +kernel
theorem dX8_isOfAll_22 : decode cX8_isOfAll 22 = .ok (.iconst 0, 1) := by decide +kernel
theorem dX8_isOfAll_23 : decode cX8_isOfAll 23 = .ok (.ireturn, 1) := by decide +kernel
theorem dX8_isSlot_0 : decode cX8_isSlot 0 = .ok (.iload_n 0, 1) := by decide +kernel
theorem dX8_isSlot_1 : decode cX8_isSlot 1 = .ok (.ifCond .lt 12, 3) := by decide +kernel
theorem dX8_isSlot_4 : decode cX8_isSlot 4 = .ok (.iload_n 0, 1) := by decide +kernel
theorem dX8_isSlot_5 : decode cX8_isSlot 5 = .ok (.iconst 4, 1) := by decide +kernel
theorem dX8_isSlot_6 : decode cX8_isSlot 6 = .ok (.if_icmp .ge 7, 3) := by decide +kernel
theorem dX8_isSlot_9 : decode cX8_isSlot 9 = .ok (.iconst 1, 1) := by decide +kernel
theorem dX8_isSlot_10 : decode cX8_isSlot 10 = .ok (.goto 4, 3) := by decide +kernel
theorem dX8_isSlot_13 : decode cX8_isSlot 13 = .ok (.iconst 0, 1) := by decide +kernel
theorem dX8_isSlot_14 : decode cX8_isSlot 14 = .ok (.ireturn, 1) := by decide +kernel
theorem dX8_isTold_0 : decode cX8_isTold 0 = .ok (.iload_n 1, 1) := by decide +kernel
theorem dX8_isTold_1 : decode cX8_isTold 1 = .ok (.ifCond .lt 18, 3) := by decide +kernel
theorem dX8_isTold_4 : decode cX8_isTold 4 = .ok (.iload_n 1, 1) := by decide +kernel
theorem dX8_isTold_5 : decode cX8_isTold 5 = .ok (.aload_n 0, 1) := by decide +kernel
theorem dX8_isTold_6 : decode cX8_isTold 6 = .ok (.getfield 19, 3) := by decide +kernel
theorem dX8_isTold_9 : decode cX8_isTold 9 = .ok (.getfield 372, 3) := by decide +kernel
theorem dX8_isTold_12 : decode cX8_isTold 12 = .ok (.if_icmp .ge 7, 3) := by decide +kernel
theorem dX8_isTold_15 : decode cX8_isTold 15 = .ok (.iconst 1, 1) := by decide +kernel
theorem dX8_isTold_16 : decode cX8_isTold 16 = .ok (.goto 4, 3) := by decide +kernel
theorem dX8_isTold_19 : decode cX8_isTold 19 = .ok (.iconst 0, 1) := by decide +kernel
theorem dX8_isTold_20 : decode cX8_isTold 20 = .ok (.ireturn, 1) := by decide +kernel
theorem dX8_later_0 : decode cX8_later 0 = .ok (.aload_n 0, 1) := by decide +kernel
theorem dX8_later_1 : decode cX8_later 1 = .ok (.iload_n 1, 1) := by decide +kernel
theorem dX8_later_2 : decode cX8_later 2 = .ok (.invokevirtual 132, 3) := by decide +kernel
theorem dX8_later_5 : decode cX8_later 5 = .ok (.ifCond .eq 18, 3) := by decide +kernel
theorem dX8_later_8 : decode cX8_later 8 = .ok (.iload_n 2, 1) := by decide +kernel
theorem dX8_later_9 : decode cX8_later 9 = .ok (.ifCond .lt 14, 3) := by decide +kernel
theorem dX8_later_12 : decode cX8_later 12 = .ok (.iload_n 2, 1) := by decide +kernel
theorem dX8_later_13 : decode cX8_later 13 = .ok (.sipush 500, 3) := by decide +kernel
theorem dX8_later_16 : decode cX8_later 16 = .ok (.if_icmp .gt 7, 3) := by decide +kernel
theorem dX8_later_19 : decode cX8_later 19 = .ok (.iload_n 3, 1) := by decide +kernel
theorem dX8_later_20 : decode cX8_later 20 = .ok (.ifCond .ge 6, 3) := by decide +kernel
theorem dX8_later_23 : decode cX8_later 23 = .ok (.bipush (-2), 2) := by decide +kernel
theorem dX8_later_25 : decode cX8_later 25 = .ok (.ireturn, 1) := by decide +kernel
theorem dX8_later_26 : decode cX8_later 26 = .ok (.aload_n 0, 1) := by decide +kernel
theorem dX8_later_27 : decode cX8_later 27 = .ok (.getfield 70, 3) := by decide +kernel
theorem dX8_later_30 : decode cX8_later 30 = .ok (.aload_n 0, 1) := by decide +kernel
theorem dX8_later_31 : decode cX8_later 31 = .ok (.iload_n 1, 1) := by decide +kernel
theorem dX8_later_32 : decode cX8_later 32 = .ok (.invokevirtual 135, 3) := by decide +kernel
theorem dX8_later_35 : decode cX8_later 35 = .ok (.invokevirtual 230, 3) := by decide +kernel
theorem dX8_later_38 : decode cX8_later 38 = .ok (.iconst 0, 1) := by decide +kernel
theorem dX8_later_39 : decode cX8_later 39 = .ok (.istore 4, 2) := by decide +kernel
theorem dX8_later_41 : decode cX8_later 41 = .ok (.iload 4, 2) := by decide +kernel
theorem dX8_later_43 : decode cX8_later 43 = .ok (.iload_n 2, 1) := by decide +kernel
theorem dX8_later_44 : decode cX8_later 44 = .ok (.if_icmp .ge 23, 3) := by decide +kernel
theorem dX8_later_47 : decode cX8_later 47 = .ok (.aload_n 0, 1) := by decide +kernel
theorem dX8_later_48 : decode cX8_later 48 = .ok (.getfield 70, 3) := by decide +kernel
theorem dX8_later_51 : decode cX8_later 51 = .ok (.aload_n 0, 1) := by decide +kernel
theorem dX8_later_52 : decode cX8_later 52 = .ok (.getfield 19, 3) := by decide +kernel
theorem dX8_later_55 : decode cX8_later 55 = .ok (.getfield 168, 3) := by decide +kernel
theorem dX8_later_58 : decode cX8_later 58 = .ok (.invokevirtual 233, 3) := by decide +kernel
theorem dX8_later_61 : decode cX8_later 61 = .ok (.iinc 4 1, 3) := by decide +kernel
theorem dX8_later_64 : decode cX8_later 64 = .ok (.goto (-23), 3) := by decide +kernel
theorem dX8_later_67 : decode cX8_later 67 = .ok (.aload_n 0, 1) := by decide +kernel
theorem dX8_later_68 : decode cX8_later 68 = .ok (.getfield 70, 3) := by decide +kernel
theorem dX8_later_71 : decode cX8_later 71 = .ok (.iload_n 3, 1) := by decide +kernel
theorem dX8_later_72 : decode cX8_later 72 = .ok (.invokevirtual 142, 3) := by decide +kernel
theorem dX8_later_75 : decode cX8_later 75 = .ok (.ireturn, 1) := by decide +kernel
theorem dX8_latest_0 : decode cX8_latest 0 = .ok (.aload_n 0, 1) := by decide +kernel
theorem dX8_latest_1 : decode cX8_latest 1 = .ok (.invokevirtual 177, 3) := by decide +kernel
theorem dX8_latest_4 : decode cX8_latest 4 = .ok (.ifCond .ne 13, 3) := by decide +kernel
theorem dX8_latest_7 : decode cX8_latest 7 = .ok (.iload_n 1, 1) := by decide +kernel
theorem dX8_latest_8 : decode cX8_latest 8 = .ok (.ifCond .lt 9, 3) := by decide +kernel
theorem dX8_latest_11 : decode cX8_latest 11 = .ok (.iload_n 1, 1) := by decide +kernel
theorem dX8_latest_12 : decode cX8_latest 12 = .ok (.bipush 30, 2) := by decide +kernel
theorem dX8_latest_14 : decode cX8_latest 14 = .ok (.if_icmp .le 6, 3) := by decide +kernel
theorem dX8_latest_17 : decode cX8_latest 17 = .ok (.bipush (-2), 2) := by decide +kernel
theorem dX8_latest_19 : decode cX8_latest 19 = .ok (.ireturn, 1) := by decide +kernel
theorem dX8_latest_20 : decode cX8_latest 20 = .ok (.aload_n 0, 1) := by decide +kernel
theorem dX8_latest_21 : decode cX8_latest 21 = .ok (.invokevirtual 272, 3) := by decide +kernel
theorem dX8_latest_24 : decode cX8_latest 24 = .ok (.iload_n 1, 1) := by decide +kernel
theorem dX8_latest_25 : decode cX8_latest 25 = .ok (.if_icmp .lt 5, 3) := by decide +kernel
theorem dX8_latest_28 : decode cX8_latest 28 = .ok (.iconst (-1), 1) := by decide +kernel
theorem dX8_latest_29 : decode cX8_latest 29 = .ok (.ireturn, 1) := by decide +kernel
theorem dX8_latest_30 : decode cX8_latest 30 = .ok (.aload_n 0, 1) := by decide +kernel
theorem dX8_latest_31 : decode cX8_latest 31 = .ok (.getfield 19, 3) := by decide +kernel
theorem dX8_latest_34 : decode cX8_latest 34 = .ok (.getfield 181, 3) := by decide +kernel
theorem dX8_latest_37 : decode cX8_latest 37 = .ok (.iconst 1, 1) := by decide +kernel
theorem dX8_latest_38 : decode cX8_latest 38 = .ok (.isub, 1) := by decide +kernel
theorem dX8_latest_39 : decode cX8_latest 39 = .ok (.istore_n 2, 1) := by decide +kernel
theorem dX8_latest_40 : decode cX8_latest 40 = .ok (.iload_n 2, 1) := by decide +kernel
theorem dX8_latest_41 : decode cX8_latest 41 = .ok (.ifCond .lt 22, 3) := by decide +kernel
theorem dX8_latest_44 : decode cX8_latest 44 = .ok (.aload_n 0, 1) := by decide +kernel
theorem dX8_latest_45 : decode cX8_latest 45 = .ok (.iload_n 2, 1) := by decide +kernel
theorem dX8_latest_46 : decode cX8_latest 46 = .ok (.bipush 20, 2) := by decide +kernel
theorem dX8_latest_48 : decode cX8_latest 48 = .ok (.invokevirtual 275, 3) := by decide +kernel
theorem dX8_latest_51 : decode cX8_latest 51 = .ok (.iload_n 1, 1) := by decide +kernel
theorem dX8_latest_52 : decode cX8_latest 52 = .ok (.if_icmp .lt 5, 3) := by decide +kernel
theorem dX8_latest_55 : decode cX8_latest 55 = .ok (.iload_n 2, 1) := by decide +kernel
theorem dX8_latest_56 : decode cX8_latest 56 = .ok (.ireturn, 1) := by decide +kernel
theorem dX8_latest_57 : decode cX8_latest 57 = .ok (.iinc 2 (-1), 3) := by decide +kernel
theorem dX8_latest_60 : decode cX8_latest 60 = .ok (.goto (-20), 3) := by decide +kernel
theorem dX8_latest_63 : decode cX8_latest 63 = .ok (.iconst (-1), 1) := by decide +kernel
theorem dX8_latest_64 : decode cX8_latest 64 = .ok (.ireturn, 1) := by decide +kernel
theorem dX8_law_0 : decode cX8_law 0 = .ok (.aload_n 0, 1) := by decide +kernel
theorem dX8_law_1 : decode cX8_law 1 = .ok (.invokevirtual 177, 3) := by decide +kernel
theorem dX8_law_4 : decode cX8_law 4 = .ok (.ifCond .eq 6, 3) := by decide +kernel
theorem dX8_law_7 : decode cX8_law 7 = .ok (.bipush (-2), 2) := by decide +kernel
theorem dX8_law_9 : decode cX8_law 9 = .ok (.ireturn, 1) := by decide +kernel
theorem dX8_law_10 : decode cX8_law 10 = .ok (.iconst 0, 1) := by decide +kernel
theorem dX8_law_11 : decode cX8_law 11 = .ok (.istore_n 1, 1) := by decide +kernel
theorem dX8_law_12 : decode cX8_law 12 = .ok (.iconst (-1), 1) := by decide +kernel
theorem dX8_law_13 : decode cX8_law 13 = .ok (.istore_n 2, 1) := by decide +kernel
theorem dX8_law_14 : decode cX8_law 14 = .ok (.iconst 0, 1) := by decide +kernel
theorem dX8_law_15 : decode cX8_law 15 = .ok (.istore_n 3, 1) := by decide +kernel
theorem dX8_law_16 : decode cX8_law 16 = .ok (.iload_n 3, 1) := by decide +kernel
theorem dX8_law_17 : decode cX8_law 17 = .ok (.iconst 4, 1) := by decide +kernel
theorem dX8_law_18 : decode cX8_law 18 = .ok (.if_icmp .ge 30, 3) := by decide +kernel
theorem dX8_law_21 : decode cX8_law 21 = .ok (.aload_n 0, 1) := by decide +kernel
theorem dX8_law_22 : decode cX8_law 22 = .ok (.iload_n 3, 1) := by decide +kernel
theorem dX8_law_23 : decode cX8_law 23 = .ok (.invokevirtual 303, 3) := by decide +kernel
theorem dX8_law_26 : decode cX8_law 26 = .ok (.getfield 139, 3) := by decide +kernel
theorem dX8_law_29 : decode cX8_law 29 = .ok (.istore 4, 2) := by decide +kernel
theorem dX8_law_31 : decode cX8_law 31 = .ok (.iload 4, 2) := by decide +kernel
theorem dX8_law_33 : decode cX8_law 33 = .ok (.iload_n 2, 1) := by decide +kernel
theorem dX8_law_34 : decode cX8_law 34 = .ok (.if_icmp .le 8, 3) := by decide +kernel
theorem dX8_law_37 : decode cX8_law 37 = .ok (.iload_n 3, 1) := by decide +kernel
theorem dX8_law_38 : decode cX8_law 38 = .ok (.istore_n 1, 1) := by decide +kernel
theorem dX8_law_39 : decode cX8_law 39 = .ok (.iload 4, 2) := by decide +kernel
theorem dX8_law_41 : decode cX8_law 41 = .ok (.istore_n 2, 1) := by decide +kernel
theorem dX8_law_42 : decode cX8_law 42 = .ok (.iinc 3 1, 3) := by decide +kernel
theorem dX8_law_45 : decode cX8_law 45 = .ok (.goto (-29), 3) := by decide +kernel
theorem dX8_law_48 : decode cX8_law 48 = .ok (.iload_n 1, 1) := by decide +kernel
theorem dX8_law_49 : decode cX8_law 49 = .ok (.ireturn, 1) := by decide +kernel
theorem dX8_laws_0 : decode cX8_laws 0 = .ok (.aload_n 0, 1) := by decide +kernel
theorem dX8_laws_1 : decode cX8_laws 1 = .ok (.iload_n 1, 1) := by decide +kernel
theorem dX8_laws_2 : decode cX8_laws 2 = .ok (.aload_n 0, 1) := by decide +kernel
theorem dX8_laws_3 : decode cX8_laws 3 = .ok (.invokevirtual 177, 3) := by decide +kernel
theorem dX8_laws_6 : decode cX8_laws 6 = .ok (.ifCond .ne 7, 3) := by decide +kernel
theorem dX8_laws_9 : decode cX8_laws 9 = .ok (.iconst 1, 1) := by decide +kernel
theorem dX8_laws_10 : decode cX8_laws 10 = .ok (.goto 4, 3) := by decide +kernel
theorem dX8_laws_13 : decode cX8_laws 13 = .ok (.iconst 0, 1) := by decide +kernel
theorem dX8_laws_14 : decode cX8_laws 14 = .ok (.invokevirtual 284, 3) := by decide +kernel
theorem dX8_laws_17 : decode cX8_laws 17 = .ok (.istore_n 2, 1) := by decide +kernel
theorem dX8_laws_18 : decode cX8_laws 18 = .ok (.iload_n 2, 1) := by decide +kernel
theorem dX8_laws_19 : decode cX8_laws 19 = .ok (.ifCond .eq 5, 3) := by decide +kernel
theorem dX8_laws_22 : decode cX8_laws 22 = .ok (.iload_n 2, 1) := by decide +kernel
theorem dX8_laws_23 : decode cX8_laws 23 = .ok (.ireturn, 1) := by decide +kernel
theorem dX8_laws_24 : decode cX8_laws 24 = .ok (.iconst 0, 1) := by decide +kernel
theorem dX8_laws_25 : decode cX8_laws 25 = .ok (.istore_n 3, 1) := by decide +kernel
theorem dX8_laws_26 : decode cX8_laws 26 = .ok (.iconst 0, 1) := by decide +kernel
theorem dX8_laws_27 : decode cX8_laws 27 = .ok (.istore 4, 2) := by decide +kernel
theorem dX8_laws_29 : decode cX8_laws 29 = .ok (.iload 4, 2) := by decide +kernel
theorem dX8_laws_31 : decode cX8_laws 31 = .ok (.iconst 4, 1) := by decide +kernel
theorem dX8_laws_32 : decode cX8_laws 32 = .ok (.if_icmp .ge 39, 3) := by decide +kernel
theorem dX8_laws_35 : decode cX8_laws 35 = .ok (.aload_n 0, 1) := by decide +kernel
theorem dX8_laws_36 : decode cX8_laws 36 = .ok (.iload 4, 2) := by decide +kernel
theorem dX8_laws_38 : decode cX8_laws 38 = .ok (.invokevirtual 303, 3) := by decide +kernel
theorem dX8_laws_41 : decode cX8_laws 41 = .ok (.pop, 1) := by decide +kernel
theorem dX8_laws_42 : decode cX8_laws 42 = .ok (.aload_n 0, 1) := by decide +kernel
theorem dX8_laws_43 : decode cX8_laws 43 = .ok (.getfield 32, 3) := by decide +kernel
theorem dX8_laws_46 : decode cX8_laws 46 = .ok (.iload_n 1, 1) := by decide +kernel
theorem dX8_laws_47 : decode cX8_laws 47 = .ok (.aaload, 1) := by decide +kernel
theorem dX8_laws_48 : decode cX8_laws 48 = .ok (.aload_n 0, 1) := by decide +kernel
theorem dX8_laws_49 : decode cX8_laws 49 = .ok (.getfield 43, 3) := by decide +kernel
theorem dX8_laws_52 : decode cX8_laws 52 = .ok (.invokevirtual 306, 3) := by decide +kernel
theorem dX8_laws_55 : decode cX8_laws 55 = .ok (.ifCond .eq 10, 3) := by decide +kernel
theorem dX8_laws_58 : decode cX8_laws 58 = .ok (.iload_n 3, 1) := by decide +kernel
theorem dX8_laws_59 : decode cX8_laws 59 = .ok (.iconst 1, 1) := by decide +kernel
theorem dX8_laws_60 : decode cX8_laws 60 = .ok (.iload 4, 2) := by decide +kernel
theorem dX8_laws_62 : decode cX8_laws 62 = .ok (.ishl, 1) := by decide +kernel
theorem dX8_laws_63 : decode cX8_laws 63 = .ok (.ior, 1) := by decide +kernel
theorem dX8_laws_64 : decode cX8_laws 64 = .ok (.istore_n 3, 1) := by decide +kernel
theorem dX8_laws_65 : decode cX8_laws 65 = .ok (.iinc 4 1, 3) := by decide +kernel
theorem dX8_laws_68 : decode cX8_laws 68 = .ok (.goto (-39), 3) := by decide +kernel
theorem dX8_laws_71 : decode cX8_laws 71 = .ok (.iload_n 3, 1) := by decide +kernel
theorem dX8_laws_72 : decode cX8_laws 72 = .ok (.ireturn, 1) := by decide +kernel
theorem dX8_least_0 : decode cX8_least 0 = .ok (.aload_n 0, 1) := by decide +kernel
theorem dX8_least_1 : decode cX8_least 1 = .ok (.iload_n 1, 1) := by decide +kernel
theorem dX8_least_2 : decode cX8_least 2 = .ok (.aload_n 0, 1) := by decide +kernel
theorem dX8_least_3 : decode cX8_least 3 = .ok (.iload_n 2, 1) := by decide +kernel
theorem dX8_least_4 : decode cX8_least 4 = .ok (.invokevirtual 113, 3) := by decide +kernel
theorem dX8_least_7 : decode cX8_least 7 = .ok (.invokevirtual 284, 3) := by decide +kernel
theorem dX8_least_10 : decode cX8_least 10 = .ok (.istore_n 3, 1) := by decide +kernel
theorem dX8_least_11 : decode cX8_least 11 = .ok (.iload_n 3, 1) := by decide +kernel
theorem dX8_least_12 : decode cX8_least 12 = .ok (.ifCond .eq 7, 3) := by decide +kernel
theorem dX8_least_15 : decode cX8_least 15 = .ok (.iload_n 3, 1) := by decide +kernel
theorem dX8_least_16 : decode cX8_least 16 = .ok (.goto 12, 3) := by decide +kernel
theorem dX8_least_19 : decode cX8_least 19 = .ok (.aload_n 0, 1) := by decide +kernel
theorem dX8_least_20 : decode cX8_least 20 = .ok (.iload_n 1, 1) := by decide +kernel
theorem dX8_least_21 : decode cX8_least 21 = .ok (.iload_n 2, 1) := by decide +kernel
theorem dX8_least_22 : decode cX8_least 22 = .ok (.invokevirtual 288, 3) := by decide +kernel
theorem dX8_least_25 : decode cX8_least 25 = .ok (.invokevirtual 295, 3) := by decide +kernel
theorem dX8_least_28 : decode cX8_least 28 = .ok (.ireturn, 1) := by decide +kernel
theorem dX8_leaves_0 : decode cX8_leaves 0 = .ok (.aload_n 0, 1) := by decide +kernel
theorem dX8_leaves_1 : decode cX8_leaves 1 = .ok (.iload_n 1, 1) := by decide +kernel
theorem dX8_leaves_2 : decode cX8_leaves 2 = .ok (.aload_n 0, 1) := by decide +kernel
theorem dX8_leaves_3 : decode cX8_leaves 3 = .ok (.iload_n 2, 1) := by decide +kernel
theorem dX8_leaves_4 : decode cX8_leaves 4 = .ok (.invokevirtual 113, 3) := by decide +kernel
theorem dX8_leaves_7 : decode cX8_leaves 7 = .ok (.invokevirtual 284, 3) := by decide +kernel
theorem dX8_leaves_10 : decode cX8_leaves 10 = .ok (.istore_n 3, 1) := by decide +kernel
theorem dX8_leaves_11 : decode cX8_leaves 11 = .ok (.iload_n 3, 1) := by decide +kernel
theorem dX8_leaves_12 : decode cX8_leaves 12 = .ok (.ifCond .eq 7, 3) := by decide +kernel
theorem dX8_leaves_15 : decode cX8_leaves 15 = .ok (.iload_n 3, 1) := by decide +kernel
theorem dX8_leaves_16 : decode cX8_leaves 16 = .ok (.goto 19, 3) := by decide +kernel
theorem dX8_leaves_19 : decode cX8_leaves 19 = .ok (.aload_n 0, 1) := by decide +kernel
theorem dX8_leaves_20 : decode cX8_leaves 20 = .ok (.iload_n 1, 1) := by decide +kernel
theorem dX8_leaves_21 : decode cX8_leaves 21 = .ok (.iload_n 2, 1) := by decide +kernel
theorem dX8_leaves_22 : decode cX8_leaves 22 = .ok (.invokevirtual 288, 3) := by decide +kernel
theorem dX8_leaves_25 : decode cX8_leaves 25 = .ok (.aload_n 0, 1) := by decide +kernel
theorem dX8_leaves_26 : decode cX8_leaves 26 = .ok (.getfield 19, 3) := by decide +kernel
theorem dX8_leaves_29 : decode cX8_leaves 29 = .ok (.getfield 181, 3) := by decide +kernel
theorem dX8_leaves_32 : decode cX8_leaves 32 = .ok (.invokevirtual 300, 3) := by decide +kernel
theorem dX8_leaves_35 : decode cX8_leaves 35 = .ok (.ireturn, 1) := by decide +kernel
theorem dX8_length_0 : decode cX8_length 0 = .ok (.aload_n 0, 1) := by decide +kernel
theorem dX8_length_1 : decode cX8_length 1 = .ok (.iload_n 1, 1) := by decide +kernel
theorem dX8_length_2 : decode cX8_length 2 = .ok (.invokevirtual 132, 3) := by decide +kernel
theorem dX8_length_5 : decode cX8_length 5 = .ok (.ifCond .eq 14, 3) := by decide +kernel
theorem dX8_length_8 : decode cX8_length 8 = .ok (.aload_n 0, 1) := by decide +kernel
theorem dX8_length_9 : decode cX8_length 9 = .ok (.iload_n 1, 1) := by decide +kernel
theorem dX8_length_10 : decode cX8_length 10 = .ok (.invokevirtual 217, 3) := by decide +kernel
theorem dX8_length_13 : decode cX8_length 13 = .ok (.getfield 224, 3) := by decide +kernel
theorem dX8_length_16 : decode cX8_length 16 = .ok (.goto 5, 3) := by decide +kernel
theorem dX8_length_19 : decode cX8_length 19 = .ok (.bipush (-2), 2) := by decide +kernel
theorem dX8_length_21 : decode cX8_length 21 = .ok (.ireturn, 1) := by decide +kernel
theorem dX8_longest_0 : decode cX8_longest 0 = .ok (.aload_n 0, 1) := by decide +kernel
theorem dX8_longest_1 : decode cX8_longest 1 = .ok (.iload_n 1, 1) := by decide +kernel
theorem dX8_longest_2 : decode cX8_longest 2 = .ok (.invokevirtual 239, 3) := by decide +kernel
theorem dX8_longest_5 : decode cX8_longest 5 = .ok (.ifCond .eq 14, 3) := by decide +kernel
theorem dX8_longest_8 : decode cX8_longest 8 = .ok (.aload_n 0, 1) := by decide +kernel
theorem dX8_longest_9 : decode cX8_longest 9 = .ok (.iload_n 1, 1) := by decide +kernel
theorem dX8_longest_10 : decode cX8_longest 10 = .ok (.invokevirtual 242, 3) := by decide +kernel
theorem dX8_longest_13 : decode cX8_longest 13 = .ok (.getfield 256, 3) := by decide +kernel
theorem dX8_longest_16 : decode cX8_longest 16 = .ok (.goto 5, 3) := by decide +kernel
theorem dX8_longest_19 : decode cX8_longest 19 = .ok (.bipush (-2), 2) := by decide +kernel
theorem dX8_longest_21 : decode cX8_longest 21 = .ok (.ireturn, 1) := by decide +kernel
theorem dX8_luck_0 : decode cX8_luck 0 = .ok (.iload_n 1, 1) := by decide +kernel
theorem dX8_luck_1 : decode cX8_luck 1 = .ok (.ifCond .lt 25, 3) := by decide +kernel
theorem dX8_luck_4 : decode cX8_luck 4 = .ok (.iload_n 1, 1) := by decide +kernel
theorem dX8_luck_5 : decode cX8_luck 5 = .ok (.ldc_w 361, 3) := by decide +kernel
theorem dX8_luck_8 : decode cX8_luck 8 = .ok (.if_icmp .gt 18, 3) := by decide +kernel
theorem dX8_luck_11 : decode cX8_luck 11 = .ok (.iload_n 2, 1) := by decide +kernel
theorem dX8_luck_12 : decode cX8_luck 12 = .ok (.iconst 1, 1) := by decide +kernel
theorem dX8_luck_13 : decode cX8_luck 13 = .ok (.if_icmp .lt 13, 3) := by decide +kernel
theorem dX8_luck_16 : decode cX8_luck 16 = .ok (.iload_n 2, 1) := by decide +kernel
theorem dX8_luck_17 : decode cX8_luck 17 = .ok (.bipush 20, 2) := by decide +kernel
theorem dX8_luck_19 : decode cX8_luck 19 = .ok (.if_icmp .gt 7, 3) := by decide +kernel
theorem dX8_luck_22 : decode cX8_luck 22 = .ok (.iconst 1, 1) := by decide +kernel
theorem dX8_luck_23 : decode cX8_luck 23 = .ok (.goto 4, 3) := by decide +kernel
theorem dX8_luck_26 : decode cX8_luck 26 = .ok (.iconst 0, 1) := by decide +kernel
theorem dX8_luck_27 : decode cX8_luck 27 = .ok (.istore 4, 2) := by decide +kernel
theorem dX8_luck_29 : decode cX8_luck 29 = .ok (.aload_n 0, 1) := by decide +kernel
theorem dX8_luck_30 : decode cX8_luck 30 = .ok (.invokevirtual 177, 3) := by decide +kernel
theorem dX8_luck_33 : decode cX8_luck 33 = .ok (.ifCond .ne 19, 3) := by decide +kernel
theorem dX8_luck_36 : decode cX8_luck 36 = .ok (.iload 4, 2) := by decide +kernel
theorem dX8_luck_38 : decode cX8_luck 38 = .ok (.ifCond .eq 14, 3) := by decide +kernel
theorem dX8_luck_41 : decode cX8_luck 41 = .ok (.iload_n 3, 1) := by decide +kernel
theorem dX8_luck_42 : decode cX8_luck 42 = .ok (.ifCond .lt 10, 3) := by decide +kernel
theorem dX8_luck_45 : decode cX8_luck 45 = .ok (.iload_n 3, 1) := by decide +kernel
theorem dX8_luck_46 : decode cX8_luck 46 = .ok (.sipush 700, 3) := by decide +kernel
theorem dX8_luck_49 : decode cX8_luck 49 = .ok (.if_icmp .le 6, 3) := by decide +kernel
theorem dX8_luck_52 : decode cX8_luck 52 = .ok (.bipush (-2), 2) := by decide +kernel
theorem dX8_luck_54 : decode cX8_luck 54 = .ok (.ireturn, 1) := by decide +kernel
theorem dX8_luck_55 : decode cX8_luck 55 = .ok (.iconst 0, 1) := by decide +kernel
theorem dX8_luck_56 : decode cX8_luck 56 = .ok (.istore 5, 2) := by decide +kernel
theorem dX8_luck_58 : decode cX8_luck 58 = .ok (.iconst 0, 1) := by decide +kernel
theorem dX8_luck_59 : decode cX8_luck 59 = .ok (.istore 6, 2) := by decide +kernel
theorem dX8_luck_61 : decode cX8_luck 61 = .ok (.iload 6, 2) := by decide +kernel
theorem dX8_luck_63 : decode cX8_luck 63 = .ok (.iload_n 2, 1) := by decide +kernel
theorem dX8_luck_64 : decode cX8_luck 64 = .ok (.if_icmp .ge 30, 3) := by decide +kernel
theorem dX8_luck_67 : decode cX8_luck 67 = .ok (.aload_n 0, 1) := by decide +kernel
theorem dX8_luck_68 : decode cX8_luck 68 = .ok (.aload_n 0, 1) := by decide +kernel
theorem dX8_luck_69 : decode cX8_luck 69 = .ok (.iload_n 1, 1) := by decide +kernel
theorem dX8_luck_70 : decode cX8_luck 70 = .ok (.i2l, 1) := by decide +kernel
theorem dX8_luck_71 : decode cX8_luck 71 = .ok (.iload 6, 2) := by decide +kernel
theorem dX8_luck_73 : decode cX8_luck 73 = .ok (.i2l, 1) := by decide +kernel
theorem dX8_luck_74 : decode cX8_luck 74 = .ok (.ladd, 1) := by decide +kernel
theorem dX8_luck_75 : decode cX8_luck 75 = .ok (.invokevirtual 362, 3) := by decide +kernel
theorem dX8_luck_78 : decode cX8_luck 78 = .ok (.invokevirtual 366, 3) := by decide +kernel
theorem dX8_luck_81 : decode cX8_luck 81 = .ok (.iload_n 3, 1) := by decide +kernel
theorem dX8_luck_82 : decode cX8_luck 82 = .ok (.if_icmp .lt 6, 3) := by decide +kernel
theorem dX8_luck_85 : decode cX8_luck 85 = .ok (.iinc 5 1, 3) := by decide +kernel
theorem dX8_luck_88 : decode cX8_luck 88 = .ok (.iinc 6 1, 3) := by decide +kernel
theorem dX8_luck_91 : decode cX8_luck 91 = .ok (.goto (-30), 3) := by decide +kernel
theorem dX8_luck_94 : decode cX8_luck 94 = .ok (.iload 5, 2) := by decide +kernel
theorem dX8_luck_96 : decode cX8_luck 96 = .ok (.ireturn, 1) := by decide +kernel
theorem dX8_many_0 : decode cX8_many 0 = .ok (.aload_n 0, 1) := by decide +kernel
theorem dX8_many_1 : decode cX8_many 1 = .ok (.iload_n 1, 1) := by decide +kernel
theorem dX8_many_2 : decode cX8_many 2 = .ok (.invokevirtual 132, 3) := by decide +kernel
theorem dX8_many_5 : decode cX8_many 5 = .ok (.ifCond .eq 15, 3) := by decide +kernel
theorem dX8_many_8 : decode cX8_many 8 = .ok (.iload_n 2, 1) := by decide +kernel
theorem dX8_many_9 : decode cX8_many 9 = .ok (.iconst 1, 1) := by decide +kernel
theorem dX8_many_10 : decode cX8_many 10 = .ok (.if_icmp .lt 10, 3) := by decide +kernel
theorem dX8_many_13 : decode cX8_many 13 = .ok (.iload_n 2, 1) := by decide +kernel
theorem dX8_many_14 : decode cX8_many 14 = .ok (.sipush 700, 3) := by decide +kernel
theorem dX8_many_17 : decode cX8_many 17 = .ok (.if_icmp .le 6, 3) := by decide +kernel
theorem dX8_many_20 : decode cX8_many 20 = .ok (.bipush (-2), 2) := by decide +kernel
theorem dX8_many_22 : decode cX8_many 22 = .ok (.ireturn, 1) := by decide +kernel
theorem dX8_many_23 : decode cX8_many 23 = .ok (.aload_n 0, 1) := by decide +kernel
theorem dX8_many_24 : decode cX8_many 24 = .ok (.iload_n 1, 1) := by decide +kernel
theorem dX8_many_25 : decode cX8_many 25 = .ok (.invokevirtual 135, 3) := by decide +kernel
theorem dX8_many_28 : decode cX8_many 28 = .ok (.iload_n 2, 1) := by decide +kernel
theorem dX8_many_29 : decode cX8_many 29 = .ok (.invokevirtual 149, 3) := by decide +kernel
theorem dX8_many_32 : decode cX8_many 32 = .ok (.ireturn, 1) := by decide +kernel
theorem dX8_mean_0 : decode cX8_mean 0 = .ok (.aload_n 0, 1) := by decide +kernel
theorem dX8_mean_1 : decode cX8_mean 1 = .ok (.iload_n 1, 1) := by decide +kernel
theorem dX8_mean_2 : decode cX8_mean 2 = .ok (.invokevirtual 342, 3) := by decide +kernel
theorem dX8_mean_5 : decode cX8_mean 5 = .ok (.ifCond .eq 10, 3) := by decide +kernel
theorem dX8_mean_8 : decode cX8_mean 8 = .ok (.iload_n 2, 1) := by decide +kernel
theorem dX8_mean_9 : decode cX8_mean 9 = .ok (.invokestatic 123, 3) := by decide +kernel
theorem dX8_mean_12 : decode cX8_mean 12 = .ok (.ifCond .ne 7, 3) := by decide +kernel
theorem dX8_mean_15 : decode cX8_mean 15 = .ok (.ldc2_w 345, 3) := by decide +kernel
theorem dX8_mean_18 : decode cX8_mean 18 = .ok (.lreturn, 1) := by decide +kernel
theorem dX8_mean_19 : decode cX8_mean 19 = .ok (.aload_n 0, 1) := by decide +kernel
theorem dX8_mean_20 : decode cX8_mean 20 = .ok (.iload_n 1, 1) := by decide +kernel
theorem dX8_mean_21 : decode cX8_mean 21 = .ok (.iconst (-1), 1) := by decide +kernel
theorem dX8_mean_22 : decode cX8_mean 22 = .ok (.invokevirtual 347, 3) := by decide +kernel
theorem dX8_mean_25 : decode cX8_mean 25 = .ok (.iload_n 1, 1) := by decide +kernel
theorem dX8_mean_26 : decode cX8_mean 26 = .ok (.iconst 1, 1) := by decide +kernel
theorem dX8_mean_27 : decode cX8_mean 27 = .ok (.iadd, 1) := by decide +kernel
theorem dX8_mean_28 : decode cX8_mean 28 = .ok (.invokestatic 351, 3) := by decide +kernel
theorem dX8_mean_31 : decode cX8_mean 31 = .ok (.iload_n 2, 1) := by decide +kernel
theorem dX8_mean_32 : decode cX8_mean 32 = .ok (.invokestatic 319, 3) := by decide +kernel
theorem dX8_mean_35 : decode cX8_mean 35 = .ok (.lreturn, 1) := by decide +kernel
theorem dX8_moor_0 : decode cX8_moor 0 = .ok (.aload_n 0, 1) := by decide +kernel
theorem dX8_moor_1 : decode cX8_moor 1 = .ok (.getfield 12, 3) := by decide +kernel
theorem dX8_moor_4 : decode cX8_moor 4 = .ok (.aload_n 0, 1) := by decide +kernel
theorem dX8_moor_5 : decode cX8_moor 5 = .ok (.getfield 23, 3) := by decide +kernel
theorem dX8_moor_8 : decode cX8_moor 8 = .ok (.invokevirtual 93, 3) := by decide +kernel
theorem dX8_moor_11 : decode cX8_moor 11 = .ok (.ifCond .ne 6, 3) := by decide +kernel
theorem dX8_moor_14 : decode cX8_moor 14 = .ok (.bipush (-4), 2) := by decide +kernel
theorem dX8_moor_16 : decode cX8_moor 16 = .ok (.ireturn, 1) := by decide +kernel
theorem dX8_moor_17 : decode cX8_moor 17 = .ok (.aload_n 0, 1) := by decide +kernel
theorem dX8_moor_18 : decode cX8_moor 18 = .ok (.getfield 12, 3) := by decide +kernel
theorem dX8_moor_21 : decode cX8_moor 21 = .ok (.iconst 0, 1) := by decide +kernel
theorem dX8_moor_22 : decode cX8_moor 22 = .ok (.putfield 86, 3) := by decide +kernel
theorem dX8_moor_25 : decode cX8_moor 25 = .ok (.aload_n 0, 1) := by decide +kernel
theorem dX8_moor_26 : decode cX8_moor 26 = .ok (.getfield 19, 3) := by decide +kernel
theorem dX8_moor_29 : decode cX8_moor 29 = .ok (.aload_n 0, 1) := by decide +kernel
theorem dX8_moor_30 : decode cX8_moor 30 = .ok (.getfield 23, 3) := by decide +kernel
theorem dX8_moor_33 : decode cX8_moor 33 = .ok (.invokevirtual 97, 3) := by decide +kernel
theorem dX8_moor_36 : decode cX8_moor 36 = .ok (.aload_n 0, 1) := by decide +kernel
theorem dX8_moor_37 : decode cX8_moor 37 = .ok (.invokevirtual 101, 3) := by decide +kernel
theorem dX8_moor_40 : decode cX8_moor 40 = .ok (.aload_n 0, 1) := by decide +kernel
theorem dX8_moor_41 : decode cX8_moor 41 = .ok (.getfield 19, 3) := by decide +kernel
theorem dX8_moor_44 : decode cX8_moor 44 = .ok (.getfield 104, 3) := by decide +kernel
theorem dX8_moor_47 : decode cX8_moor 47 = .ok (.ireturn, 1) := by decide +kernel
theorem dX8_most_0 : decode cX8_most 0 = .ok (.aload_n 0, 1) := by decide +kernel
theorem dX8_most_1 : decode cX8_most 1 = .ok (.invokevirtual 177, 3) := by decide +kernel
theorem dX8_most_4 : decode cX8_most 4 = .ok (.ifCond .eq 6, 3) := by decide +kernel
theorem dX8_most_7 : decode cX8_most 7 = .ok (.bipush (-2), 2) := by decide +kernel
theorem dX8_most_9 : decode cX8_most 9 = .ok (.ireturn, 1) := by decide +kernel
theorem dX8_most_10 : decode cX8_most 10 = .ok (.iconst 0, 1) := by decide +kernel
theorem dX8_most_11 : decode cX8_most 11 = .ok (.istore_n 1, 1) := by decide +kernel
theorem dX8_most_12 : decode cX8_most 12 = .ok (.iconst 0, 1) := by decide +kernel
theorem dX8_most_13 : decode cX8_most 13 = .ok (.istore_n 2, 1) := by decide +kernel
theorem dX8_most_14 : decode cX8_most 14 = .ok (.iload_n 2, 1) := by decide +kernel
theorem dX8_most_15 : decode cX8_most 15 = .ok (.aload_n 0, 1) := by decide +kernel
theorem dX8_most_16 : decode cX8_most 16 = .ok (.getfield 19, 3) := by decide +kernel
theorem dX8_most_19 : decode cX8_most 19 = .ok (.getfield 181, 3) := by decide +kernel
theorem dX8_most_22 : decode cX8_most 22 = .ok (.if_icmp .gt 22, 3) := by decide +kernel
theorem dX8_most_25 : decode cX8_most 25 = .ok (.iload_n 1, 1) := by decide +kernel
theorem dX8_most_26 : decode cX8_most 26 = .ok (.aload_n 0, 1) := by decide +kernel
theorem dX8_most_27 : decode cX8_most 27 = .ok (.iload_n 2, 1) := by decide +kernel
theorem dX8_most_28 : decode cX8_most 28 = .ok (.invokevirtual 135, 3) := by decide +kernel
theorem dX8_most_31 : decode cX8_most 31 = .ok (.getfield 139, 3) := by decide +kernel
theorem dX8_most_34 : decode cX8_most 34 = .ok (.invokestatic 184, 3) := by decide +kernel
theorem dX8_most_37 : decode cX8_most 37 = .ok (.istore_n 1, 1) := by decide +kernel
theorem dX8_most_38 : decode cX8_most 38 = .ok (.iinc 2 1, 3) := by decide +kernel
theorem dX8_most_41 : decode cX8_most 41 = .ok (.goto (-27), 3) := by decide +kernel
theorem dX8_most_44 : decode cX8_most 44 = .ok (.iload_n 1, 1) := by decide +kernel
theorem dX8_most_45 : decode cX8_most 45 = .ok (.ireturn, 1) := by decide +kernel
theorem dX8_move_0 : decode cX8_move 0 = .ok (.aload_n 0, 1) := by decide +kernel
theorem dX8_move_1 : decode cX8_move 1 = .ok (.iload_n 1, 1) := by decide +kernel
theorem dX8_move_2 : decode cX8_move 2 = .ok (.invokevirtual 132, 3) := by decide +kernel
theorem dX8_move_5 : decode cX8_move 5 = .ok (.ifCond .eq 15, 3) := by decide +kernel
theorem dX8_move_8 : decode cX8_move 8 = .ok (.iload_n 2, 1) := by decide +kernel
theorem dX8_move_9 : decode cX8_move 9 = .ok (.iconst 1, 1) := by decide +kernel
theorem dX8_move_10 : decode cX8_move 10 = .ok (.if_icmp .lt 10, 3) := by decide +kernel
theorem dX8_move_13 : decode cX8_move 13 = .ok (.iload_n 2, 1) := by decide +kernel
theorem dX8_move_14 : decode cX8_move 14 = .ok (.sipush 700, 3) := by decide +kernel
theorem dX8_move_17 : decode cX8_move 17 = .ok (.if_icmp .le 6, 3) := by decide +kernel
theorem dX8_move_20 : decode cX8_move 20 = .ok (.bipush (-2), 2) := by decide +kernel
theorem dX8_move_22 : decode cX8_move 22 = .ok (.ireturn, 1) := by decide +kernel
theorem dX8_move_23 : decode cX8_move 23 = .ok (.aload_n 0, 1) := by decide +kernel
theorem dX8_move_24 : decode cX8_move 24 = .ok (.iload_n 1, 1) := by decide +kernel
theorem dX8_move_25 : decode cX8_move 25 = .ok (.invokevirtual 135, 3) := by decide +kernel
theorem dX8_move_28 : decode cX8_move 28 = .ok (.astore_n 3, 1) := by decide +kernel
theorem dX8_move_29 : decode cX8_move 29 = .ok (.iconst 0, 1) := by decide +kernel
theorem dX8_move_30 : decode cX8_move 30 = .ok (.istore 4, 2) := by decide +kernel
theorem dX8_move_32 : decode cX8_move 32 = .ok (.iload 4, 2) := by decide +kernel
theorem dX8_move_34 : decode cX8_move 34 = .ok (.aload_n 3, 1) := by decide +kernel
theorem dX8_move_35 : decode cX8_move 35 = .ok (.getfield 152, 3) := by decide +kernel
theorem dX8_move_38 : decode cX8_move 38 = .ok (.if_icmp .ge 40, 3) := by decide +kernel
theorem dX8_move_41 : decode cX8_move 41 = .ok (.aload_n 3, 1) := by decide +kernel
theorem dX8_move_42 : decode cX8_move 42 = .ok (.iload 4, 2) := by decide +kernel
theorem dX8_move_44 : decode cX8_move 44 = .ok (.iload_n 2, 1) := by decide +kernel
theorem dX8_move_45 : decode cX8_move 45 = .ok (.iconst 1, 1) := by decide +kernel
theorem dX8_move_46 : decode cX8_move 46 = .ok (.iadd, 1) := by decide +kernel
theorem dX8_move_47 : decode cX8_move 47 = .ok (.invokevirtual 326, 3) := by decide +kernel
theorem dX8_move_50 : decode cX8_move 50 = .ok (.istore 5, 2) := by decide +kernel
theorem dX8_move_52 : decode cX8_move 52 = .ok (.iload 5, 2) := by decide +kernel
theorem dX8_move_54 : decode cX8_move 54 = .ok (.ifCond .le 18, 3) := by decide +kernel
theorem dX8_move_57 : decode cX8_move 57 = .ok (.sipush 1000, 3) := by decide +kernel
theorem dX8_move_60 : decode cX8_move 60 = .ok (.aload_n 3, 1) := by decide +kernel
theorem dX8_move_61 : decode cX8_move 61 = .ok (.getfield 329, 3) := by decide +kernel
theorem dX8_move_64 : decode cX8_move 64 = .ok (.iload 4, 2) := by decide +kernel
theorem dX8_move_66 : decode cX8_move 66 = .ok (.iaload, 1) := by decide +kernel
theorem dX8_move_67 : decode cX8_move 67 = .ok (.imul, 1) := by decide +kernel
theorem dX8_move_68 : decode cX8_move 68 = .ok (.iload 5, 2) := by decide +kernel
theorem dX8_move_70 : decode cX8_move 70 = .ok (.iadd, 1) := by decide +kernel
theorem dX8_move_71 : decode cX8_move 71 = .ok (.ireturn, 1) := by decide +kernel
theorem dX8_move_72 : decode cX8_move 72 = .ok (.iinc 4 1, 3) := by decide +kernel
theorem dX8_move_75 : decode cX8_move 75 = .ok (.goto (-43), 3) := by decide +kernel
theorem dX8_move_78 : decode cX8_move 78 = .ok (.iconst (-1), 1) := by decide +kernel
theorem dX8_move_79 : decode cX8_move 79 = .ok (.ireturn, 1) := by decide +kernel
theorem dX8_moves_0 : decode cX8_moves 0 = .ok (.aload_n 0, 1) := by decide +kernel
theorem dX8_moves_1 : decode cX8_moves 1 = .ok (.iload_n 1, 1) := by decide +kernel
theorem dX8_moves_2 : decode cX8_moves 2 = .ok (.invokevirtual 132, 3) := by decide +kernel
theorem dX8_moves_5 : decode cX8_moves 5 = .ok (.ifCond .eq 15, 3) := by decide +kernel
theorem dX8_moves_8 : decode cX8_moves 8 = .ok (.iload_n 2, 1) := by decide +kernel
theorem dX8_moves_9 : decode cX8_moves 9 = .ok (.iconst 1, 1) := by decide +kernel
theorem dX8_moves_10 : decode cX8_moves 10 = .ok (.if_icmp .lt 10, 3) := by decide +kernel
theorem dX8_moves_13 : decode cX8_moves 13 = .ok (.iload_n 2, 1) := by decide +kernel
theorem dX8_moves_14 : decode cX8_moves 14 = .ok (.sipush 700, 3) := by decide +kernel
theorem dX8_moves_17 : decode cX8_moves 17 = .ok (.if_icmp .le 6, 3) := by decide +kernel
theorem dX8_moves_20 : decode cX8_moves 20 = .ok (.bipush (-2), 2) := by decide +kernel
theorem dX8_moves_22 : decode cX8_moves 22 = .ok (.ireturn, 1) := by decide +kernel
theorem dX8_moves_23 : decode cX8_moves 23 = .ok (.aload_n 0, 1) := by decide +kernel
theorem dX8_moves_24 : decode cX8_moves 24 = .ok (.iload_n 1, 1) := by decide +kernel
theorem dX8_moves_25 : decode cX8_moves 25 = .ok (.invokevirtual 135, 3) := by decide +kernel
theorem dX8_moves_28 : decode cX8_moves 28 = .ok (.astore_n 3, 1) := by decide +kernel
theorem dX8_moves_29 : decode cX8_moves 29 = .ok (.iconst 0, 1) := by decide +kernel
theorem dX8_moves_30 : decode cX8_moves 30 = .ok (.istore 4, 2) := by decide +kernel
theorem dX8_moves_32 : decode cX8_moves 32 = .ok (.iconst 0, 1) := by decide +kernel
theorem dX8_moves_33 : decode cX8_moves 33 = .ok (.istore 5, 2) := by decide +kernel
theorem dX8_moves_35 : decode cX8_moves 35 = .ok (.iload 5, 2) := by decide +kernel
theorem dX8_moves_37 : decode cX8_moves 37 = .ok (.aload_n 3, 1) := by decide +kernel
theorem dX8_moves_38 : decode cX8_moves 38 = .ok (.getfield 152, 3) := by decide +kernel
theorem dX8_moves_41 : decode cX8_moves 41 = .ok (.if_icmp .ge 24, 3) := by decide +kernel
theorem dX8_moves_44 : decode cX8_moves 44 = .ok (.aload_n 3, 1) := by decide +kernel
theorem dX8_moves_45 : decode cX8_moves 45 = .ok (.iload 5, 2) := by decide +kernel
theorem dX8_moves_47 : decode cX8_moves 47 = .ok (.iload_n 2, 1) := by decide +kernel
theorem dX8_moves_48 : decode cX8_moves 48 = .ok (.iconst 1, 1) := by decide +kernel
theorem dX8_moves_49 : decode cX8_moves 49 = .ok (.iadd, 1) := by decide +kernel
theorem dX8_moves_50 : decode cX8_moves 50 = .ok (.invokevirtual 326, 3) := by decide +kernel
theorem dX8_moves_53 : decode cX8_moves 53 = .ok (.ifCond .le 6, 3) := by decide +kernel
theorem dX8_moves_56 : decode cX8_moves 56 = .ok (.iinc 4 1, 3) := by decide +kernel
theorem dX8_moves_59 : decode cX8_moves 59 = .ok (.iinc 5 1, 3) := by decide +kernel
theorem dX8_moves_62 : decode cX8_moves 62 = .ok (.goto (-27), 3) := by decide +kernel
theorem dX8_moves_65 : decode cX8_moves 65 = .ok (.iload 4, 2) := by decide +kernel
theorem dX8_moves_67 : decode cX8_moves 67 = .ok (.ireturn, 1) := by decide +kernel
theorem dX8_noMoor_0 : decode cX8_noMoor 0 = .ok (.aload_n 0, 1) := by decide +kernel
theorem dX8_noMoor_1 : decode cX8_noMoor 1 = .ok (.getfield 19, 3) := by decide +kernel
theorem dX8_noMoor_4 : decode cX8_noMoor 4 = .ok (.getfield 104, 3) := by decide +kernel
theorem dX8_noMoor_7 : decode cX8_noMoor 7 = .ok (.ifCond .ne 7, 3) := by decide +kernel
theorem dX8_noMoor_10 : decode cX8_noMoor 10 = .ok (.iconst 1, 1) := by decide +kernel
theorem dX8_noMoor_11 : decode cX8_noMoor 11 = .ok (.goto 4, 3) := by decide +kernel
theorem dX8_noMoor_14 : decode cX8_noMoor 14 = .ok (.iconst 0, 1) := by decide +kernel
theorem dX8_noMoor_15 : decode cX8_noMoor 15 = .ok (.ireturn, 1) := by decide +kernel
theorem dX8_odd_0 : decode cX8_odd 0 = .ok (.aload_n 0, 1) := by decide +kernel
theorem dX8_odd_1 : decode cX8_odd 1 = .ok (.iload_n 1, 1) := by decide +kernel
theorem dX8_odd_2 : decode cX8_odd 2 = .ok (.invokevirtual 132, 3) := by decide +kernel
theorem dX8_odd_5 : decode cX8_odd 5 = .ok (.ifCond .eq 14, 3) := by decide +kernel
theorem dX8_odd_8 : decode cX8_odd 8 = .ok (.aload_n 0, 1) := by decide +kernel
theorem dX8_odd_9 : decode cX8_odd 9 = .ok (.iload_n 1, 1) := by decide +kernel
theorem dX8_odd_10 : decode cX8_odd 10 = .ok (.invokevirtual 135, 3) := by decide +kernel
theorem dX8_odd_13 : decode cX8_odd 13 = .ok (.invokevirtual 162, 3) := by decide +kernel
theorem dX8_odd_16 : decode cX8_odd 16 = .ok (.goto 5, 3) := by decide +kernel
theorem dX8_odd_19 : decode cX8_odd 19 = .ok (.bipush (-2), 2) := by decide +kernel
theorem dX8_odd_21 : decode cX8_odd 21 = .ok (.ireturn, 1) := by decide +kernel
theorem dX8_paste_0 : decode cX8_paste 0 = .ok (.iload_n 1, 1) := by decide +kernel
theorem dX8_paste_1 : decode cX8_paste 1 = .ok (.invokestatic 382, 3) := by decide +kernel
theorem dX8_paste_4 : decode cX8_paste 4 = .ok (.ifCond .eq 10, 3) := by decide +kernel
theorem dX8_paste_7 : decode cX8_paste 7 = .ok (.iload_n 3, 1) := by decide +kernel
theorem dX8_paste_8 : decode cX8_paste 8 = .ok (.invokestatic 382, 3) := by decide +kernel
theorem dX8_paste_11 : decode cX8_paste 11 = .ok (.ifCond .ne 6, 3) := by decide +kernel
theorem dX8_paste_14 : decode cX8_paste 14 = .ok (.bipush (-2), 2) := by decide +kernel
theorem dX8_paste_16 : decode cX8_paste 16 = .ok (.ireturn, 1) := by decide +kernel
theorem dX8_paste_17 : decode cX8_paste 17 = .ok (.aload_n 0, 1) := by decide +kernel
theorem dX8_paste_18 : decode cX8_paste 18 = .ok (.getfield 32, 3) := by decide +kernel
theorem dX8_paste_21 : decode cX8_paste 21 = .ok (.iload_n 1, 1) := by decide +kernel
theorem dX8_paste_22 : decode cX8_paste 22 = .ok (.aaload, 1) := by decide +kernel
theorem dX8_paste_23 : decode cX8_paste 23 = .ok (.astore 6, 2) := by decide +kernel
theorem dX8_paste_25 : decode cX8_paste 25 = .ok (.aload_n 0, 1) := by decide +kernel
theorem dX8_paste_26 : decode cX8_paste 26 = .ok (.getfield 32, 3) := by decide +kernel
theorem dX8_paste_29 : decode cX8_paste 29 = .ok (.iload_n 3, 1) := by decide +kernel
theorem dX8_paste_30 : decode cX8_paste 30 = .ok (.aaload, 1) := by decide +kernel
theorem dX8_paste_31 : decode cX8_paste 31 = .ok (.astore 7, 2) := by decide +kernel
theorem dX8_paste_33 : decode cX8_paste 33 = .ok (.aload 6, 2) := by decide +kernel
theorem dX8_paste_35 : decode cX8_paste 35 = .ok (.getfield 389, 3) := by decide +kernel
theorem dX8_paste_38 : decode cX8_paste 38 = .ok (.ifCond .eq 11, 3) := by decide +kernel
theorem dX8_paste_41 : decode cX8_paste 41 = .ok (.aload 7, 2) := by decide +kernel
theorem dX8_paste_43 : decode cX8_paste 43 = .ok (.getfield 389, 3) := by decide +kernel
theorem dX8_paste_46 : decode cX8_paste 46 = .ok (.ifCond .ne 6, 3) := by decide +kernel
theorem dX8_paste_49 : decode cX8_paste 49 = .ok (.bipush (-6), 2) := by decide +kernel
theorem dX8_paste_51 : decode cX8_paste 51 = .ok (.ireturn, 1) := by decide +kernel
theorem dX8_paste_52 : decode cX8_paste 52 = .ok (.aload 6, 2) := by decide +kernel
theorem dX8_paste_54 : decode cX8_paste 54 = .ok (.getfield 397, 3) := by decide +kernel
theorem dX8_paste_57 : decode cX8_paste 57 = .ok (.aload 7, 2) := by decide +kernel
theorem dX8_paste_59 : decode cX8_paste 59 = .ok (.getfield 397, 3) := by decide +kernel
theorem dX8_paste_62 : decode cX8_paste 62 = .ok (.if_icmp .eq 6, 3) := by decide +kernel
theorem dX8_paste_65 : decode cX8_paste 65 = .ok (.bipush (-8), 2) := by decide +kernel
theorem dX8_paste_67 : decode cX8_paste 67 = .ok (.ireturn, 1) := by decide +kernel
theorem dX8_paste_68 : decode cX8_paste 68 = .ok (.aload 6, 2) := by decide +kernel
theorem dX8_paste_70 : decode cX8_paste 70 = .ok (.iload_n 2, 1) := by decide +kernel
theorem dX8_paste_71 : decode cX8_paste 71 = .ok (.iload 5, 2) := by decide +kernel
theorem dX8_paste_73 : decode cX8_paste 73 = .ok (.invokevirtual 404, 3) := by decide +kernel
theorem dX8_paste_76 : decode cX8_paste 76 = .ok (.ifCond .eq 15, 3) := by decide +kernel
theorem dX8_paste_79 : decode cX8_paste 79 = .ok (.aload 7, 2) := by decide +kernel
theorem dX8_paste_81 : decode cX8_paste 81 = .ok (.iload 4, 2) := by decide +kernel
theorem dX8_paste_83 : decode cX8_paste 83 = .ok (.iload 5, 2) := by decide +kernel
theorem dX8_paste_85 : decode cX8_paste 85 = .ok (.invokevirtual 404, 3) := by decide +kernel
theorem dX8_paste_88 : decode cX8_paste 88 = .ok (.ifCond .ne 6, 3) := by decide +kernel
theorem dX8_paste_91 : decode cX8_paste 91 = .ok (.bipush (-7), 2) := by decide +kernel
theorem dX8_paste_93 : decode cX8_paste 93 = .ok (.ireturn, 1) := by decide +kernel
theorem dX8_paste_94 : decode cX8_paste 94 = .ok (.aload 6, 2) := by decide +kernel
theorem dX8_paste_96 : decode cX8_paste 96 = .ok (.getfield 393, 3) := by decide +kernel
theorem dX8_paste_99 : decode cX8_paste 99 = .ok (.iload_n 2, 1) := by decide +kernel
theorem dX8_paste_100 : decode cX8_paste 100 = .ok (.aload 7, 2) := by decide +kernel
theorem dX8_paste_102 : decode cX8_paste 102 = .ok (.getfield 393, 3) := by decide +kernel
theorem dX8_paste_105 : decode cX8_paste 105 = .ok (.iload 4, 2) := by decide +kernel
theorem dX8_paste_107 : decode cX8_paste 107 = .ok (.iload 5, 2) := by decide +kernel
theorem dX8_paste_109 : decode cX8_paste 109 = .ok (.invokestatic 408, 3) := by decide +kernel
theorem dX8_paste_112 : decode cX8_paste 112 = .ok (.iconst 0, 1) := by decide +kernel
theorem dX8_paste_113 : decode cX8_paste 113 = .ok (.ireturn, 1) := by decide +kernel
theorem dX8_peak_0 : decode cX8_peak 0 = .ok (.aload_n 0, 1) := by decide +kernel
theorem dX8_peak_1 : decode cX8_peak 1 = .ok (.invokevirtual 177, 3) := by decide +kernel
theorem dX8_peak_4 : decode cX8_peak 4 = .ok (.ifCond .eq 6, 3) := by decide +kernel
theorem dX8_peak_7 : decode cX8_peak 7 = .ok (.bipush (-2), 2) := by decide +kernel
theorem dX8_peak_9 : decode cX8_peak 9 = .ok (.ireturn, 1) := by decide +kernel
theorem dX8_peak_10 : decode cX8_peak 10 = .ok (.iconst 0, 1) := by decide +kernel
theorem dX8_peak_11 : decode cX8_peak 11 = .ok (.istore_n 1, 1) := by decide +kernel
theorem dX8_peak_12 : decode cX8_peak 12 = .ok (.iconst 1, 1) := by decide +kernel
theorem dX8_peak_13 : decode cX8_peak 13 = .ok (.istore_n 2, 1) := by decide +kernel
theorem dX8_peak_14 : decode cX8_peak 14 = .ok (.iload_n 2, 1) := by decide +kernel
theorem dX8_peak_15 : decode cX8_peak 15 = .ok (.aload_n 0, 1) := by decide +kernel
theorem dX8_peak_16 : decode cX8_peak 16 = .ok (.getfield 19, 3) := by decide +kernel
theorem dX8_peak_19 : decode cX8_peak 19 = .ok (.getfield 181, 3) := by decide +kernel
theorem dX8_peak_22 : decode cX8_peak 22 = .ok (.if_icmp .gt 30, 3) := by decide +kernel
theorem dX8_peak_25 : decode cX8_peak 25 = .ok (.aload_n 0, 1) := by decide +kernel
theorem dX8_peak_26 : decode cX8_peak 26 = .ok (.iload_n 2, 1) := by decide +kernel
theorem dX8_peak_27 : decode cX8_peak 27 = .ok (.invokevirtual 135, 3) := by decide +kernel
theorem dX8_peak_30 : decode cX8_peak 30 = .ok (.invokevirtual 155, 3) := by decide +kernel
theorem dX8_peak_33 : decode cX8_peak 33 = .ok (.aload_n 0, 1) := by decide +kernel
theorem dX8_peak_34 : decode cX8_peak 34 = .ok (.iload_n 1, 1) := by decide +kernel
theorem dX8_peak_35 : decode cX8_peak 35 = .ok (.invokevirtual 135, 3) := by decide +kernel
theorem dX8_peak_38 : decode cX8_peak 38 = .ok (.invokevirtual 155, 3) := by decide +kernel
theorem dX8_peak_41 : decode cX8_peak 41 = .ok (.if_icmp .le 5, 3) := by decide +kernel
theorem dX8_peak_44 : decode cX8_peak 44 = .ok (.iload_n 2, 1) := by decide +kernel
theorem dX8_peak_45 : decode cX8_peak 45 = .ok (.istore_n 1, 1) := by decide +kernel
theorem dX8_peak_46 : decode cX8_peak 46 = .ok (.iinc 2 1, 3) := by decide +kernel
theorem dX8_peak_49 : decode cX8_peak 49 = .ok (.goto (-35), 3) := by decide +kernel
theorem dX8_peak_52 : decode cX8_peak 52 = .ok (.iload_n 1, 1) := by decide +kernel
theorem dX8_peak_53 : decode cX8_peak 53 = .ok (.ireturn, 1) := by decide +kernel
theorem dX8_rate_0 : decode cX8_rate 0 = .ok (.aload_n 0, 1) := by decide +kernel
theorem dX8_rate_1 : decode cX8_rate 1 = .ok (.iload_n 1, 1) := by decide +kernel
theorem dX8_rate_2 : decode cX8_rate 2 = .ok (.invokevirtual 113, 3) := by decide +kernel
theorem dX8_rate_5 : decode cX8_rate 5 = .ok (.ifCond .eq 14, 3) := by decide +kernel
theorem dX8_rate_8 : decode cX8_rate 8 = .ok (.iload_n 2, 1) := by decide +kernel
theorem dX8_rate_9 : decode cX8_rate 9 = .ok (.iconst 1, 1) := by decide +kernel
theorem dX8_rate_10 : decode cX8_rate 10 = .ok (.if_icmp .lt 9, 3) := by decide +kernel
theorem dX8_rate_13 : decode cX8_rate 13 = .ok (.iload_n 2, 1) := by decide +kernel
theorem dX8_rate_14 : decode cX8_rate 14 = .ok (.bipush 20, 2) := by decide +kernel
theorem dX8_rate_16 : decode cX8_rate 16 = .ok (.if_icmp .le 6, 3) := by decide +kernel
theorem dX8_rate_19 : decode cX8_rate 19 = .ok (.bipush (-2), 2) := by decide +kernel
theorem dX8_rate_21 : decode cX8_rate 21 = .ok (.ireturn, 1) := by decide +kernel
theorem dX8_rate_22 : decode cX8_rate 22 = .ok (.aload_n 0, 1) := by decide +kernel
theorem dX8_rate_23 : decode cX8_rate 23 = .ok (.getfield 19, 3) := by decide +kernel
theorem dX8_rate_26 : decode cX8_rate 26 = .ok (.getfield 358, 3) := by decide +kernel
theorem dX8_rate_29 : decode cX8_rate 29 = .ok (.ifCond .le 6, 3) := by decide +kernel
theorem dX8_rate_32 : decode cX8_rate 32 = .ok (.bipush (-5), 2) := by decide +kernel
theorem dX8_rate_34 : decode cX8_rate 34 = .ok (.ireturn, 1) := by decide +kernel
theorem dX8_rate_35 : decode cX8_rate 35 = .ok (.aload_n 0, 1) := by decide +kernel
theorem dX8_rate_36 : decode cX8_rate 36 = .ok (.getfield 19, 3) := by decide +kernel
theorem dX8_rate_39 : decode cX8_rate 39 = .ok (.getfield 117, 3) := by decide +kernel
theorem dX8_rate_42 : decode cX8_rate 42 = .ok (.iload_n 1, 1) := by decide +kernel
theorem dX8_rate_43 : decode cX8_rate 43 = .ok (.iaload, 1) := by decide +kernel
theorem dX8_rate_44 : decode cX8_rate 44 = .ok (.istore_n 3, 1) := by decide +kernel
theorem dX8_rate_45 : decode cX8_rate 45 = .ok (.aload_n 0, 1) := by decide +kernel
theorem dX8_rate_46 : decode cX8_rate 46 = .ok (.getfield 19, 3) := by decide +kernel
theorem dX8_rate_49 : decode cX8_rate 49 = .ok (.getfield 117, 3) := by decide +kernel
theorem dX8_rate_52 : decode cX8_rate 52 = .ok (.iload_n 1, 1) := by decide +kernel
theorem dX8_rate_53 : decode cX8_rate 53 = .ok (.iload_n 2, 1) := by decide +kernel
theorem dX8_rate_54 : decode cX8_rate 54 = .ok (.iastore, 1) := by decide +kernel
theorem dX8_rate_55 : decode cX8_rate 55 = .ok (.aload_n 0, 1) := by decide +kernel
theorem dX8_rate_56 : decode cX8_rate 56 = .ok (.invokevirtual 101, 3) := by decide +kernel
theorem dX8_rate_59 : decode cX8_rate 59 = .ok (.iload_n 3, 1) := by decide +kernel
theorem dX8_rate_60 : decode cX8_rate 60 = .ok (.ireturn, 1) := by decide +kernel
theorem dX8_rests_0 : decode cX8_rests 0 = .ok (.aload_n 0, 1) := by decide +kernel
theorem dX8_rests_1 : decode cX8_rests 1 = .ok (.iload_n 1, 1) := by decide +kernel
theorem dX8_rests_2 : decode cX8_rests 2 = .ok (.invokevirtual 120, 3) := by decide +kernel
theorem dX8_rests_5 : decode cX8_rests 5 = .ok (.ifCond .eq 16, 3) := by decide +kernel
theorem dX8_rests_8 : decode cX8_rests 8 = .ok (.aload_n 0, 1) := by decide +kernel
theorem dX8_rests_9 : decode cX8_rests 9 = .ok (.iload_n 2, 1) := by decide +kernel
theorem dX8_rests_10 : decode cX8_rests 10 = .ok (.invokevirtual 120, 3) := by decide +kernel
theorem dX8_rests_13 : decode cX8_rests 13 = .ok (.ifCond .eq 8, 3) := by decide +kernel
theorem dX8_rests_16 : decode cX8_rests 16 = .ok (.iload_n 1, 1) := by decide +kernel
theorem dX8_rests_17 : decode cX8_rests 17 = .ok (.iload_n 2, 1) := by decide +kernel
theorem dX8_rests_18 : decode cX8_rests 18 = .ok (.if_icmp .ne 6, 3) := by decide +kernel
theorem dX8_rests_21 : decode cX8_rests 21 = .ok (.bipush (-2), 2) := by decide +kernel
theorem dX8_rests_23 : decode cX8_rests 23 = .ok (.ireturn, 1) := by decide +kernel
theorem dX8_rests_24 : decode cX8_rests 24 = .ok (.iconst 0, 1) := by decide +kernel
theorem dX8_rests_25 : decode cX8_rests 25 = .ok (.istore_n 3, 1) := by decide +kernel
theorem dX8_rests_26 : decode cX8_rests 26 = .ok (.iload_n 3, 1) := by decide +kernel
theorem dX8_rests_27 : decode cX8_rests 27 = .ok (.iconst 4, 1) := by decide +kernel
theorem dX8_rests_28 : decode cX8_rests 28 = .ok (.if_icmp .ge 53, 3) := by decide +kernel
theorem dX8_rests_31 : decode cX8_rests 31 = .ok (.aload_n 0, 1) := by decide +kernel
theorem dX8_rests_32 : decode cX8_rests 32 = .ok (.iload_n 1, 1) := by decide +kernel
theorem dX8_rests_33 : decode cX8_rests 33 = .ok (.iload_n 2, 1) := by decide +kernel
theorem dX8_rests_34 : decode cX8_rests 34 = .ok (.iload_n 3, 1) := by decide +kernel
theorem dX8_rests_35 : decode cX8_rests 35 = .ok (.iconst 1, 1) := by decide +kernel
theorem dX8_rests_36 : decode cX8_rests 36 = .ok (.iand, 1) := by decide +kernel
theorem dX8_rests_37 : decode cX8_rests 37 = .ok (.iload_n 3, 1) := by decide +kernel
theorem dX8_rests_38 : decode cX8_rests 38 = .ok (.iconst 1, 1) := by decide +kernel
theorem dX8_rests_39 : decode cX8_rests 39 = .ok (.ishr, 1) := by decide +kernel
theorem dX8_rests_40 : decode cX8_rests 40 = .ok (.invokevirtual 332, 3) := by decide +kernel
theorem dX8_rests_43 : decode cX8_rests 43 = .ok (.astore 4, 2) := by decide +kernel
theorem dX8_rests_45 : decode cX8_rests 45 = .ok (.aload_n 0, 1) := by decide +kernel
theorem dX8_rests_46 : decode cX8_rests 46 = .ok (.getfield 78, 3) := by decide +kernel
theorem dX8_rests_49 : decode cX8_rests 49 = .ok (.iload_n 3, 1) := by decide +kernel
theorem dX8_rests_50 : decode cX8_rests 50 = .ok (.aload 4, 2) := by decide +kernel
theorem dX8_rests_52 : decode cX8_rests 52 = .ok (.iload_n 3, 1) := by decide +kernel
theorem dX8_rests_53 : decode cX8_rests 53 = .ok (.iconst 1, 1) := by decide +kernel
theorem dX8_rests_54 : decode cX8_rests 54 = .ok (.iand, 1) := by decide +kernel
theorem dX8_rests_55 : decode cX8_rests 55 = .ok (.invokestatic 336, 3) := by decide +kernel
theorem dX8_rests_58 : decode cX8_rests 58 = .ok (.iastore, 1) := by decide +kernel
theorem dX8_rests_59 : decode cX8_rests 59 = .ok (.aload_n 0, 1) := by decide +kernel
theorem dX8_rests_60 : decode cX8_rests 60 = .ok (.getfield 78, 3) := by decide +kernel
theorem dX8_rests_63 : decode cX8_rests 63 = .ok (.iconst 4, 1) := by decide +kernel
theorem dX8_rests_64 : decode cX8_rests 64 = .ok (.iload_n 3, 1) := by decide +kernel
theorem dX8_rests_65 : decode cX8_rests 65 = .ok (.iadd, 1) := by decide +kernel
theorem dX8_rests_66 : decode cX8_rests 66 = .ok (.aload 4, 2) := by decide +kernel
theorem dX8_rests_68 : decode cX8_rests 68 = .ok (.iload_n 3, 1) := by decide +kernel
theorem dX8_rests_69 : decode cX8_rests 69 = .ok (.iconst 1, 1) := by decide +kernel
theorem dX8_rests_70 : decode cX8_rests 70 = .ok (.ishr, 1) := by decide +kernel
theorem dX8_rests_71 : decode cX8_rests 71 = .ok (.invokestatic 339, 3) := by decide +kernel
theorem dX8_rests_74 : decode cX8_rests 74 = .ok (.iastore, 1) := by decide +kernel
theorem dX8_rests_75 : decode cX8_rests 75 = .ok (.iinc 3 1, 3) := by decide +kernel
theorem dX8_rests_78 : decode cX8_rests 78 = .ok (.goto (-52), 3) := by decide +kernel
theorem dX8_rests_81 : decode cX8_rests 81 = .ok (.iconst 0, 1) := by decide +kernel
theorem dX8_rests_82 : decode cX8_rests 82 = .ok (.istore_n 3, 1) := by decide +kernel
theorem dX8_rests_83 : decode cX8_rests 83 = .ok (.iconst 0, 1) := by decide +kernel
theorem dX8_rests_84 : decode cX8_rests 84 = .ok (.istore 4, 2) := by decide +kernel
theorem dX8_rests_86 : decode cX8_rests 86 = .ok (.iload 4, 2) := by decide +kernel
theorem dX8_rests_88 : decode cX8_rests 88 = .ok (.iconst 4, 1) := by decide +kernel
theorem dX8_rests_89 : decode cX8_rests 89 = .ok (.if_icmp .ge 58, 3) := by decide +kernel
theorem dX8_rests_92 : decode cX8_rests 92 = .ok (.aload_n 0, 1) := by decide +kernel
theorem dX8_rests_93 : decode cX8_rests 93 = .ok (.getfield 78, 3) := by decide +kernel
theorem dX8_rests_96 : decode cX8_rests 96 = .ok (.iload 4, 2) := by decide +kernel
theorem dX8_rests_98 : decode cX8_rests 98 = .ok (.iaload, 1) := by decide +kernel
theorem dX8_rests_99 : decode cX8_rests 99 = .ok (.aload_n 0, 1) := by decide +kernel
theorem dX8_rests_100 : decode cX8_rests 100 = .ok (.getfield 78, 3) := by decide +kernel
theorem dX8_rests_103 : decode cX8_rests 103 = .ok (.iload 4, 2) := by decide +kernel
theorem dX8_rests_105 : decode cX8_rests 105 = .ok (.iconst 1, 1) := by decide +kernel
theorem dX8_rests_106 : decode cX8_rests 106 = .ok (.ixor, 1) := by decide +kernel
theorem dX8_rests_107 : decode cX8_rests 107 = .ok (.iaload, 1) := by decide +kernel
theorem dX8_rests_108 : decode cX8_rests 108 = .ok (.if_icmp .lt 33, 3) := by decide +kernel
theorem dX8_rests_111 : decode cX8_rests 111 = .ok (.aload_n 0, 1) := by decide +kernel
theorem dX8_rests_112 : decode cX8_rests 112 = .ok (.getfield 78, 3) := by decide +kernel
theorem dX8_rests_115 : decode cX8_rests 115 = .ok (.iconst 4, 1) := by decide +kernel
theorem dX8_rests_116 : decode cX8_rests 116 = .ok (.iload 4, 2) := by decide +kernel
theorem dX8_rests_118 : decode cX8_rests 118 = .ok (.iadd, 1) := by decide +kernel
theorem dX8_rests_119 : decode cX8_rests 119 = .ok (.iaload, 1) := by decide +kernel
theorem dX8_rests_120 : decode cX8_rests 120 = .ok (.aload_n 0, 1) := by decide +kernel
theorem dX8_rests_121 : decode cX8_rests 121 = .ok (.getfield 78, 3) := by decide +kernel
theorem dX8_rests_124 : decode cX8_rests 124 = .ok (.iconst 4, 1) := by decide +kernel
theorem dX8_rests_125 : decode cX8_rests 125 = .ok (.iload 4, 2) := by decide +kernel
theorem dX8_rests_127 : decode cX8_rests 127 = .ok (.iconst 2, 1) := by decide +kernel
theorem dX8_rests_128 : decode cX8_rests 128 = .ok (.ixor, 1) := by decide +kernel
theorem dX8_rests_129 : decode cX8_rests 129 = .ok (.iadd, 1) := by decide +kernel
theorem dX8_rests_130 : decode cX8_rests 130 = .ok (.iaload, 1) := by decide +kernel
theorem dX8_rests_131 : decode cX8_rests 131 = .ok (.if_icmp .lt 10, 3) := by decide +kernel
theorem dX8_rests_134 : decode cX8_rests 134 = .ok (.iload_n 3, 1) := by decide +kernel
theorem dX8_rests_135 : decode cX8_rests 135 = .ok (.iconst 1, 1) := by decide +kernel
theorem dX8_rests_136 : decode cX8_rests 136 = .ok (.iload 4, 2) := by decide +kernel
theorem dX8_rests_138 : decode cX8_rests 138 = .ok (.ishl, 1) := by decide +kernel
theorem dX8_rests_139 : decode cX8_rests 139 = .ok (.ior, 1) := by decide +kernel
theorem dX8_rests_140 : decode cX8_rests 140 = .ok (.istore_n 3, 1) := by decide +kernel
theorem dX8_rests_141 : decode cX8_rests 141 = .ok (.iinc 4 1, 3) := by decide +kernel
theorem dX8_rests_144 : decode cX8_rests 144 = .ok (.goto (-58), 3) := by decide +kernel
theorem dX8_rests_147 : decode cX8_rests 147 = .ok (.iload_n 3, 1) := by decide +kernel
theorem dX8_rests_148 : decode cX8_rests 148 = .ok (.ireturn, 1) := by decide +kernel
theorem dX8_ring_0 : decode cX8_ring 0 = .ok (.aload_n 0, 1) := by decide +kernel
theorem dX8_ring_1 : decode cX8_ring 1 = .ok (.iload_n 1, 1) := by decide +kernel
theorem dX8_ring_2 : decode cX8_ring 2 = .ok (.invokevirtual 132, 3) := by decide +kernel
theorem dX8_ring_5 : decode cX8_ring 5 = .ok (.ifCond .eq 14, 3) := by decide +kernel
theorem dX8_ring_8 : decode cX8_ring 8 = .ok (.aload_n 0, 1) := by decide +kernel
theorem dX8_ring_9 : decode cX8_ring 9 = .ok (.iload_n 1, 1) := by decide +kernel
theorem dX8_ring_10 : decode cX8_ring 10 = .ok (.invokevirtual 217, 3) := by decide +kernel
theorem dX8_ring_13 : decode cX8_ring 13 = .ok (.getfield 227, 3) := by decide +kernel
theorem dX8_ring_16 : decode cX8_ring 16 = .ok (.goto 5, 3) := by decide +kernel
theorem dX8_ring_19 : decode cX8_ring 19 = .ok (.bipush (-2), 2) := by decide +kernel
theorem dX8_ring_21 : decode cX8_ring 21 = .ok (.ireturn, 1) := by decide +kernel
theorem dX8_ringed_0 : decode cX8_ringed 0 = .ok (.aload_n 0, 1) := by decide +kernel
theorem dX8_ringed_1 : decode cX8_ringed 1 = .ok (.iload_n 1, 1) := by decide +kernel
theorem dX8_ringed_2 : decode cX8_ringed 2 = .ok (.invokevirtual 239, 3) := by decide +kernel
theorem dX8_ringed_5 : decode cX8_ringed 5 = .ok (.ifCond .eq 14, 3) := by decide +kernel
theorem dX8_ringed_8 : decode cX8_ringed 8 = .ok (.aload_n 0, 1) := by decide +kernel
theorem dX8_ringed_9 : decode cX8_ringed 9 = .ok (.iload_n 1, 1) := by decide +kernel
theorem dX8_ringed_10 : decode cX8_ringed 10 = .ok (.invokevirtual 242, 3) := by decide +kernel
theorem dX8_ringed_13 : decode cX8_ringed 13 = .ok (.getfield 247, 3) := by decide +kernel
theorem dX8_ringed_16 : decode cX8_ringed 16 = .ok (.goto 5, 3) := by decide +kernel
theorem dX8_ringed_19 : decode cX8_ringed 19 = .ok (.bipush (-2), 2) := by decide +kernel
theorem dX8_ringed_21 : decode cX8_ringed 21 = .ok (.ireturn, 1) := by decide +kernel
theorem dX8_rings_0 : decode cX8_rings 0 = .ok (.aload_n 0, 1) := by decide +kernel
theorem dX8_rings_1 : decode cX8_rings 1 = .ok (.iload_n 1, 1) := by decide +kernel
theorem dX8_rings_2 : decode cX8_rings 2 = .ok (.invokevirtual 239, 3) := by decide +kernel
theorem dX8_rings_5 : decode cX8_rings 5 = .ok (.ifCond .eq 14, 3) := by decide +kernel
theorem dX8_rings_8 : decode cX8_rings 8 = .ok (.aload_n 0, 1) := by decide +kernel
theorem dX8_rings_9 : decode cX8_rings 9 = .ok (.iload_n 1, 1) := by decide +kernel
theorem dX8_rings_10 : decode cX8_rings 10 = .ok (.invokevirtual 242, 3) := by decide +kernel
theorem dX8_rings_13 : decode cX8_rings 13 = .ok (.getfield 250, 3) := by decide +kernel
theorem dX8_rings_16 : decode cX8_rings 16 = .ok (.goto 5, 3) := by decide +kernel
theorem dX8_rings_19 : decode cX8_rings 19 = .ok (.bipush (-2), 2) := by decide +kernel
theorem dX8_rings_21 : decode cX8_rings 21 = .ok (.ireturn, 1) := by decide +kernel
theorem dX8_row_0 : decode cX8_row 0 = .ok (.iload_n 1, 1) := by decide +kernel
theorem dX8_row_1 : decode cX8_row 1 = .ok (.invokestatic 382, 3) := by decide +kernel
theorem dX8_row_4 : decode cX8_row 4 = .ok (.ifCond .eq 18, 3) := by decide +kernel
theorem dX8_row_7 : decode cX8_row 7 = .ok (.iload_n 2, 1) := by decide +kernel
theorem dX8_row_8 : decode cX8_row 8 = .ok (.ifCond .lt 14, 3) := by decide +kernel
theorem dX8_row_11 : decode cX8_row 11 = .ok (.iload_n 2, 1) := by decide +kernel
theorem dX8_row_12 : decode cX8_row 12 = .ok (.iconst 4, 1) := by decide +kernel
theorem dX8_row_13 : decode cX8_row 13 = .ok (.if_icmp .ge 9, 3) := by decide +kernel
theorem dX8_row_16 : decode cX8_row 16 = .ok (.iload_n 3, 1) := by decide +kernel
theorem dX8_row_17 : decode cX8_row 17 = .ok (.bipush 60, 2) := by decide +kernel
theorem dX8_row_19 : decode cX8_row 19 = .ok (.if_icmp .le 6, 3) := by decide +kernel
theorem dX8_row_22 : decode cX8_row 22 = .ok (.bipush (-2), 2) := by decide +kernel
theorem dX8_row_24 : decode cX8_row 24 = .ok (.ireturn, 1) := by decide +kernel
theorem dX8_row_25 : decode cX8_row 25 = .ok (.iload_n 3, 1) := by decide +kernel
theorem dX8_row_26 : decode cX8_row 26 = .ok (.ifCond .ge 6, 3) := by decide +kernel
theorem dX8_row_29 : decode cX8_row 29 = .ok (.bipush (-3), 2) := by decide +kernel
theorem dX8_row_31 : decode cX8_row 31 = .ok (.ireturn, 1) := by decide +kernel
theorem dX8_row_32 : decode cX8_row 32 = .ok (.aload_n 0, 1) := by decide +kernel
theorem dX8_row_33 : decode cX8_row 33 = .ok (.getfield 32, 3) := by decide +kernel
theorem dX8_row_36 : decode cX8_row 36 = .ok (.iload_n 1, 1) := by decide +kernel
theorem dX8_row_37 : decode cX8_row 37 = .ok (.aaload, 1) := by decide +kernel
theorem dX8_row_38 : decode cX8_row 38 = .ok (.iload_n 2, 1) := by decide +kernel
theorem dX8_row_39 : decode cX8_row 39 = .ok (.iload_n 3, 1) := by decide +kernel
theorem dX8_row_40 : decode cX8_row 40 = .ok (.invokevirtual 385, 3) := by decide +kernel
theorem dX8_row_43 : decode cX8_row 43 = .ok (.iconst 0, 1) := by decide +kernel
theorem dX8_row_44 : decode cX8_row 44 = .ok (.ireturn, 1) := by decide +kernel
theorem dX8_rows_0 : decode cX8_rows 0 = .ok (.aload_n 0, 1) := by decide +kernel
theorem dX8_rows_1 : decode cX8_rows 1 = .ok (.invokevirtual 177, 3) := by decide +kernel
theorem dX8_rows_4 : decode cX8_rows 4 = .ok (.ifCond .eq 6, 3) := by decide +kernel
theorem dX8_rows_7 : decode cX8_rows 7 = .ok (.bipush (-2), 2) := by decide +kernel
theorem dX8_rows_9 : decode cX8_rows 9 = .ok (.ireturn, 1) := by decide +kernel
theorem dX8_rows_10 : decode cX8_rows 10 = .ok (.iconst 0, 1) := by decide +kernel
theorem dX8_rows_11 : decode cX8_rows 11 = .ok (.istore_n 1, 1) := by decide +kernel
theorem dX8_rows_12 : decode cX8_rows 12 = .ok (.iconst 0, 1) := by decide +kernel
theorem dX8_rows_13 : decode cX8_rows 13 = .ok (.istore_n 2, 1) := by decide +kernel
theorem dX8_rows_14 : decode cX8_rows 14 = .ok (.iload_n 2, 1) := by decide +kernel
theorem dX8_rows_15 : decode cX8_rows 15 = .ok (.aload_n 0, 1) := by decide +kernel
theorem dX8_rows_16 : decode cX8_rows 16 = .ok (.getfield 19, 3) := by decide +kernel
theorem dX8_rows_19 : decode cX8_rows 19 = .ok (.getfield 181, 3) := by decide +kernel
theorem dX8_rows_22 : decode cX8_rows 22 = .ok (.if_icmp .gt 21, 3) := by decide +kernel
theorem dX8_rows_25 : decode cX8_rows 25 = .ok (.aload_n 0, 1) := by decide +kernel
theorem dX8_rows_26 : decode cX8_rows 26 = .ok (.iload_n 2, 1) := by decide +kernel
theorem dX8_rows_27 : decode cX8_rows 27 = .ok (.invokevirtual 190, 3) := by decide +kernel
theorem dX8_rows_30 : decode cX8_rows 30 = .ok (.iload_n 2, 1) := by decide +kernel
theorem dX8_rows_31 : decode cX8_rows 31 = .ok (.if_icmp .ne 6, 3) := by decide +kernel
theorem dX8_rows_34 : decode cX8_rows 34 = .ok (.iinc 1 1, 3) := by decide +kernel
theorem dX8_rows_37 : decode cX8_rows 37 = .ok (.iinc 2 1, 3) := by decide +kernel
theorem dX8_rows_40 : decode cX8_rows 40 = .ok (.goto (-26), 3) := by decide +kernel
theorem dX8_rows_43 : decode cX8_rows 43 = .ok (.iload_n 1, 1) := by decide +kernel
theorem dX8_rows_44 : decode cX8_rows 44 = .ok (.ireturn, 1) := by decide +kernel
theorem dX8_rowsOf_0 : decode cX8_rowsOf 0 = .ok (.aload_n 0, 1) := by decide +kernel
theorem dX8_rowsOf_1 : decode cX8_rowsOf 1 = .ok (.iload_n 1, 1) := by decide +kernel
theorem dX8_rowsOf_2 : decode cX8_rowsOf 2 = .ok (.invokevirtual 239, 3) := by decide +kernel
theorem dX8_rowsOf_5 : decode cX8_rowsOf 5 = .ok (.ifCond .eq 14, 3) := by decide +kernel
theorem dX8_rowsOf_8 : decode cX8_rowsOf 8 = .ok (.aload_n 0, 1) := by decide +kernel
theorem dX8_rowsOf_9 : decode cX8_rowsOf 9 = .ok (.iload_n 1, 1) := by decide +kernel
theorem dX8_rowsOf_10 : decode cX8_rowsOf 10 = .ok (.invokevirtual 242, 3) := by decide +kernel
theorem dX8_rowsOf_13 : decode cX8_rowsOf 13 = .ok (.getfield 246, 3) := by decide +kernel
theorem dX8_rowsOf_16 : decode cX8_rowsOf 16 = .ok (.goto 5, 3) := by decide +kernel
theorem dX8_rowsOf_19 : decode cX8_rowsOf 19 = .ok (.bipush (-2), 2) := by decide +kernel
theorem dX8_rowsOf_21 : decode cX8_rowsOf 21 = .ok (.ireturn, 1) := by decide +kernel
theorem dX8_same_0 : decode cX8_same 0 = .ok (.aload_n 0, 1) := by decide +kernel
theorem dX8_same_1 : decode cX8_same 1 = .ok (.iload_n 1, 1) := by decide +kernel
theorem dX8_same_2 : decode cX8_same 2 = .ok (.invokevirtual 132, 3) := by decide +kernel
theorem dX8_same_5 : decode cX8_same 5 = .ok (.ifCond .eq 11, 3) := by decide +kernel
theorem dX8_same_8 : decode cX8_same 8 = .ok (.aload_n 0, 1) := by decide +kernel
theorem dX8_same_9 : decode cX8_same 9 = .ok (.iload_n 1, 1) := by decide +kernel
theorem dX8_same_10 : decode cX8_same 10 = .ok (.invokevirtual 190, 3) := by decide +kernel
theorem dX8_same_13 : decode cX8_same 13 = .ok (.goto 5, 3) := by decide +kernel
theorem dX8_same_16 : decode cX8_same 16 = .ok (.bipush (-2), 2) := by decide +kernel
theorem dX8_same_18 : decode cX8_same 18 = .ok (.ireturn, 1) := by decide +kernel
theorem dX8_seenFault_0 : decode cX8_seenFault 0 = .ok (.iload_n 1, 1) := by decide +kernel
theorem dX8_seenFault_1 : decode cX8_seenFault 1 = .ok (.invokestatic 382, 3) := by decide +kernel
theorem dX8_seenFault_4 : decode cX8_seenFault 4 = .ok (.ifCond .eq 7, 3) := by decide +kernel
theorem dX8_seenFault_7 : decode cX8_seenFault 7 = .ok (.iload_n 2, 1) := by decide +kernel
theorem dX8_seenFault_8 : decode cX8_seenFault 8 = .ok (.ifCond .ne 6, 3) := by decide +kernel
theorem dX8_seenFault_11 : decode cX8_seenFault 11 = .ok (.bipush (-2), 2) := by decide +kernel
theorem dX8_seenFault_13 : decode cX8_seenFault 13 = .ok (.ireturn, 1) := by decide +kernel
theorem dX8_seenFault_14 : decode cX8_seenFault 14 = .ok (.aload_n 0, 1) := by decide +kernel
theorem dX8_seenFault_15 : decode cX8_seenFault 15 = .ok (.getfield 32, 3) := by decide +kernel
theorem dX8_seenFault_18 : decode cX8_seenFault 18 = .ok (.iload_n 1, 1) := by decide +kernel
theorem dX8_seenFault_19 : decode cX8_seenFault 19 = .ok (.aaload, 1) := by decide +kernel
theorem dX8_seenFault_20 : decode cX8_seenFault 20 = .ok (.getfield 389, 3) := by decide +kernel
theorem dX8_seenFault_23 : decode cX8_seenFault 23 = .ok (.ifCond .ne 6, 3) := by decide +kernel
theorem dX8_seenFault_26 : decode cX8_seenFault 26 = .ok (.bipush (-6), 2) := by decide +kernel
theorem dX8_seenFault_28 : decode cX8_seenFault 28 = .ok (.ireturn, 1) := by decide +kernel
theorem dX8_seenFault_29 : decode cX8_seenFault 29 = .ok (.aload_n 0, 1) := by decide +kernel
theorem dX8_seenFault_30 : decode cX8_seenFault 30 = .ok (.getfield 32, 3) := by decide +kernel
theorem dX8_seenFault_33 : decode cX8_seenFault 33 = .ok (.iload_n 1, 1) := by decide +kernel
theorem dX8_seenFault_34 : decode cX8_seenFault 34 = .ok (.aaload, 1) := by decide +kernel
theorem dX8_seenFault_35 : decode cX8_seenFault 35 = .ok (.aload_n 0, 1) := by decide +kernel
theorem dX8_seenFault_36 : decode cX8_seenFault 36 = .ok (.getfield 19, 3) := by decide +kernel
theorem dX8_seenFault_39 : decode cX8_seenFault 39 = .ok (.getfield 181, 3) := by decide +kernel
theorem dX8_seenFault_42 : decode cX8_seenFault 42 = .ok (.invokevirtual 504, 3) := by decide +kernel
theorem dX8_seenFault_45 : decode cX8_seenFault 45 = .ok (.ifCond .eq 7, 3) := by decide +kernel
theorem dX8_seenFault_48 : decode cX8_seenFault 48 = .ok (.iconst 0, 1) := by decide +kernel
theorem dX8_seenFault_49 : decode cX8_seenFault 49 = .ok (.goto 5, 3) := by decide +kernel
theorem dX8_seenFault_52 : decode cX8_seenFault 52 = .ok (.bipush (-2), 2) := by decide +kernel
theorem dX8_seenFault_54 : decode cX8_seenFault 54 = .ok (.ireturn, 1) := by decide +kernel
theorem dX8_share_0 : decode cX8_share 0 = .ok (.aload_n 0, 1) := by decide +kernel
theorem dX8_share_1 : decode cX8_share 1 = .ok (.iload_n 1, 1) := by decide +kernel
theorem dX8_share_2 : decode cX8_share 2 = .ok (.invokevirtual 120, 3) := by decide +kernel
theorem dX8_share_5 : decode cX8_share 5 = .ok (.ifCond .eq 10, 3) := by decide +kernel
theorem dX8_share_8 : decode cX8_share 8 = .ok (.iload_n 2, 1) := by decide +kernel
theorem dX8_share_9 : decode cX8_share 9 = .ok (.invokestatic 123, 3) := by decide +kernel
theorem dX8_share_12 : decode cX8_share 12 = .ok (.ifCond .ne 7, 3) := by decide +kernel
theorem dX8_share_15 : decode cX8_share 15 = .ok (.sipush (-1000), 3) := by decide +kernel
theorem dX8_share_18 : decode cX8_share 18 = .ok (.ireturn, 1) := by decide +kernel
theorem dX8_share_19 : decode cX8_share 19 = .ok (.aload_n 0, 1) := by decide +kernel
theorem dX8_share_20 : decode cX8_share 20 = .ok (.invokevirtual 310, 3) := by decide +kernel
theorem dX8_share_23 : decode cX8_share 23 = .ok (.aload_n 0, 1) := by decide +kernel
theorem dX8_share_24 : decode cX8_share 24 = .ok (.iload_n 1, 1) := by decide +kernel
theorem dX8_share_25 : decode cX8_share 25 = .ok (.invokevirtual 313, 3) := by decide +kernel
theorem dX8_share_28 : decode cX8_share 28 = .ok (.i2l, 1) := by decide +kernel
theorem dX8_share_29 : decode cX8_share 29 = .ok (.aload_n 0, 1) := by decide +kernel
theorem dX8_share_30 : decode cX8_share 30 = .ok (.getfield 19, 3) := by decide +kernel
theorem dX8_share_33 : decode cX8_share 33 = .ok (.getfield 278, 3) := by decide +kernel
theorem dX8_share_36 : decode cX8_share 36 = .ok (.invokestatic 316, 3) := by decide +kernel
theorem dX8_share_39 : decode cX8_share 39 = .ok (.i2l, 1) := by decide +kernel
theorem dX8_share_40 : decode cX8_share 40 = .ok (.iload_n 2, 1) := by decide +kernel
theorem dX8_share_41 : decode cX8_share 41 = .ok (.invokestatic 319, 3) := by decide +kernel
theorem dX8_share_44 : decode cX8_share 44 = .ok (.l2i, 1) := by decide +kernel
theorem dX8_share_45 : decode cX8_share 45 = .ok (.ireturn, 1) := by decide +kernel
theorem dX8_slotsWithRow_0 : decode cX8_slotsWithRow 0 = .ok (.iconst 0, 1) := by decide +kernel
theorem dX8_slotsWithRow_1 : decode cX8_slotsWithRow 1 = .ok (.istore_n 1, 1) := by decide +kernel
theorem dX8_slotsWithRow_2 : decode cX8_slotsWithRow 2 = .ok (.iconst 0, 1) := by decide +kernel
theorem dX8_slotsWithRow_3 : decode cX8_slotsWithRow 3 = .ok (.istore_n 2, 1) := by decide +kernel
theorem dX8_slotsWithRow_4 : decode cX8_slotsWithRow 4 = .ok (.iload_n 2, 1) := by decide +kernel
theorem dX8_slotsWithRow_5 : decode cX8_slotsWithRow 5 = .ok (.iconst 4, 1) := by decide +kernel
theorem dX8_slotsWithRow_6 : decode cX8_slotsWithRow 6 = .ok (.if_icmp .ge 24, 3) := by decide +kernel
theorem dX8_slotsWithRow_9 : decode cX8_slotsWithRow 9 = .ok (.iload_n 1, 1) := by decide +kernel
theorem dX8_slotsWithRow_10 : decode cX8_slotsWithRow 10 = .ok (.aload_n 0, 1) := by decide +kernel
theorem dX8_slotsWithRow_11 : decode cX8_slotsWithRow 11 = .ok (.getfield 32, 3) := by decide +kernel
theorem dX8_slotsWithRow_14 : decode cX8_slotsWithRow 14 = .ok (.iload_n 2, 1) := by decide +kernel
theorem dX8_slotsWithRow_15 : decode cX8_slotsWithRow 15 = .ok (.aaload, 1) := by decide +kernel
theorem dX8_slotsWithRow_16 : decode cX8_slotsWithRow 16 = .ok (.getfield 389, 3) := by decide +kernel
theorem dX8_slotsWithRow_19 : decode cX8_slotsWithRow 19 = .ok (.invokestatic 200, 3) := by decide +kernel
theorem dX8_slotsWithRow_22 : decode cX8_slotsWithRow 22 = .ok (.iadd, 1) := by decide +kernel
theorem dX8_slotsWithRow_23 : decode cX8_slotsWithRow 23 = .ok (.istore_n 1, 1) := by decide +kernel
theorem dX8_slotsWithRow_24 : decode cX8_slotsWithRow 24 = .ok (.iinc 2 1, 3) := by decide +kernel
theorem dX8_slotsWithRow_27 : decode cX8_slotsWithRow 27 = .ok (.goto (-23), 3) := by decide +kernel
theorem dX8_slotsWithRow_30 : decode cX8_slotsWithRow 30 = .ok (.iload_n 1, 1) := by decide +kernel
theorem dX8_slotsWithRow_31 : decode cX8_slotsWithRow 31 = .ok (.ireturn, 1) := by decide +kernel
theorem dX8_smallRowFault_0 : decode cX8_smallRowFault 0 = .ok (.iload_n 1, 1) := by decide +kernel
theorem dX8_smallRowFault_1 : decode cX8_smallRowFault 1 = .ok (.invokestatic 382, 3) := by decide +kernel
theorem dX8_smallRowFault_4 : decode cX8_smallRowFault 4 = .ok (.ifCond .eq 10, 3) := by decide +kernel
theorem dX8_smallRowFault_7 : decode cX8_smallRowFault 7 = .ok (.aload_n 0, 1) := by decide +kernel
theorem dX8_smallRowFault_8 : decode cX8_smallRowFault 8 = .ok (.invokevirtual 177, 3) := by decide +kernel
theorem dX8_smallRowFault_11 : decode cX8_smallRowFault 11 = .ok (.ifCond .eq 6, 3) := by decide +kernel
theorem dX8_smallRowFault_14 : decode cX8_smallRowFault 14 = .ok (.bipush (-2), 2) := by decide +kernel
theorem dX8_smallRowFault_16 : decode cX8_smallRowFault 16 = .ok (.ireturn, 1) := by decide +kernel
theorem dX8_smallRowFault_17 : decode cX8_smallRowFault 17 = .ok (.aload_n 0, 1) := by decide +kernel
theorem dX8_smallRowFault_18 : decode cX8_smallRowFault 18 = .ok (.getfield 32, 3) := by decide +kernel
theorem dX8_smallRowFault_21 : decode cX8_smallRowFault 21 = .ok (.iload_n 1, 1) := by decide +kernel
theorem dX8_smallRowFault_22 : decode cX8_smallRowFault 22 = .ok (.aaload, 1) := by decide +kernel
theorem dX8_smallRowFault_23 : decode cX8_smallRowFault 23 = .ok (.getfield 389, 3) := by decide +kernel
theorem dX8_smallRowFault_26 : decode cX8_smallRowFault 26 = .ok (.ifCond .ne 6, 3) := by decide +kernel
theorem dX8_smallRowFault_29 : decode cX8_smallRowFault 29 = .ok (.bipush (-6), 2) := by decide +kernel
theorem dX8_smallRowFault_31 : decode cX8_smallRowFault 31 = .ok (.ireturn, 1) := by decide +kernel
theorem dX8_smallRowFault_32 : decode cX8_smallRowFault 32 = .ok (.aload_n 0, 1) := by decide +kernel
theorem dX8_smallRowFault_33 : decode cX8_smallRowFault 33 = .ok (.getfield 32, 3) := by decide +kernel
theorem dX8_smallRowFault_36 : decode cX8_smallRowFault 36 = .ok (.iload_n 1, 1) := by decide +kernel
theorem dX8_smallRowFault_37 : decode cX8_smallRowFault 37 = .ok (.aaload, 1) := by decide +kernel
theorem dX8_smallRowFault_38 : decode cX8_smallRowFault 38 = .ok (.aload_n 0, 1) := by decide +kernel
theorem dX8_smallRowFault_39 : decode cX8_smallRowFault 39 = .ok (.getfield 70, 3) := by decide +kernel
theorem dX8_smallRowFault_42 : decode cX8_smallRowFault 42 = .ok (.invokevirtual 501, 3) := by decide +kernel
theorem dX8_smallRowFault_45 : decode cX8_smallRowFault 45 = .ok (.ifCond .eq 7, 3) := by decide +kernel
theorem dX8_smallRowFault_48 : decode cX8_smallRowFault 48 = .ok (.iconst 0, 1) := by decide +kernel
theorem dX8_smallRowFault_49 : decode cX8_smallRowFault 49 = .ok (.goto 5, 3) := by decide +kernel
theorem dX8_smallRowFault_52 : decode cX8_smallRowFault 52 = .ok (.bipush (-2), 2) := by decide +kernel
theorem dX8_smallRowFault_54 : decode cX8_smallRowFault 54 = .ok (.ireturn, 1) := by decide +kernel
theorem dX8_soon_0 : decode cX8_soon 0 = .ok (.aload_n 0, 1) := by decide +kernel
theorem dX8_soon_1 : decode cX8_soon 1 = .ok (.iload_n 1, 1) := by decide +kernel
theorem dX8_soon_2 : decode cX8_soon 2 = .ok (.invokevirtual 132, 3) := by decide +kernel
theorem dX8_soon_5 : decode cX8_soon 5 = .ok (.ifCond .eq 14, 3) := by decide +kernel
theorem dX8_soon_8 : decode cX8_soon 8 = .ok (.aload_n 0, 1) := by decide +kernel
theorem dX8_soon_9 : decode cX8_soon 9 = .ok (.iload_n 1, 1) := by decide +kernel
theorem dX8_soon_10 : decode cX8_soon 10 = .ok (.invokevirtual 217, 3) := by decide +kernel
theorem dX8_soon_13 : decode cX8_soon 13 = .ok (.getfield 236, 3) := by decide +kernel
theorem dX8_soon_16 : decode cX8_soon 16 = .ok (.goto 5, 3) := by decide +kernel
theorem dX8_soon_19 : decode cX8_soon 19 = .ok (.bipush (-2), 2) := by decide +kernel
theorem dX8_soon_21 : decode cX8_soon 21 = .ok (.ireturn, 1) := by decide +kernel
theorem dX8_sorts_0 : decode cX8_sorts 0 = .ok (.aload_n 0, 1) := by decide +kernel
theorem dX8_sorts_1 : decode cX8_sorts 1 = .ok (.iload_n 1, 1) := by decide +kernel
theorem dX8_sorts_2 : decode cX8_sorts 2 = .ok (.invokevirtual 132, 3) := by decide +kernel
theorem dX8_sorts_5 : decode cX8_sorts 5 = .ok (.ifCond .eq 14, 3) := by decide +kernel
theorem dX8_sorts_8 : decode cX8_sorts 8 = .ok (.aload_n 0, 1) := by decide +kernel
theorem dX8_sorts_9 : decode cX8_sorts 9 = .ok (.iload_n 1, 1) := by decide +kernel
theorem dX8_sorts_10 : decode cX8_sorts 10 = .ok (.invokevirtual 135, 3) := by decide +kernel
theorem dX8_sorts_13 : decode cX8_sorts 13 = .ok (.getfield 152, 3) := by decide +kernel
theorem dX8_sorts_16 : decode cX8_sorts 16 = .ok (.goto 5, 3) := by decide +kernel
theorem dX8_sorts_19 : decode cX8_sorts 19 = .ok (.bipush (-2), 2) := by decide +kernel
theorem dX8_sorts_21 : decode cX8_sorts 21 = .ok (.ireturn, 1) := by decide +kernel
theorem dX8_spare_0 : decode cX8_spare 0 = .ok (.aload_n 0, 1) := by decide +kernel
theorem dX8_spare_1 : decode cX8_spare 1 = .ok (.invokevirtual 177, 3) := by decide +kernel
theorem dX8_spare_4 : decode cX8_spare 4 = .ok (.ifCond .eq 6, 3) := by decide +kernel
theorem dX8_spare_7 : decode cX8_spare 7 = .ok (.bipush (-2), 2) := by decide +kernel
theorem dX8_spare_9 : decode cX8_spare 9 = .ok (.ireturn, 1) := by decide +kernel
theorem dX8_spare_10 : decode cX8_spare 10 = .ok (.iconst (-1), 1) := by decide +kernel
theorem dX8_spare_11 : decode cX8_spare 11 = .ok (.istore_n 1, 1) := by decide +kernel
theorem dX8_spare_12 : decode cX8_spare 12 = .ok (.aload_n 0, 1) := by decide +kernel
theorem dX8_spare_13 : decode cX8_spare 13 = .ok (.invokevirtual 272, 3) := by decide +kernel
theorem dX8_spare_16 : decode cX8_spare 16 = .ok (.istore_n 2, 1) := by decide +kernel
theorem dX8_spare_17 : decode cX8_spare 17 = .ok (.iconst 0, 1) := by decide +kernel
theorem dX8_spare_18 : decode cX8_spare 18 = .ok (.istore_n 3, 1) := by decide +kernel
theorem dX8_spare_19 : decode cX8_spare 19 = .ok (.iload_n 3, 1) := by decide +kernel
theorem dX8_spare_20 : decode cX8_spare 20 = .ok (.aload_n 0, 1) := by decide +kernel
theorem dX8_spare_21 : decode cX8_spare 21 = .ok (.getfield 19, 3) := by decide +kernel
theorem dX8_spare_24 : decode cX8_spare 24 = .ok (.getfield 278, 3) := by decide +kernel
theorem dX8_spare_27 : decode cX8_spare 27 = .ok (.if_icmp .ge 34, 3) := by decide +kernel
theorem dX8_spare_30 : decode cX8_spare 30 = .ok (.aload_n 0, 1) := by decide +kernel
theorem dX8_spare_31 : decode cX8_spare 31 = .ok (.bipush 63, 2) := by decide +kernel
theorem dX8_spare_33 : decode cX8_spare 33 = .ok (.iconst 1, 1) := by decide +kernel
theorem dX8_spare_34 : decode cX8_spare 34 = .ok (.iload_n 3, 1) := by decide +kernel
theorem dX8_spare_35 : decode cX8_spare 35 = .ok (.ishl, 1) := by decide +kernel
theorem dX8_spare_36 : decode cX8_spare 36 = .ok (.iconst (-1), 1) := by decide +kernel
theorem dX8_spare_37 : decode cX8_spare 37 = .ok (.ixor, 1) := by decide +kernel
theorem dX8_spare_38 : decode cX8_spare 38 = .ok (.iand, 1) := by decide +kernel
theorem dX8_spare_39 : decode cX8_spare 39 = .ok (.invokevirtual 281, 3) := by decide +kernel
theorem dX8_spare_42 : decode cX8_spare 42 = .ok (.istore 4, 2) := by decide +kernel
theorem dX8_spare_44 : decode cX8_spare 44 = .ok (.iload 4, 2) := by decide +kernel
theorem dX8_spare_46 : decode cX8_spare 46 = .ok (.iload_n 2, 1) := by decide +kernel
theorem dX8_spare_47 : decode cX8_spare 47 = .ok (.if_icmp .le 8, 3) := by decide +kernel
theorem dX8_spare_50 : decode cX8_spare 50 = .ok (.iload_n 3, 1) := by decide +kernel
theorem dX8_spare_51 : decode cX8_spare 51 = .ok (.istore_n 1, 1) := by decide +kernel
theorem dX8_spare_52 : decode cX8_spare 52 = .ok (.iload 4, 2) := by decide +kernel
theorem dX8_spare_54 : decode cX8_spare 54 = .ok (.istore_n 2, 1) := by decide +kernel
theorem dX8_spare_55 : decode cX8_spare 55 = .ok (.iinc 3 1, 3) := by decide +kernel
theorem dX8_spare_58 : decode cX8_spare 58 = .ok (.goto (-39), 3) := by decide +kernel
theorem dX8_spare_61 : decode cX8_spare 61 = .ok (.iload_n 1, 1) := by decide +kernel
theorem dX8_spare_62 : decode cX8_spare 62 = .ok (.ireturn, 1) := by decide +kernel
theorem dX8_spread_0 : decode cX8_spread 0 = .ok (.aload_n 0, 1) := by decide +kernel
theorem dX8_spread_1 : decode cX8_spread 1 = .ok (.iload_n 1, 1) := by decide +kernel
theorem dX8_spread_2 : decode cX8_spread 2 = .ok (.invokevirtual 132, 3) := by decide +kernel
theorem dX8_spread_5 : decode cX8_spread 5 = .ok (.ifCond .eq 23, 3) := by decide +kernel
theorem dX8_spread_8 : decode cX8_spread 8 = .ok (.aload_n 0, 1) := by decide +kernel
theorem dX8_spread_9 : decode cX8_spread 9 = .ok (.iload_n 1, 1) := by decide +kernel
theorem dX8_spread_10 : decode cX8_spread 10 = .ok (.invokevirtual 135, 3) := by decide +kernel
theorem dX8_spread_13 : decode cX8_spread 13 = .ok (.invokevirtual 155, 3) := by decide +kernel
theorem dX8_spread_16 : decode cX8_spread 16 = .ok (.aload_n 0, 1) := by decide +kernel
theorem dX8_spread_17 : decode cX8_spread 17 = .ok (.iload_n 1, 1) := by decide +kernel
theorem dX8_spread_18 : decode cX8_spread 18 = .ok (.invokevirtual 135, 3) := by decide +kernel
theorem dX8_spread_21 : decode cX8_spread 21 = .ok (.invokevirtual 159, 3) := by decide +kernel
theorem dX8_spread_24 : decode cX8_spread 24 = .ok (.isub, 1) := by decide +kernel
theorem dX8_spread_25 : decode cX8_spread 25 = .ok (.goto 5, 3) := by decide +kernel
theorem dX8_spread_28 : decode cX8_spread 28 = .ok (.bipush (-2), 2) := by decide +kernel
theorem dX8_spread_30 : decode cX8_spread 30 = .ok (.ireturn, 1) := by decide +kernel
theorem dX8_square_0 : decode cX8_square 0 = .ok (.aload_n 0, 1) := by decide +kernel
theorem dX8_square_1 : decode cX8_square 1 = .ok (.iload_n 1, 1) := by decide +kernel
theorem dX8_square_2 : decode cX8_square 2 = .ok (.invokevirtual 132, 3) := by decide +kernel
theorem dX8_square_5 : decode cX8_square 5 = .ok (.ifCond .eq 14, 3) := by decide +kernel
theorem dX8_square_8 : decode cX8_square 8 = .ok (.aload_n 0, 1) := by decide +kernel
theorem dX8_square_9 : decode cX8_square 9 = .ok (.iload_n 1, 1) := by decide +kernel
theorem dX8_square_10 : decode cX8_square 10 = .ok (.invokevirtual 135, 3) := by decide +kernel
theorem dX8_square_13 : decode cX8_square 13 = .ok (.invokevirtual 204, 3) := by decide +kernel
theorem dX8_square_16 : decode cX8_square 16 = .ok (.goto 5, 3) := by decide +kernel
theorem dX8_square_19 : decode cX8_square 19 = .ok (.bipush (-2), 2) := by decide +kernel
theorem dX8_square_21 : decode cX8_square 21 = .ok (.ireturn, 1) := by decide +kernel
theorem dX8_stair_0 : decode cX8_stair 0 = .ok (.aload_n 0, 1) := by decide +kernel
theorem dX8_stair_1 : decode cX8_stair 1 = .ok (.iload_n 1, 1) := by decide +kernel
theorem dX8_stair_2 : decode cX8_stair 2 = .ok (.invokevirtual 132, 3) := by decide +kernel
theorem dX8_stair_5 : decode cX8_stair 5 = .ok (.ifCond .eq 17, 3) := by decide +kernel
theorem dX8_stair_8 : decode cX8_stair 8 = .ok (.aload_n 0, 1) := by decide +kernel
theorem dX8_stair_9 : decode cX8_stair 9 = .ok (.iload_n 1, 1) := by decide +kernel
theorem dX8_stair_10 : decode cX8_stair 10 = .ok (.invokevirtual 135, 3) := by decide +kernel
theorem dX8_stair_13 : decode cX8_stair 13 = .ok (.invokevirtual 197, 3) := by decide +kernel
theorem dX8_stair_16 : decode cX8_stair 16 = .ok (.invokestatic 200, 3) := by decide +kernel
theorem dX8_stair_19 : decode cX8_stair 19 = .ok (.goto 5, 3) := by decide +kernel
theorem dX8_stair_22 : decode cX8_stair 22 = .ok (.bipush (-2), 2) := by decide +kernel
theorem dX8_stair_24 : decode cX8_stair 24 = .ok (.ireturn, 1) := by decide +kernel
theorem dX8_stairs_0 : decode cX8_stairs 0 = .ok (.aload_n 0, 1) := by decide +kernel
theorem dX8_stairs_1 : decode cX8_stairs 1 = .ok (.invokevirtual 177, 3) := by decide +kernel
theorem dX8_stairs_4 : decode cX8_stairs 4 = .ok (.ifCond .eq 6, 3) := by decide +kernel
theorem dX8_stairs_7 : decode cX8_stairs 7 = .ok (.bipush (-2), 2) := by decide +kernel
theorem dX8_stairs_9 : decode cX8_stairs 9 = .ok (.ireturn, 1) := by decide +kernel
theorem dX8_stairs_10 : decode cX8_stairs 10 = .ok (.iconst 0, 1) := by decide +kernel
theorem dX8_stairs_11 : decode cX8_stairs 11 = .ok (.istore_n 1, 1) := by decide +kernel
theorem dX8_stairs_12 : decode cX8_stairs 12 = .ok (.iload_n 1, 1) := by decide +kernel
theorem dX8_stairs_13 : decode cX8_stairs 13 = .ok (.aload_n 0, 1) := by decide +kernel
theorem dX8_stairs_14 : decode cX8_stairs 14 = .ok (.getfield 19, 3) := by decide +kernel
theorem dX8_stairs_17 : decode cX8_stairs 17 = .ok (.getfield 181, 3) := by decide +kernel
theorem dX8_stairs_20 : decode cX8_stairs 20 = .ok (.if_icmp .gt 22, 3) := by decide +kernel
theorem dX8_stairs_23 : decode cX8_stairs 23 = .ok (.aload_n 0, 1) := by decide +kernel
theorem dX8_stairs_24 : decode cX8_stairs 24 = .ok (.iload_n 1, 1) := by decide +kernel
theorem dX8_stairs_25 : decode cX8_stairs 25 = .ok (.invokevirtual 135, 3) := by decide +kernel
theorem dX8_stairs_28 : decode cX8_stairs 28 = .ok (.invokevirtual 197, 3) := by decide +kernel
theorem dX8_stairs_31 : decode cX8_stairs 31 = .ok (.ifCond .eq 5, 3) := by decide +kernel
theorem dX8_stairs_34 : decode cX8_stairs 34 = .ok (.iload_n 1, 1) := by decide +kernel
theorem dX8_stairs_35 : decode cX8_stairs 35 = .ok (.ireturn, 1) := by decide +kernel
theorem dX8_stairs_36 : decode cX8_stairs 36 = .ok (.iinc 1 1, 3) := by decide +kernel
theorem dX8_stairs_39 : decode cX8_stairs 39 = .ok (.goto (-27), 3) := by decide +kernel
theorem dX8_stairs_42 : decode cX8_stairs 42 = .ok (.iconst (-1), 1) := by decide +kernel
theorem dX8_stairs_43 : decode cX8_stairs 43 = .ok (.ireturn, 1) := by decide +kernel
theorem dX8_still_0 : decode cX8_still 0 = .ok (.aload_n 0, 1) := by decide +kernel
theorem dX8_still_1 : decode cX8_still 1 = .ok (.invokevirtual 177, 3) := by decide +kernel
theorem dX8_still_4 : decode cX8_still 4 = .ok (.ifCond .eq 6, 3) := by decide +kernel
theorem dX8_still_7 : decode cX8_still 7 = .ok (.bipush (-2), 2) := by decide +kernel
theorem dX8_still_9 : decode cX8_still 9 = .ok (.ireturn, 1) := by decide +kernel
theorem dX8_still_10 : decode cX8_still 10 = .ok (.aload_n 0, 1) := by decide +kernel
theorem dX8_still_11 : decode cX8_still 11 = .ok (.getfield 19, 3) := by decide +kernel
theorem dX8_still_14 : decode cX8_still 14 = .ok (.getfield 181, 3) := by decide +kernel
theorem dX8_still_17 : decode cX8_still 17 = .ok (.istore_n 1, 1) := by decide +kernel
theorem dX8_still_18 : decode cX8_still 18 = .ok (.iload_n 1, 1) := by decide +kernel
theorem dX8_still_19 : decode cX8_still 19 = .ok (.ifCond .le 33, 3) := by decide +kernel
theorem dX8_still_22 : decode cX8_still 22 = .ok (.aload_n 0, 1) := by decide +kernel
theorem dX8_still_23 : decode cX8_still 23 = .ok (.iload_n 1, 1) := by decide +kernel
theorem dX8_still_24 : decode cX8_still 24 = .ok (.iconst 1, 1) := by decide +kernel
theorem dX8_still_25 : decode cX8_still 25 = .ok (.isub, 1) := by decide +kernel
theorem dX8_still_26 : decode cX8_still 26 = .ok (.invokevirtual 135, 3) := by decide +kernel
theorem dX8_still_29 : decode cX8_still 29 = .ok (.aload_n 0, 1) := by decide +kernel
theorem dX8_still_30 : decode cX8_still 30 = .ok (.aload_n 0, 1) := by decide +kernel
theorem dX8_still_31 : decode cX8_still 31 = .ok (.getfield 19, 3) := by decide +kernel
theorem dX8_still_34 : decode cX8_still 34 = .ok (.getfield 181, 3) := by decide +kernel
theorem dX8_still_37 : decode cX8_still 37 = .ok (.invokevirtual 135, 3) := by decide +kernel
theorem dX8_still_40 : decode cX8_still 40 = .ok (.invokevirtual 193, 3) := by decide +kernel
theorem dX8_still_43 : decode cX8_still 43 = .ok (.ifCond .eq 9, 3) := by decide +kernel
theorem dX8_still_46 : decode cX8_still 46 = .ok (.iinc 1 (-1), 3) := by decide +kernel
theorem dX8_still_49 : decode cX8_still 49 = .ok (.goto (-31), 3) := by decide +kernel
theorem dX8_still_52 : decode cX8_still 52 = .ok (.iload_n 1, 1) := by decide +kernel
theorem dX8_still_53 : decode cX8_still 53 = .ok (.ireturn, 1) := by decide +kernel
theorem dX8_tail_0 : decode cX8_tail 0 = .ok (.aload_n 0, 1) := by decide +kernel
theorem dX8_tail_1 : decode cX8_tail 1 = .ok (.iload_n 1, 1) := by decide +kernel
theorem dX8_tail_2 : decode cX8_tail 2 = .ok (.invokevirtual 132, 3) := by decide +kernel
theorem dX8_tail_5 : decode cX8_tail 5 = .ok (.ifCond .eq 14, 3) := by decide +kernel
theorem dX8_tail_8 : decode cX8_tail 8 = .ok (.aload_n 0, 1) := by decide +kernel
theorem dX8_tail_9 : decode cX8_tail 9 = .ok (.iload_n 1, 1) := by decide +kernel
theorem dX8_tail_10 : decode cX8_tail 10 = .ok (.invokevirtual 217, 3) := by decide +kernel
theorem dX8_tail_13 : decode cX8_tail 13 = .ok (.getfield 221, 3) := by decide +kernel
theorem dX8_tail_16 : decode cX8_tail 16 = .ok (.goto 5, 3) := by decide +kernel
theorem dX8_tail_19 : decode cX8_tail 19 = .ok (.bipush (-2), 2) := by decide +kernel
theorem dX8_tail_21 : decode cX8_tail 21 = .ok (.ireturn, 1) := by decide +kernel
theorem dX8_taken_0 : decode cX8_taken 0 = .ok (.aload_n 0, 1) := by decide +kernel
theorem dX8_taken_1 : decode cX8_taken 1 = .ok (.iload_n 1, 1) := by decide +kernel
theorem dX8_taken_2 : decode cX8_taken 2 = .ok (.invokevirtual 165, 3) := by decide +kernel
theorem dX8_taken_5 : decode cX8_taken 5 = .ok (.ifCond .eq 21, 3) := by decide +kernel
theorem dX8_taken_8 : decode cX8_taken 8 = .ok (.aload_n 0, 1) := by decide +kernel
theorem dX8_taken_9 : decode cX8_taken 9 = .ok (.iload_n 1, 1) := by decide +kernel
theorem dX8_taken_10 : decode cX8_taken 10 = .ok (.invokevirtual 135, 3) := by decide +kernel
theorem dX8_taken_13 : decode cX8_taken 13 = .ok (.aload_n 0, 1) := by decide +kernel
theorem dX8_taken_14 : decode cX8_taken 14 = .ok (.getfield 19, 3) := by decide +kernel
theorem dX8_taken_17 : decode cX8_taken 17 = .ok (.getfield 168, 3) := by decide +kernel
theorem dX8_taken_20 : decode cX8_taken 20 = .ok (.invokevirtual 171, 3) := by decide +kernel
theorem dX8_taken_23 : decode cX8_taken 23 = .ok (.goto 5, 3) := by decide +kernel
theorem dX8_taken_26 : decode cX8_taken 26 = .ok (.bipush (-2), 2) := by decide +kernel
theorem dX8_taken_28 : decode cX8_taken 28 = .ok (.ireturn, 1) := by decide +kernel
theorem dX8_told_0 : decode cX8_told 0 = .ok (.aload_n 0, 1) := by decide +kernel
theorem dX8_told_1 : decode cX8_told 1 = .ok (.iload_n 1, 1) := by decide +kernel
theorem dX8_told_2 : decode cX8_told 2 = .ok (.invokevirtual 113, 3) := by decide +kernel
theorem dX8_told_5 : decode cX8_told 5 = .ok (.ifCond .eq 15, 3) := by decide +kernel
theorem dX8_told_8 : decode cX8_told 8 = .ok (.aload_n 0, 1) := by decide +kernel
theorem dX8_told_9 : decode cX8_told 9 = .ok (.getfield 19, 3) := by decide +kernel
theorem dX8_told_12 : decode cX8_told 12 = .ok (.getfield 117, 3) := by decide +kernel
theorem dX8_told_15 : decode cX8_told 15 = .ok (.iload_n 1, 1) := by decide +kernel
theorem dX8_told_16 : decode cX8_told 16 = .ok (.iaload, 1) := by decide +kernel
theorem dX8_told_17 : decode cX8_told 17 = .ok (.goto 5, 3) := by decide +kernel
theorem dX8_told_20 : decode cX8_told 20 = .ok (.bipush (-2), 2) := by decide +kernel
theorem dX8_told_22 : decode cX8_told 22 = .ok (.ireturn, 1) := by decide +kernel
theorem dX8_undo_0 : decode cX8_undo 0 = .ok (.aload_n 0, 1) := by decide +kernel
theorem dX8_undo_1 : decode cX8_undo 1 = .ok (.invokevirtual 177, 3) := by decide +kernel
theorem dX8_undo_4 : decode cX8_undo 4 = .ok (.ifCond .eq 6, 3) := by decide +kernel
theorem dX8_undo_7 : decode cX8_undo 7 = .ok (.bipush (-2), 2) := by decide +kernel
theorem dX8_undo_9 : decode cX8_undo 9 = .ok (.ireturn, 1) := by decide +kernel
theorem dX8_undo_10 : decode cX8_undo 10 = .ok (.aload_n 0, 1) := by decide +kernel
theorem dX8_undo_11 : decode cX8_undo 11 = .ok (.getfield 19, 3) := by decide +kernel
theorem dX8_undo_14 : decode cX8_undo 14 = .ok (.getfield 358, 3) := by decide +kernel
theorem dX8_undo_17 : decode cX8_undo 17 = .ok (.iconst 1, 1) := by decide +kernel
theorem dX8_undo_18 : decode cX8_undo 18 = .ok (.if_icmp .ge 6, 3) := by decide +kernel
theorem dX8_undo_21 : decode cX8_undo 21 = .ok (.bipush (-5), 2) := by decide +kernel
theorem dX8_undo_23 : decode cX8_undo 23 = .ok (.ireturn, 1) := by decide +kernel
theorem dX8_undo_24 : decode cX8_undo 24 = .ok (.aload_n 0, 1) := by decide +kernel
theorem dX8_undo_25 : decode cX8_undo 25 = .ok (.getfield 19, 3) := by decide +kernel
theorem dX8_undo_28 : decode cX8_undo 28 = .ok (.dup, 1) := by decide +kernel
theorem dX8_undo_29 : decode cX8_undo 29 = .ok (.getfield 358, 3) := by decide +kernel
theorem dX8_undo_32 : decode cX8_undo 32 = .ok (.iconst 1, 1) := by decide +kernel
theorem dX8_undo_33 : decode cX8_undo 33 = .ok (.isub, 1) := by decide +kernel
theorem dX8_undo_34 : decode cX8_undo 34 = .ok (.putfield 358, 3) := by decide +kernel
theorem dX8_undo_37 : decode cX8_undo 37 = .ok (.aload_n 0, 1) := by decide +kernel
theorem dX8_undo_38 : decode cX8_undo 38 = .ok (.invokevirtual 101, 3) := by decide +kernel
theorem dX8_undo_41 : decode cX8_undo 41 = .ok (.aload_n 0, 1) := by decide +kernel
theorem dX8_undo_42 : decode cX8_undo 42 = .ok (.getfield 19, 3) := by decide +kernel
theorem dX8_undo_45 : decode cX8_undo 45 = .ok (.getfield 358, 3) := by decide +kernel
theorem dX8_undo_48 : decode cX8_undo 48 = .ok (.ireturn, 1) := by decide +kernel
theorem dX8_way_0 : decode cX8_way 0 = .ok (.aload_n 0, 1) := by decide +kernel
theorem dX8_way_1 : decode cX8_way 1 = .ok (.iload_n 1, 1) := by decide +kernel
theorem dX8_way_2 : decode cX8_way 2 = .ok (.invokevirtual 259, 3) := by decide +kernel
theorem dX8_way_5 : decode cX8_way 5 = .ok (.istore_n 2, 1) := by decide +kernel
theorem dX8_way_6 : decode cX8_way 6 = .ok (.iload_n 2, 1) := by decide +kernel
theorem dX8_way_7 : decode cX8_way 7 = .ok (.ifCond .eq 5, 3) := by decide +kernel
theorem dX8_way_10 : decode cX8_way 10 = .ok (.iload_n 2, 1) := by decide +kernel
theorem dX8_way_11 : decode cX8_way 11 = .ok (.ireturn, 1) := by decide +kernel
theorem dX8_way_12 : decode cX8_way 12 = .ok (.aload_n 0, 1) := by decide +kernel
theorem dX8_way_13 : decode cX8_way 13 = .ok (.aload_n 0, 1) := by decide +kernel
theorem dX8_way_14 : decode cX8_way 14 = .ok (.getfield 70, 3) := by decide +kernel
theorem dX8_way_17 : decode cX8_way 17 = .ok (.getfield 146, 3) := by decide +kernel
theorem dX8_way_20 : decode cX8_way 20 = .ok (.invokevirtual 242, 3) := by decide +kernel
theorem dX8_way_23 : decode cX8_way 23 = .ok (.aload_n 0, 1) := by decide +kernel
theorem dX8_way_24 : decode cX8_way 24 = .ok (.getfield 70, 3) := by decide +kernel
theorem dX8_way_27 : decode cX8_way 27 = .ok (.invokevirtual 269, 3) := by decide +kernel
theorem dX8_way_30 : decode cX8_way 30 = .ok (.ireturn, 1) := by decide +kernel
theorem dX8_wins_0 : decode cX8_wins 0 = .ok (.aload_n 0, 1) := by decide +kernel
theorem dX8_wins_1 : decode cX8_wins 1 = .ok (.iload_n 1, 1) := by decide +kernel
theorem dX8_wins_2 : decode cX8_wins 2 = .ok (.invokevirtual 132, 3) := by decide +kernel
theorem dX8_wins_5 : decode cX8_wins 5 = .ok (.ifCond .eq 15, 3) := by decide +kernel
theorem dX8_wins_8 : decode cX8_wins 8 = .ok (.iload_n 2, 1) := by decide +kernel
theorem dX8_wins_9 : decode cX8_wins 9 = .ok (.iconst 1, 1) := by decide +kernel
theorem dX8_wins_10 : decode cX8_wins 10 = .ok (.if_icmp .lt 10, 3) := by decide +kernel
theorem dX8_wins_13 : decode cX8_wins 13 = .ok (.iload_n 2, 1) := by decide +kernel
theorem dX8_wins_14 : decode cX8_wins 14 = .ok (.sipush 700, 3) := by decide +kernel
theorem dX8_wins_17 : decode cX8_wins 17 = .ok (.if_icmp .le 6, 3) := by decide +kernel
theorem dX8_wins_20 : decode cX8_wins 20 = .ok (.bipush (-2), 2) := by decide +kernel
theorem dX8_wins_22 : decode cX8_wins 22 = .ok (.ireturn, 1) := by decide +kernel
theorem dX8_wins_23 : decode cX8_wins 23 = .ok (.aload_n 0, 1) := by decide +kernel
theorem dX8_wins_24 : decode cX8_wins 24 = .ok (.iload_n 1, 1) := by decide +kernel
theorem dX8_wins_25 : decode cX8_wins 25 = .ok (.invokevirtual 135, 3) := by decide +kernel
theorem dX8_wins_28 : decode cX8_wins 28 = .ok (.iload_n 2, 1) := by decide +kernel
theorem dX8_wins_29 : decode cX8_wins 29 = .ok (.iconst 1, 1) := by decide +kernel
theorem dX8_wins_30 : decode cX8_wins 30 = .ok (.iadd, 1) := by decide +kernel
theorem dX8_wins_31 : decode cX8_wins 31 = .ok (.invokevirtual 323, 3) := by decide +kernel
theorem dX8_wins_34 : decode cX8_wins 34 = .ok (.ifCond .eq 7, 3) := by decide +kernel
theorem dX8_wins_37 : decode cX8_wins 37 = .ok (.iconst 1, 1) := by decide +kernel
theorem dX8_wins_38 : decode cX8_wins 38 = .ok (.goto 4, 3) := by decide +kernel
theorem dX8_wins_41 : decode cX8_wins 41 = .ok (.iconst 0, 1) := by decide +kernel
theorem dX8_wins_42 : decode cX8_wins 42 = .ok (.invokestatic 200, 3) := by decide +kernel
theorem dX8_wins_45 : decode cX8_wins 45 = .ok (.ireturn, 1) := by decide +kernel
theorem dX8_worth_0 : decode cX8_worth 0 = .ok (.aload_n 0, 1) := by decide +kernel
theorem dX8_worth_1 : decode cX8_worth 1 = .ok (.invokevirtual 177, 3) := by decide +kernel
theorem dX8_worth_4 : decode cX8_worth 4 = .ok (.ifCond .ne 20, 3) := by decide +kernel
theorem dX8_worth_7 : decode cX8_worth 7 = .ok (.iload_n 1, 1) := by decide +kernel
theorem dX8_worth_8 : decode cX8_worth 8 = .ok (.ifCond .lt 16, 3) := by decide +kernel
theorem dX8_worth_11 : decode cX8_worth 11 = .ok (.iload_n 1, 1) := by decide +kernel
theorem dX8_worth_12 : decode cX8_worth 12 = .ok (.iconst 1, 1) := by decide +kernel
theorem dX8_worth_13 : decode cX8_worth 13 = .ok (.aload_n 0, 1) := by decide +kernel
theorem dX8_worth_14 : decode cX8_worth 14 = .ok (.getfield 19, 3) := by decide +kernel
theorem dX8_worth_17 : decode cX8_worth 17 = .ok (.getfield 278, 3) := by decide +kernel
theorem dX8_worth_20 : decode cX8_worth 20 = .ok (.ishl, 1) := by decide +kernel
theorem dX8_worth_21 : decode cX8_worth 21 = .ok (.if_icmp .lt 6, 3) := by decide +kernel
theorem dX8_worth_24 : decode cX8_worth 24 = .ok (.bipush (-2), 2) := by decide +kernel
theorem dX8_worth_26 : decode cX8_worth 26 = .ok (.ireturn, 1) := by decide +kernel
theorem dX8_worth_27 : decode cX8_worth 27 = .ok (.aload_n 0, 1) := by decide +kernel
theorem dX8_worth_28 : decode cX8_worth 28 = .ok (.iload_n 1, 1) := by decide +kernel
theorem dX8_worth_29 : decode cX8_worth 29 = .ok (.invokevirtual 281, 3) := by decide +kernel
theorem dX8_worth_32 : decode cX8_worth 32 = .ok (.ireturn, 1) := by decide +kernel
theorem dX8_write_0 : decode cX8_write 0 = .ok (.iload_n 1, 1) := by decide +kernel
theorem dX8_write_1 : decode cX8_write 1 = .ok (.invokestatic 382, 3) := by decide +kernel
theorem dX8_write_4 : decode cX8_write 4 = .ok (.ifCond .ne 6, 3) := by decide +kernel
theorem dX8_write_7 : decode cX8_write 7 = .ok (.bipush (-2), 2) := by decide +kernel
theorem dX8_write_9 : decode cX8_write 9 = .ok (.ireturn, 1) := by decide +kernel
theorem dX8_write_10 : decode cX8_write 10 = .ok (.aload_n 0, 1) := by decide +kernel
theorem dX8_write_11 : decode cX8_write 11 = .ok (.getfield 32, 3) := by decide +kernel
theorem dX8_write_14 : decode cX8_write 14 = .ok (.iload_n 1, 1) := by decide +kernel
theorem dX8_write_15 : decode cX8_write 15 = .ok (.aaload, 1) := by decide +kernel
theorem dX8_write_16 : decode cX8_write 16 = .ok (.astore 5, 2) := by decide +kernel
theorem dX8_write_18 : decode cX8_write 18 = .ok (.aload 5, 2) := by decide +kernel
theorem dX8_write_20 : decode cX8_write 20 = .ok (.getfield 389, 3) := by decide +kernel
theorem dX8_write_23 : decode cX8_write 23 = .ok (.ifCond .ne 6, 3) := by decide +kernel
theorem dX8_write_26 : decode cX8_write 26 = .ok (.bipush (-6), 2) := by decide +kernel
theorem dX8_write_28 : decode cX8_write 28 = .ok (.ireturn, 1) := by decide +kernel
theorem dX8_write_29 : decode cX8_write 29 = .ok (.iload_n 2, 1) := by decide +kernel
theorem dX8_write_30 : decode cX8_write 30 = .ok (.ifCond .lt 12, 3) := by decide +kernel
theorem dX8_write_33 : decode cX8_write 33 = .ok (.iload_n 2, 1) := by decide +kernel
theorem dX8_write_34 : decode cX8_write 34 = .ok (.aload 5, 2) := by decide +kernel
theorem dX8_write_36 : decode cX8_write 36 = .ok (.getfield 392, 3) := by decide +kernel
theorem dX8_write_39 : decode cX8_write 39 = .ok (.if_icmp .lt 6, 3) := by decide +kernel
theorem dX8_write_42 : decode cX8_write 42 = .ok (.bipush (-7), 2) := by decide +kernel
theorem dX8_write_44 : decode cX8_write 44 = .ok (.ireturn, 1) := by decide +kernel
theorem dX8_write_45 : decode cX8_write 45 = .ok (.aload 5, 2) := by decide +kernel
theorem dX8_write_47 : decode cX8_write 47 = .ok (.getfield 393, 3) := by decide +kernel
theorem dX8_write_50 : decode cX8_write 50 = .ok (.iload_n 2, 1) := by decide +kernel
theorem dX8_write_51 : decode cX8_write 51 = .ok (.lload_n 3, 1) := by decide +kernel
theorem dX8_write_52 : decode cX8_write 52 = .ok (.aload 5, 2) := by decide +kernel
theorem dX8_write_54 : decode cX8_write 54 = .ok (.getfield 397, 3) := by decide +kernel
theorem dX8_write_57 : decode cX8_write 57 = .ok (.invokestatic 400, 3) := by decide +kernel
theorem dX8_write_60 : decode cX8_write 60 = .ok (.lastore, 1) := by decide +kernel
theorem dX8_write_61 : decode cX8_write 61 = .ok (.iconst 0, 1) := by decide +kernel
theorem dX8_write_62 : decode cX8_write 62 = .ok (.ireturn, 1) := by decide +kernel

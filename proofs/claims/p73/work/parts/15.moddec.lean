theorem dX9_above_0 : decode cX9_above 0 = .ok (.aload_n 0, 1) := by decide +kernel
theorem dX9_above_1 : decode cX9_above 1 = .ok (.invokevirtual 265, 3) := by decide +kernel
theorem dX9_above_4 : decode cX9_above 4 = .ok (.pop, 1) := by decide +kernel
theorem dX9_above_5 : decode cX9_above 5 = .ok (.aload_n 0, 1) := by decide +kernel
theorem dX9_above_6 : decode cX9_above 6 = .ok (.iload_n 1, 1) := by decide +kernel
theorem dX9_above_7 : decode cX9_above 7 = .ok (.i2l, 1) := by decide +kernel
theorem dX9_above_8 : decode cX9_above 8 = .ok (.invokevirtual 268, 3) := by decide +kernel
theorem dX9_above_11 : decode cX9_above 11 = .ok (.ifCond .eq 12, 3) := by decide +kernel
theorem dX9_above_14 : decode cX9_above 14 = .ok (.aload_n 0, 1) := by decide +kernel
theorem dX9_above_15 : decode cX9_above 15 = .ok (.iload_n 2, 1) := by decide +kernel
theorem dX9_above_16 : decode cX9_above 16 = .ok (.i2l, 1) := by decide +kernel
theorem dX9_above_17 : decode cX9_above 17 = .ok (.invokevirtual 268, 3) := by decide +kernel
theorem dX9_above_20 : decode cX9_above 20 = .ok (.ifCond .ne 6, 3) := by decide +kernel
theorem dX9_above_23 : decode cX9_above 23 = .ok (.bipush (-2), 2) := by decide +kernel
theorem dX9_above_25 : decode cX9_above 25 = .ok (.ireturn, 1) := by decide +kernel
theorem dX9_above_26 : decode cX9_above 26 = .ok (.aload_n 0, 1) := by decide +kernel
theorem dX9_above_27 : decode cX9_above 27 = .ok (.iload_n 1, 1) := by decide +kernel
theorem dX9_above_28 : decode cX9_above 28 = .ok (.invokevirtual 275, 3) := by decide +kernel
theorem dX9_above_31 : decode cX9_above 31 = .ok (.aload_n 0, 1) := by decide +kernel
theorem dX9_above_32 : decode cX9_above 32 = .ok (.iload_n 2, 1) := by decide +kernel
theorem dX9_above_33 : decode cX9_above 33 = .ok (.invokevirtual 275, 3) := by decide +kernel
theorem dX9_above_36 : decode cX9_above 36 = .ok (.if_icmp .eq 5, 3) := by decide +kernel
theorem dX9_above_39 : decode cX9_above 39 = .ok (.iconst (-1), 1) := by decide +kernel
theorem dX9_above_40 : decode cX9_above 40 = .ok (.ireturn, 1) := by decide +kernel
theorem dX9_above_41 : decode cX9_above 41 = .ok (.aload_n 0, 1) := by decide +kernel
theorem dX9_above_42 : decode cX9_above 42 = .ok (.iload_n 1, 1) := by decide +kernel
theorem dX9_above_43 : decode cX9_above 43 = .ok (.iload_n 2, 1) := by decide +kernel
theorem dX9_above_44 : decode cX9_above 44 = .ok (.invokevirtual 289, 3) := by decide +kernel
theorem dX9_above_47 : decode cX9_above 47 = .ok (.ifCond .eq 5, 3) := by decide +kernel
theorem dX9_above_50 : decode cX9_above 50 = .ok (.iconst 0, 1) := by decide +kernel
theorem dX9_above_51 : decode cX9_above 51 = .ok (.ireturn, 1) := by decide +kernel
theorem dX9_above_52 : decode cX9_above 52 = .ok (.aload_n 0, 1) := by decide +kernel
theorem dX9_above_53 : decode cX9_above 53 = .ok (.iload_n 1, 1) := by decide +kernel
theorem dX9_above_54 : decode cX9_above 54 = .ok (.iload_n 2, 1) := by decide +kernel
theorem dX9_above_55 : decode cX9_above 55 = .ok (.invokevirtual 302, 3) := by decide +kernel
theorem dX9_above_58 : decode cX9_above 58 = .ok (.ifCond .eq 7, 3) := by decide +kernel
theorem dX9_above_61 : decode cX9_above 61 = .ok (.iconst 1, 1) := by decide +kernel
theorem dX9_above_62 : decode cX9_above 62 = .ok (.goto 17, 3) := by decide +kernel
theorem dX9_above_65 : decode cX9_above 65 = .ok (.aload_n 0, 1) := by decide +kernel
theorem dX9_above_66 : decode cX9_above 66 = .ok (.iload_n 2, 1) := by decide +kernel
theorem dX9_above_67 : decode cX9_above 67 = .ok (.iload_n 1, 1) := by decide +kernel
theorem dX9_above_68 : decode cX9_above 68 = .ok (.invokevirtual 302, 3) := by decide +kernel
theorem dX9_above_71 : decode cX9_above 71 = .ok (.ifCond .eq 7, 3) := by decide +kernel
theorem dX9_above_74 : decode cX9_above 74 = .ok (.iconst 2, 1) := by decide +kernel
theorem dX9_above_75 : decode cX9_above 75 = .ok (.goto 4, 3) := by decide +kernel
theorem dX9_above_78 : decode cX9_above 78 = .ok (.iconst 3, 1) := by decide +kernel
theorem dX9_above_79 : decode cX9_above 79 = .ok (.ireturn, 1) := by decide +kernel
theorem dX9_advance_0 : decode cX9_advance 0 = .ok (.aload_n 0, 1) := by decide +kernel
theorem dX9_advance_1 : decode cX9_advance 1 = .ok (.aload_n 0, 1) := by decide +kernel
theorem dX9_advance_2 : decode cX9_advance 2 = .ok (.getfield 106, 3) := by decide +kernel
theorem dX9_advance_5 : decode cX9_advance 5 = .ok (.invokevirtual 109, 3) := by decide +kernel
theorem dX9_advance_8 : decode cX9_advance 8 = .ok (.bipush 32, 2) := by decide +kernel
theorem dX9_advance_10 : decode cX9_advance 10 = .ok (.if_icmp .eq 16, 3) := by decide +kernel
theorem dX9_advance_13 : decode cX9_advance 13 = .ok (.aload_n 0, 1) := by decide +kernel
theorem dX9_advance_14 : decode cX9_advance 14 = .ok (.aload_n 0, 1) := by decide +kernel
theorem dX9_advance_15 : decode cX9_advance 15 = .ok (.getfield 106, 3) := by decide +kernel
theorem dX9_advance_18 : decode cX9_advance 18 = .ok (.invokevirtual 109, 3) := by decide +kernel
theorem dX9_advance_21 : decode cX9_advance 21 = .ok (.bipush 10, 2) := by decide +kernel
theorem dX9_advance_23 : decode cX9_advance 23 = .ok (.if_icmp .ne 16, 3) := by decide +kernel
theorem dX9_advance_26 : decode cX9_advance 26 = .ok (.aload_n 0, 1) := by decide +kernel
theorem dX9_advance_27 : decode cX9_advance 27 = .ok (.dup, 1) := by decide +kernel
theorem dX9_advance_28 : decode cX9_advance 28 = .ok (.getfield 106, 3) := by decide +kernel
theorem dX9_advance_31 : decode cX9_advance 31 = .ok (.iconst 1, 1) := by decide +kernel
theorem dX9_advance_32 : decode cX9_advance 32 = .ok (.iadd, 1) := by decide +kernel
theorem dX9_advance_33 : decode cX9_advance 33 = .ok (.putfield 106, 3) := by decide +kernel
theorem dX9_advance_36 : decode cX9_advance 36 = .ok (.goto (-36), 3) := by decide +kernel
theorem dX9_advance_39 : decode cX9_advance 39 = .ok (.aload_n 0, 1) := by decide +kernel
theorem dX9_advance_40 : decode cX9_advance 40 = .ok (.aload_n 0, 1) := by decide +kernel
theorem dX9_advance_41 : decode cX9_advance 41 = .ok (.getfield 106, 3) := by decide +kernel
theorem dX9_advance_44 : decode cX9_advance 44 = .ok (.putfield 113, 3) := by decide +kernel
theorem dX9_advance_47 : decode cX9_advance 47 = .ok (.aload_n 0, 1) := by decide +kernel
theorem dX9_advance_48 : decode cX9_advance 48 = .ok (.aload_n 0, 1) := by decide +kernel
theorem dX9_advance_49 : decode cX9_advance 49 = .ok (.getfield 106, 3) := by decide +kernel
theorem dX9_advance_52 : decode cX9_advance 52 = .ok (.invokevirtual 109, 3) := by decide +kernel
theorem dX9_advance_55 : decode cX9_advance 55 = .ok (.istore_n 1, 1) := by decide +kernel
theorem dX9_advance_56 : decode cX9_advance 56 = .ok (.iload_n 1, 1) := by decide +kernel
theorem dX9_advance_57 : decode cX9_advance 57 = .ok (.iconst (-1), 1) := by decide +kernel
theorem dX9_advance_58 : decode cX9_advance 58 = .ok (.if_icmp .ne 11, 3) := by decide +kernel
theorem dX9_advance_61 : decode cX9_advance 61 = .ok (.aload_n 0, 1) := by decide +kernel
theorem dX9_advance_62 : decode cX9_advance 62 = .ok (.iconst 0, 1) := by decide +kernel
theorem dX9_advance_63 : decode cX9_advance 63 = .ok (.putfield 116, 3) := by decide +kernel
theorem dX9_advance_66 : decode cX9_advance 66 = .ok (.goto 173, 3) := by decide +kernel
theorem dX9_advance_69 : decode cX9_advance 69 = .ok (.iload_n 1, 1) := by decide +kernel
theorem dX9_advance_70 : decode cX9_advance 70 = .ok (.i2l, 1) := by decide +kernel
theorem dX9_advance_71 : decode cX9_advance 71 = .ok (.ldc2_w 119, 3) := by decide +kernel
theorem dX9_advance_74 : decode cX9_advance 74 = .ok (.ldc2_w 121, 3) := by decide +kernel
theorem dX9_advance_77 : decode cX9_advance 77 = .ok (.invokestatic 85, 3) := by decide +kernel
theorem dX9_advance_80 : decode cX9_advance 80 = .ok (.ifCond .eq 45, 3) := by decide +kernel
theorem dX9_advance_83 : decode cX9_advance 83 = .ok (.aload_n 0, 1) := by decide +kernel
theorem dX9_advance_84 : decode cX9_advance 84 = .ok (.aload_n 0, 1) := by decide +kernel
theorem dX9_advance_85 : decode cX9_advance 85 = .ok (.getfield 106, 3) := by decide +kernel
theorem dX9_advance_88 : decode cX9_advance 88 = .ok (.invokevirtual 109, 3) := by decide +kernel
theorem dX9_advance_91 : decode cX9_advance 91 = .ok (.i2l, 1) := by decide +kernel
theorem dX9_advance_92 : decode cX9_advance 92 = .ok (.ldc2_w 119, 3) := by decide +kernel
theorem dX9_advance_95 : decode cX9_advance 95 = .ok (.ldc2_w 121, 3) := by decide +kernel
theorem dX9_advance_98 : decode cX9_advance 98 = .ok (.invokestatic 85, 3) := by decide +kernel
theorem dX9_advance_101 : decode cX9_advance 101 = .ok (.ifCond .eq 16, 3) := by decide +kernel
theorem dX9_advance_104 : decode cX9_advance 104 = .ok (.aload_n 0, 1) := by decide +kernel
theorem dX9_advance_105 : decode cX9_advance 105 = .ok (.dup, 1) := by decide +kernel
theorem dX9_advance_106 : decode cX9_advance 106 = .ok (.getfield 106, 3) := by decide +kernel
theorem dX9_advance_109 : decode cX9_advance 109 = .ok (.iconst 1, 1) := by decide +kernel
theorem dX9_advance_110 : decode cX9_advance 110 = .ok (.iadd, 1) := by decide +kernel
theorem dX9_advance_111 : decode cX9_advance 111 = .ok (.putfield 106, 3) := by decide +kernel
theorem dX9_advance_114 : decode cX9_advance 114 = .ok (.goto (-31), 3) := by decide +kernel
theorem dX9_advance_117 : decode cX9_advance 117 = .ok (.aload_n 0, 1) := by decide +kernel
theorem dX9_advance_118 : decode cX9_advance 118 = .ok (.iconst 1, 1) := by decide +kernel
theorem dX9_advance_119 : decode cX9_advance 119 = .ok (.putfield 116, 3) := by decide +kernel
theorem dX9_advance_122 : decode cX9_advance 122 = .ok (.goto 117, 3) := by decide +kernel
theorem dX9_advance_125 : decode cX9_advance 125 = .ok (.iload_n 1, 1) := by decide +kernel
theorem dX9_advance_126 : decode cX9_advance 126 = .ok (.i2l, 1) := by decide +kernel
theorem dX9_advance_127 : decode cX9_advance 127 = .ok (.ldc2_w 123, 3) := by decide +kernel
theorem dX9_advance_130 : decode cX9_advance 130 = .ok (.ldc2_w 125, 3) := by decide +kernel
theorem dX9_advance_133 : decode cX9_advance 133 = .ok (.invokestatic 85, 3) := by decide +kernel
theorem dX9_advance_136 : decode cX9_advance 136 = .ok (.ifCond .eq 78, 3) := by decide +kernel
theorem dX9_advance_139 : decode cX9_advance 139 = .ok (.aload_n 0, 1) := by decide +kernel
theorem dX9_advance_140 : decode cX9_advance 140 = .ok (.iconst 0, 1) := by decide +kernel
theorem dX9_advance_141 : decode cX9_advance 141 = .ok (.putfield 127, 3) := by decide +kernel
theorem dX9_advance_144 : decode cX9_advance 144 = .ok (.aload_n 0, 1) := by decide +kernel
theorem dX9_advance_145 : decode cX9_advance 145 = .ok (.aload_n 0, 1) := by decide +kernel
theorem dX9_advance_146 : decode cX9_advance 146 = .ok (.getfield 106, 3) := by decide +kernel
theorem dX9_advance_149 : decode cX9_advance 149 = .ok (.invokevirtual 109, 3) := by decide +kernel
theorem dX9_advance_152 : decode cX9_advance 152 = .ok (.i2l, 1) := by decide +kernel
theorem dX9_advance_153 : decode cX9_advance 153 = .ok (.ldc2_w 123, 3) := by decide +kernel
theorem dX9_advance_156 : decode cX9_advance 156 = .ok (.ldc2_w 125, 3) := by decide +kernel
theorem dX9_advance_159 : decode cX9_advance 159 = .ok (.invokestatic 85, 3) := by decide +kernel
theorem dX9_advance_162 : decode cX9_advance 162 = .ok (.ifCond .eq 44, 3) := by decide +kernel
theorem dX9_advance_165 : decode cX9_advance 165 = .ok (.aload_n 0, 1) := by decide +kernel
theorem dX9_advance_166 : decode cX9_advance 166 = .ok (.ldc 130, 2) := by decide +kernel
theorem dX9_advance_168 : decode cX9_advance 168 = .ok (.bipush 10, 2) := by decide +kernel
theorem dX9_advance_170 : decode cX9_advance 170 = .ok (.aload_n 0, 1) := by decide +kernel
theorem dX9_advance_171 : decode cX9_advance 171 = .ok (.getfield 127, 3) := by decide +kernel
theorem dX9_advance_174 : decode cX9_advance 174 = .ok (.imul, 1) := by decide +kernel
theorem dX9_advance_175 : decode cX9_advance 175 = .ok (.aload_n 0, 1) := by decide +kernel
theorem dX9_advance_176 : decode cX9_advance 176 = .ok (.aload_n 0, 1) := by decide +kernel
theorem dX9_advance_177 : decode cX9_advance 177 = .ok (.getfield 106, 3) := by decide +kernel
theorem dX9_advance_180 : decode cX9_advance 180 = .ok (.invokevirtual 109, 3) := by decide +kernel
theorem dX9_advance_183 : decode cX9_advance 183 = .ok (.iadd, 1) := by decide +kernel
theorem dX9_advance_184 : decode cX9_advance 184 = .ok (.bipush 48, 2) := by decide +kernel
theorem dX9_advance_186 : decode cX9_advance 186 = .ok (.isub, 1) := by decide +kernel
theorem dX9_advance_187 : decode cX9_advance 187 = .ok (.invokestatic 131, 3) := by decide +kernel
theorem dX9_advance_190 : decode cX9_advance 190 = .ok (.putfield 127, 3) := by decide +kernel
theorem dX9_advance_193 : decode cX9_advance 193 = .ok (.aload_n 0, 1) := by decide +kernel
theorem dX9_advance_194 : decode cX9_advance 194 = .ok (.dup, 1) := by decide +kernel
theorem dX9_advance_195 : decode cX9_advance 195 = .ok (.getfield 106, 3) := by decide +kernel
theorem dX9_advance_198 : decode cX9_advance 198 = .ok (.iconst 1, 1) := by decide +kernel
theorem dX9_advance_199 : decode cX9_advance 199 = .ok (.iadd, 1) := by decide +kernel
theorem dX9_advance_200 : decode cX9_advance 200 = .ok (.putfield 106, 3) := by decide +kernel
theorem dX9_advance_203 : decode cX9_advance 203 = .ok (.goto (-59), 3) := by decide +kernel
theorem dX9_advance_206 : decode cX9_advance 206 = .ok (.aload_n 0, 1) := by decide +kernel
theorem dX9_advance_207 : decode cX9_advance 207 = .ok (.iconst 2, 1) := by decide +kernel
theorem dX9_advance_208 : decode cX9_advance 208 = .ok (.putfield 116, 3) := by decide +kernel
theorem dX9_advance_211 : decode cX9_advance 211 = .ok (.goto 28, 3) := by decide +kernel
theorem dX9_advance_214 : decode cX9_advance 214 = .ok (.aload_n 0, 1) := by decide +kernel
theorem dX9_advance_215 : decode cX9_advance 215 = .ok (.iload_n 1, 1) := by decide +kernel
theorem dX9_advance_216 : decode cX9_advance 216 = .ok (.bipush 59, 2) := by decide +kernel
theorem dX9_advance_218 : decode cX9_advance 218 = .ok (.if_icmp .ne 7, 3) := by decide +kernel
theorem dX9_advance_221 : decode cX9_advance 221 = .ok (.iconst 3, 1) := by decide +kernel
theorem dX9_advance_222 : decode cX9_advance 222 = .ok (.goto 4, 3) := by decide +kernel
theorem dX9_advance_225 : decode cX9_advance 225 = .ok (.iconst 4, 1) := by decide +kernel
theorem dX9_advance_226 : decode cX9_advance 226 = .ok (.putfield 116, 3) := by decide +kernel
theorem dX9_advance_229 : decode cX9_advance 229 = .ok (.aload_n 0, 1) := by decide +kernel
theorem dX9_advance_230 : decode cX9_advance 230 = .ok (.dup, 1) := by decide +kernel
theorem dX9_advance_231 : decode cX9_advance 231 = .ok (.getfield 106, 3) := by decide +kernel
theorem dX9_advance_234 : decode cX9_advance 234 = .ok (.iconst 1, 1) := by decide +kernel
theorem dX9_advance_235 : decode cX9_advance 235 = .ok (.iadd, 1) := by decide +kernel
theorem dX9_advance_236 : decode cX9_advance 236 = .ok (.putfield 106, 3) := by decide +kernel
theorem dX9_advance_239 : decode cX9_advance 239 = .ok (.return_, 1) := by decide +kernel
theorem dX9_ahead_0 : decode cX9_ahead 0 = .ok (.aload_n 0, 1) := by decide +kernel
theorem dX9_ahead_1 : decode cX9_ahead 1 = .ok (.iload_n 1, 1) := by decide +kernel
theorem dX9_ahead_2 : decode cX9_ahead 2 = .ok (.invokevirtual 358, 3) := by decide +kernel
theorem dX9_ahead_5 : decode cX9_ahead 5 = .ok (.istore_n 2, 1) := by decide +kernel
theorem dX9_ahead_6 : decode cX9_ahead 6 = .ok (.iload_n 2, 1) := by decide +kernel
theorem dX9_ahead_7 : decode cX9_ahead 7 = .ok (.ifCond .ge 7, 3) := by decide +kernel
theorem dX9_ahead_10 : decode cX9_ahead 10 = .ok (.iload_n 2, 1) := by decide +kernel
theorem dX9_ahead_11 : decode cX9_ahead 11 = .ok (.goto 11, 3) := by decide +kernel
theorem dX9_ahead_14 : decode cX9_ahead 14 = .ok (.aload_n 0, 1) := by decide +kernel
theorem dX9_ahead_15 : decode cX9_ahead 15 = .ok (.aload_n 0, 1) := by decide +kernel
theorem dX9_ahead_16 : decode cX9_ahead 16 = .ok (.getfield 355, 3) := by decide +kernel
theorem dX9_ahead_19 : decode cX9_ahead 19 = .ok (.invokevirtual 345, 3) := by decide +kernel
theorem dX9_ahead_22 : decode cX9_ahead 22 = .ok (.ireturn, 1) := by decide +kernel
theorem dX9_all_0 : decode cX9_all 0 = .ok (.aload_n 0, 1) := by decide +kernel
theorem dX9_all_1 : decode cX9_all 1 = .ok (.iload_n 1, 1) := by decide +kernel
theorem dX9_all_2 : decode cX9_all 2 = .ok (.invokevirtual 272, 3) := by decide +kernel
theorem dX9_all_5 : decode cX9_all 5 = .ok (.ifCond .eq 11, 3) := by decide +kernel
theorem dX9_all_8 : decode cX9_all 8 = .ok (.aload_n 0, 1) := by decide +kernel
theorem dX9_all_9 : decode cX9_all 9 = .ok (.iload_n 1, 1) := by decide +kernel
theorem dX9_all_10 : decode cX9_all 10 = .ok (.invokevirtual 275, 3) := by decide +kernel
theorem dX9_all_13 : decode cX9_all 13 = .ok (.goto 5, 3) := by decide +kernel
theorem dX9_all_16 : decode cX9_all 16 = .ok (.bipush (-2), 2) := by decide +kernel
theorem dX9_all_18 : decode cX9_all 18 = .ok (.ireturn, 1) := by decide +kernel
theorem dX9_anew_0 : decode cX9_anew 0 = .ok (.aload_n 0, 1) := by decide +kernel
theorem dX9_anew_1 : decode cX9_anew 1 = .ok (.invokevirtual 89, 3) := by decide +kernel
theorem dX9_anew_4 : decode cX9_anew 4 = .ok (.ifCond .ne 6, 3) := by decide +kernel
theorem dX9_anew_7 : decode cX9_anew 7 = .ok (.bipush (-2), 2) := by decide +kernel
theorem dX9_anew_9 : decode cX9_anew 9 = .ok (.ireturn, 1) := by decide +kernel
theorem dX9_anew_10 : decode cX9_anew 10 = .ok (.aload_n 0, 1) := by decide +kernel
theorem dX9_anew_11 : decode cX9_anew 11 = .ok (.getfield 9, 3) := by decide +kernel
theorem dX9_anew_14 : decode cX9_anew 14 = .ok (.iconst 5, 1) := by decide +kernel
theorem dX9_anew_15 : decode cX9_anew 15 = .ok (.iaload, 1) := by decide +kernel
theorem dX9_anew_16 : decode cX9_anew 16 = .ok (.istore_n 1, 1) := by decide +kernel
theorem dX9_anew_17 : decode cX9_anew 17 = .ok (.aload_n 0, 1) := by decide +kernel
theorem dX9_anew_18 : decode cX9_anew 18 = .ok (.getfield 9, 3) := by decide +kernel
theorem dX9_anew_21 : decode cX9_anew 21 = .ok (.iconst 5, 1) := by decide +kernel
theorem dX9_anew_22 : decode cX9_anew 22 = .ok (.iconst 0, 1) := by decide +kernel
theorem dX9_anew_23 : decode cX9_anew 23 = .ok (.iastore, 1) := by decide +kernel
theorem dX9_anew_24 : decode cX9_anew 24 = .ok (.iload_n 1, 1) := by decide +kernel
theorem dX9_anew_25 : decode cX9_anew 25 = .ok (.ireturn, 1) := by decide +kernel
theorem dX9_areSame_0 : decode cX9_areSame 0 = .ok (.aload_n 0, 1) := by decide +kernel
theorem dX9_areSame_1 : decode cX9_areSame 1 = .ok (.iload_n 1, 1) := by decide +kernel
theorem dX9_areSame_2 : decode cX9_areSame 2 = .ok (.invokevirtual 207, 3) := by decide +kernel
theorem dX9_areSame_5 : decode cX9_areSame 5 = .ok (.aload_n 0, 1) := by decide +kernel
theorem dX9_areSame_6 : decode cX9_areSame 6 = .ok (.iload_n 2, 1) := by decide +kernel
theorem dX9_areSame_7 : decode cX9_areSame 7 = .ok (.invokevirtual 207, 3) := by decide +kernel
theorem dX9_areSame_10 : decode cX9_areSame 10 = .ok (.if_icmp .ne 7, 3) := by decide +kernel
theorem dX9_areSame_13 : decode cX9_areSame 13 = .ok (.iconst 1, 1) := by decide +kernel
theorem dX9_areSame_14 : decode cX9_areSame 14 = .ok (.goto 4, 3) := by decide +kernel
theorem dX9_areSame_17 : decode cX9_areSame 17 = .ok (.iconst 0, 1) := by decide +kernel
theorem dX9_areSame_18 : decode cX9_areSame 18 = .ok (.istore_n 3, 1) := by decide +kernel
theorem dX9_areSame_19 : decode cX9_areSame 19 = .ok (.iconst 0, 1) := by decide +kernel
theorem dX9_areSame_20 : decode cX9_areSame 20 = .ok (.istore 4, 2) := by decide +kernel
theorem dX9_areSame_22 : decode cX9_areSame 22 = .ok (.iload 4, 2) := by decide +kernel
theorem dX9_areSame_24 : decode cX9_areSame 24 = .ok (.aload_n 0, 1) := by decide +kernel
theorem dX9_areSame_25 : decode cX9_areSame 25 = .ok (.iload_n 1, 1) := by decide +kernel
theorem dX9_areSame_26 : decode cX9_areSame 26 = .ok (.invokevirtual 207, 3) := by decide +kernel
theorem dX9_areSame_29 : decode cX9_areSame 29 = .ok (.if_icmp .ge 36, 3) := by decide +kernel
theorem dX9_areSame_32 : decode cX9_areSame 32 = .ok (.iload_n 3, 1) := by decide +kernel
theorem dX9_areSame_33 : decode cX9_areSame 33 = .ok (.ifCond .eq 32, 3) := by decide +kernel
theorem dX9_areSame_36 : decode cX9_areSame 36 = .ok (.aload_n 0, 1) := by decide +kernel
theorem dX9_areSame_37 : decode cX9_areSame 37 = .ok (.iload_n 1, 1) := by decide +kernel
theorem dX9_areSame_38 : decode cX9_areSame 38 = .ok (.iload 4, 2) := by decide +kernel
theorem dX9_areSame_40 : decode cX9_areSame 40 = .ok (.invokevirtual 210, 3) := by decide +kernel
theorem dX9_areSame_43 : decode cX9_areSame 43 = .ok (.aload_n 0, 1) := by decide +kernel
theorem dX9_areSame_44 : decode cX9_areSame 44 = .ok (.iload_n 2, 1) := by decide +kernel
theorem dX9_areSame_45 : decode cX9_areSame 45 = .ok (.iload 4, 2) := by decide +kernel
theorem dX9_areSame_47 : decode cX9_areSame 47 = .ok (.invokevirtual 210, 3) := by decide +kernel
theorem dX9_areSame_50 : decode cX9_areSame 50 = .ok (.if_icmp .ne 7, 3) := by decide +kernel
theorem dX9_areSame_53 : decode cX9_areSame 53 = .ok (.iconst 1, 1) := by decide +kernel
theorem dX9_areSame_54 : decode cX9_areSame 54 = .ok (.goto 4, 3) := by decide +kernel
theorem dX9_areSame_57 : decode cX9_areSame 57 = .ok (.iconst 0, 1) := by decide +kernel
theorem dX9_areSame_58 : decode cX9_areSame 58 = .ok (.istore_n 3, 1) := by decide +kernel
theorem dX9_areSame_59 : decode cX9_areSame 59 = .ok (.iinc 4 1, 3) := by decide +kernel
theorem dX9_areSame_62 : decode cX9_areSame 62 = .ok (.goto (-40), 3) := by decide +kernel
theorem dX9_areSame_65 : decode cX9_areSame 65 = .ok (.iload_n 3, 1) := by decide +kernel
theorem dX9_areSame_66 : decode cX9_areSame 66 = .ok (.ireturn, 1) := by decide +kernel
theorem dX9_areTwo_0 : decode cX9_areTwo 0 = .ok (.aload_n 0, 1) := by decide +kernel
theorem dX9_areTwo_1 : decode cX9_areTwo 1 = .ok (.iload_n 1, 1) := by decide +kernel
theorem dX9_areTwo_2 : decode cX9_areTwo 2 = .ok (.invokevirtual 204, 3) := by decide +kernel
theorem dX9_areTwo_5 : decode cX9_areTwo 5 = .ok (.ifCond .eq 20, 3) := by decide +kernel
theorem dX9_areTwo_8 : decode cX9_areTwo 8 = .ok (.aload_n 0, 1) := by decide +kernel
theorem dX9_areTwo_9 : decode cX9_areTwo 9 = .ok (.iload_n 2, 1) := by decide +kernel
theorem dX9_areTwo_10 : decode cX9_areTwo 10 = .ok (.invokevirtual 204, 3) := by decide +kernel
theorem dX9_areTwo_13 : decode cX9_areTwo 13 = .ok (.ifCond .eq 12, 3) := by decide +kernel
theorem dX9_areTwo_16 : decode cX9_areTwo 16 = .ok (.iload_n 1, 1) := by decide +kernel
theorem dX9_areTwo_17 : decode cX9_areTwo 17 = .ok (.iload_n 2, 1) := by decide +kernel
theorem dX9_areTwo_18 : decode cX9_areTwo 18 = .ok (.if_icmp .eq 7, 3) := by decide +kernel
theorem dX9_areTwo_21 : decode cX9_areTwo 21 = .ok (.iconst 1, 1) := by decide +kernel
theorem dX9_areTwo_22 : decode cX9_areTwo 22 = .ok (.goto 4, 3) := by decide +kernel
theorem dX9_areTwo_25 : decode cX9_areTwo 25 = .ok (.iconst 0, 1) := by decide +kernel
theorem dX9_areTwo_26 : decode cX9_areTwo 26 = .ok (.ireturn, 1) := by decide +kernel
theorem dX9_asItIs_0 : decode cX9_asItIs 0 = .ok (.aload_n 0, 1) := by decide +kernel
theorem dX9_asItIs_1 : decode cX9_asItIs 1 = .ok (.aload_n 0, 1) := by decide +kernel
theorem dX9_asItIs_2 : decode cX9_asItIs 2 = .ok (.getfield 9, 3) := by decide +kernel
theorem dX9_asItIs_5 : decode cX9_asItIs 5 = .ok (.iconst 1, 1) := by decide +kernel
theorem dX9_asItIs_6 : decode cX9_asItIs 6 = .ok (.iaload, 1) := by decide +kernel
theorem dX9_asItIs_7 : decode cX9_asItIs 7 = .ok (.putfield 213, 3) := by decide +kernel
theorem dX9_asItIs_10 : decode cX9_asItIs 10 = .ok (.aload_n 0, 1) := by decide +kernel
theorem dX9_asItIs_11 : decode cX9_asItIs 11 = .ok (.iconst 0, 1) := by decide +kernel
theorem dX9_asItIs_12 : decode cX9_asItIs 12 = .ok (.putfield 235, 3) := by decide +kernel
theorem dX9_asItIs_15 : decode cX9_asItIs 15 = .ok (.aload_n 0, 1) := by decide +kernel
theorem dX9_asItIs_16 : decode cX9_asItIs 16 = .ok (.bipush 63, 2) := by decide +kernel
theorem dX9_asItIs_18 : decode cX9_asItIs 18 = .ok (.putfield 238, 3) := by decide +kernel
theorem dX9_asItIs_21 : decode cX9_asItIs 21 = .ok (.aload_n 0, 1) := by decide +kernel
theorem dX9_asItIs_22 : decode cX9_asItIs 22 = .ok (.iconst (-1), 1) := by decide +kernel
theorem dX9_asItIs_23 : decode cX9_asItIs 23 = .ok (.putfield 241, 3) := by decide +kernel
theorem dX9_asItIs_26 : decode cX9_asItIs 26 = .ok (.iconst 0, 1) := by decide +kernel
theorem dX9_asItIs_27 : decode cX9_asItIs 27 = .ok (.istore_n 1, 1) := by decide +kernel
theorem dX9_asItIs_28 : decode cX9_asItIs 28 = .ok (.iload_n 1, 1) := by decide +kernel
theorem dX9_asItIs_29 : decode cX9_asItIs 29 = .ok (.bipush 8, 2) := by decide +kernel
theorem dX9_asItIs_31 : decode cX9_asItIs 31 = .ok (.if_icmp .ge 24, 3) := by decide +kernel
theorem dX9_asItIs_34 : decode cX9_asItIs 34 = .ok (.aload_n 0, 1) := by decide +kernel
theorem dX9_asItIs_35 : decode cX9_asItIs 35 = .ok (.getfield 37, 3) := by decide +kernel
theorem dX9_asItIs_38 : decode cX9_asItIs 38 = .ok (.iload_n 1, 1) := by decide +kernel
theorem dX9_asItIs_39 : decode cX9_asItIs 39 = .ok (.aload_n 0, 1) := by decide +kernel
theorem dX9_asItIs_40 : decode cX9_asItIs 40 = .ok (.getfield 9, 3) := by decide +kernel
theorem dX9_asItIs_43 : decode cX9_asItIs 43 = .ok (.bipush 7, 2) := by decide +kernel
theorem dX9_asItIs_45 : decode cX9_asItIs 45 = .ok (.iload_n 1, 1) := by decide +kernel
theorem dX9_asItIs_46 : decode cX9_asItIs 46 = .ok (.iadd, 1) := by decide +kernel
theorem dX9_asItIs_47 : decode cX9_asItIs 47 = .ok (.iaload, 1) := by decide +kernel
theorem dX9_asItIs_48 : decode cX9_asItIs 48 = .ok (.iastore, 1) := by decide +kernel
theorem dX9_asItIs_49 : decode cX9_asItIs 49 = .ok (.iinc 1 1, 3) := by decide +kernel
theorem dX9_asItIs_52 : decode cX9_asItIs 52 = .ok (.goto (-24), 3) := by decide +kernel
theorem dX9_asItIs_55 : decode cX9_asItIs 55 = .ok (.iconst 0, 1) := by decide +kernel
theorem dX9_asItIs_56 : decode cX9_asItIs 56 = .ok (.istore_n 1, 1) := by decide +kernel
theorem dX9_asItIs_57 : decode cX9_asItIs 57 = .ok (.iload_n 1, 1) := by decide +kernel
theorem dX9_asItIs_58 : decode cX9_asItIs 58 = .ok (.bipush 6, 2) := by decide +kernel
theorem dX9_asItIs_60 : decode cX9_asItIs 60 = .ok (.if_icmp .ge 28, 3) := by decide +kernel
theorem dX9_asItIs_63 : decode cX9_asItIs 63 = .ok (.aload_n 0, 1) := by decide +kernel
theorem dX9_asItIs_64 : decode cX9_asItIs 64 = .ok (.getfield 40, 3) := by decide +kernel
theorem dX9_asItIs_67 : decode cX9_asItIs 67 = .ok (.iload_n 1, 1) := by decide +kernel
theorem dX9_asItIs_68 : decode cX9_asItIs 68 = .ok (.aload_n 0, 1) := by decide +kernel
theorem dX9_asItIs_69 : decode cX9_asItIs 69 = .ok (.getfield 9, 3) := by decide +kernel
theorem dX9_asItIs_72 : decode cX9_asItIs 72 = .ok (.bipush 15, 2) := by decide +kernel
theorem dX9_asItIs_74 : decode cX9_asItIs 74 = .ok (.iconst 2, 1) := by decide +kernel
theorem dX9_asItIs_75 : decode cX9_asItIs 75 = .ok (.iload_n 1, 1) := by decide +kernel
theorem dX9_asItIs_76 : decode cX9_asItIs 76 = .ok (.imul, 1) := by decide +kernel
theorem dX9_asItIs_77 : decode cX9_asItIs 77 = .ok (.iadd, 1) := by decide +kernel
theorem dX9_asItIs_78 : decode cX9_asItIs 78 = .ok (.iconst 1, 1) := by decide +kernel
theorem dX9_asItIs_79 : decode cX9_asItIs 79 = .ok (.iadd, 1) := by decide +kernel
theorem dX9_asItIs_80 : decode cX9_asItIs 80 = .ok (.iaload, 1) := by decide +kernel
theorem dX9_asItIs_81 : decode cX9_asItIs 81 = .ok (.iastore, 1) := by decide +kernel
theorem dX9_asItIs_82 : decode cX9_asItIs 82 = .ok (.iinc 1 1, 3) := by decide +kernel
theorem dX9_asItIs_85 : decode cX9_asItIs 85 = .ok (.goto (-28), 3) := by decide +kernel
theorem dX9_asItIs_88 : decode cX9_asItIs 88 = .ok (.return_, 1) := by decide +kernel
theorem dX9_ask_0 : decode cX9_ask 0 = .ok (.aload_n 0, 1) := by decide +kernel
theorem dX9_ask_1 : decode cX9_ask 1 = .ok (.iload_n 1, 1) := by decide +kernel
theorem dX9_ask_2 : decode cX9_ask 2 = .ok (.iload_n 2, 1) := by decide +kernel
theorem dX9_ask_3 : decode cX9_ask 3 = .ok (.invokevirtual 378, 3) := by decide +kernel
theorem dX9_ask_6 : decode cX9_ask 6 = .ok (.istore_n 3, 1) := by decide +kernel
theorem dX9_ask_7 : decode cX9_ask 7 = .ok (.iload_n 3, 1) := by decide +kernel
theorem dX9_ask_8 : decode cX9_ask 8 = .ok (.ifCond .ge 7, 3) := by decide +kernel
theorem dX9_ask_11 : decode cX9_ask 11 = .ok (.iload_n 3, 1) := by decide +kernel
theorem dX9_ask_12 : decode cX9_ask 12 = .ok (.goto 7, 3) := by decide +kernel
theorem dX9_ask_15 : decode cX9_ask 15 = .ok (.aload_n 0, 1) := by decide +kernel
theorem dX9_ask_16 : decode cX9_ask 16 = .ok (.invokevirtual 387, 3) := by decide +kernel
theorem dX9_ask_19 : decode cX9_ask 19 = .ok (.ireturn, 1) := by decide +kernel
theorem dX9_askOf_0 : decode cX9_askOf 0 = .ok (.aload_n 0, 1) := by decide +kernel
theorem dX9_askOf_1 : decode cX9_askOf 1 = .ok (.aload_n 0, 1) := by decide +kernel
theorem dX9_askOf_2 : decode cX9_askOf 2 = .ok (.getfield 372, 3) := by decide +kernel
theorem dX9_askOf_5 : decode cX9_askOf 5 = .ok (.putfield 381, 3) := by decide +kernel
theorem dX9_askOf_8 : decode cX9_askOf 8 = .ok (.iconst (-1), 1) := by decide +kernel
theorem dX9_askOf_9 : decode cX9_askOf 9 = .ok (.istore_n 1, 1) := by decide +kernel
theorem dX9_askOf_10 : decode cX9_askOf 10 = .ok (.iconst 0, 1) := by decide +kernel
theorem dX9_askOf_11 : decode cX9_askOf 11 = .ok (.istore_n 2, 1) := by decide +kernel
theorem dX9_askOf_12 : decode cX9_askOf 12 = .ok (.iload_n 2, 1) := by decide +kernel
theorem dX9_askOf_13 : decode cX9_askOf 13 = .ok (.aload_n 0, 1) := by decide +kernel
theorem dX9_askOf_14 : decode cX9_askOf 14 = .ok (.invokevirtual 93, 3) := by decide +kernel
theorem dX9_askOf_17 : decode cX9_askOf 17 = .ok (.if_icmp .gt 33, 3) := by decide +kernel
theorem dX9_askOf_20 : decode cX9_askOf 20 = .ok (.aload_n 0, 1) := by decide +kernel
theorem dX9_askOf_21 : decode cX9_askOf 21 = .ok (.iload_n 2, 1) := by decide +kernel
theorem dX9_askOf_22 : decode cX9_askOf 22 = .ok (.invokevirtual 384, 3) := by decide +kernel
theorem dX9_askOf_25 : decode cX9_askOf 25 = .ok (.istore_n 3, 1) := by decide +kernel
theorem dX9_askOf_26 : decode cX9_askOf 26 = .ok (.iload_n 3, 1) := by decide +kernel
theorem dX9_askOf_27 : decode cX9_askOf 27 = .ok (.aload_n 0, 1) := by decide +kernel
theorem dX9_askOf_28 : decode cX9_askOf 28 = .ok (.getfield 381, 3) := by decide +kernel
theorem dX9_askOf_31 : decode cX9_askOf 31 = .ok (.if_icmp .lt 6, 3) := by decide +kernel
theorem dX9_askOf_34 : decode cX9_askOf 34 = .ok (.goto 10, 3) := by decide +kernel
theorem dX9_askOf_37 : decode cX9_askOf 37 = .ok (.aload_n 0, 1) := by decide +kernel
theorem dX9_askOf_38 : decode cX9_askOf 38 = .ok (.iload_n 3, 1) := by decide +kernel
theorem dX9_askOf_39 : decode cX9_askOf 39 = .ok (.putfield 381, 3) := by decide +kernel
theorem dX9_askOf_42 : decode cX9_askOf 42 = .ok (.iload_n 2, 1) := by decide +kernel
theorem dX9_askOf_43 : decode cX9_askOf 43 = .ok (.istore_n 1, 1) := by decide +kernel
theorem dX9_askOf_44 : decode cX9_askOf 44 = .ok (.iinc 2 1, 3) := by decide +kernel
theorem dX9_askOf_47 : decode cX9_askOf 47 = .ok (.goto (-35), 3) := by decide +kernel
theorem dX9_askOf_50 : decode cX9_askOf 50 = .ok (.iload_n 1, 1) := by decide +kernel
theorem dX9_askOf_51 : decode cX9_askOf 51 = .ok (.ireturn, 1) := by decide +kernel
theorem dX9_askRow_0 : decode cX9_askRow 0 = .ok (.iload_n 1, 1) := by decide +kernel
theorem dX9_askRow_1 : decode cX9_askRow 1 = .ok (.invokestatic 348, 3) := by decide +kernel
theorem dX9_askRow_4 : decode cX9_askRow 4 = .ok (.ifCond .eq 10, 3) := by decide +kernel
theorem dX9_askRow_7 : decode cX9_askRow 7 = .ok (.aload_n 0, 1) := by decide +kernel
theorem dX9_askRow_8 : decode cX9_askRow 8 = .ok (.invokevirtual 89, 3) := by decide +kernel
theorem dX9_askRow_11 : decode cX9_askRow 11 = .ok (.ifCond .ne 6, 3) := by decide +kernel
theorem dX9_askRow_14 : decode cX9_askRow 14 = .ok (.bipush (-2), 2) := by decide +kernel
theorem dX9_askRow_16 : decode cX9_askRow 16 = .ok (.ireturn, 1) := by decide +kernel
theorem dX9_askRow_17 : decode cX9_askRow 17 = .ok (.aload_n 0, 1) := by decide +kernel
theorem dX9_askRow_18 : decode cX9_askRow 18 = .ok (.getfield 67, 3) := by decide +kernel
theorem dX9_askRow_21 : decode cX9_askRow 21 = .ok (.iload_n 1, 1) := by decide +kernel
theorem dX9_askRow_22 : decode cX9_askRow 22 = .ok (.iaload, 1) := by decide +kernel
theorem dX9_askRow_23 : decode cX9_askRow 23 = .ok (.iconst (-1), 1) := by decide +kernel
theorem dX9_askRow_24 : decode cX9_askRow 24 = .ok (.if_icmp .ne 6, 3) := by decide +kernel
theorem dX9_askRow_27 : decode cX9_askRow 27 = .ok (.bipush (-6), 2) := by decide +kernel
theorem dX9_askRow_29 : decode cX9_askRow 29 = .ok (.ireturn, 1) := by decide +kernel
theorem dX9_askRow_30 : decode cX9_askRow 30 = .ok (.lconst 0, 1) := by decide +kernel
theorem dX9_askRow_31 : decode cX9_askRow 31 = .ok (.lstore_n 2, 1) := by decide +kernel
theorem dX9_askRow_32 : decode cX9_askRow 32 = .ok (.aload_n 0, 1) := by decide +kernel
theorem dX9_askRow_33 : decode cX9_askRow 33 = .ok (.getfield 67, 3) := by decide +kernel
theorem dX9_askRow_36 : decode cX9_askRow 36 = .ok (.iload_n 1, 1) := by decide +kernel
theorem dX9_askRow_37 : decode cX9_askRow 37 = .ok (.iaload, 1) := by decide +kernel
theorem dX9_askRow_38 : decode cX9_askRow 38 = .ok (.ifCond .le 7, 3) := by decide +kernel
theorem dX9_askRow_41 : decode cX9_askRow 41 = .ok (.iconst 1, 1) := by decide +kernel
theorem dX9_askRow_42 : decode cX9_askRow 42 = .ok (.goto 4, 3) := by decide +kernel
theorem dX9_askRow_45 : decode cX9_askRow 45 = .ok (.iconst 0, 1) := by decide +kernel
theorem dX9_askRow_46 : decode cX9_askRow 46 = .ok (.istore 4, 2) := by decide +kernel
theorem dX9_askRow_48 : decode cX9_askRow 48 = .ok (.iconst 0, 1) := by decide +kernel
theorem dX9_askRow_49 : decode cX9_askRow 49 = .ok (.istore 5, 2) := by decide +kernel
theorem dX9_askRow_51 : decode cX9_askRow 51 = .ok (.iload 5, 2) := by decide +kernel
theorem dX9_askRow_53 : decode cX9_askRow 53 = .ok (.aload_n 0, 1) := by decide +kernel
theorem dX9_askRow_54 : decode cX9_askRow 54 = .ok (.getfield 67, 3) := by decide +kernel
theorem dX9_askRow_57 : decode cX9_askRow 57 = .ok (.iload_n 1, 1) := by decide +kernel
theorem dX9_askRow_58 : decode cX9_askRow 58 = .ok (.iaload, 1) := by decide +kernel
theorem dX9_askRow_59 : decode cX9_askRow 59 = .ok (.if_icmp .ge 49, 3) := by decide +kernel
theorem dX9_askRow_62 : decode cX9_askRow 62 = .ok (.iload 4, 2) := by decide +kernel
theorem dX9_askRow_64 : decode cX9_askRow 64 = .ok (.ifCond .eq 44, 3) := by decide +kernel
theorem dX9_askRow_67 : decode cX9_askRow 67 = .ok (.aload_n 0, 1) := by decide +kernel
theorem dX9_askRow_68 : decode cX9_askRow 68 = .ok (.iload_n 1, 1) := by decide +kernel
theorem dX9_askRow_69 : decode cX9_askRow 69 = .ok (.iload 5, 2) := by decide +kernel
theorem dX9_askRow_71 : decode cX9_askRow 71 = .ok (.invokevirtual 351, 3) := by decide +kernel
theorem dX9_askRow_74 : decode cX9_askRow 74 = .ok (.lconst 1, 1) := by decide +kernel
theorem dX9_askRow_75 : decode cX9_askRow 75 = .ok (.ldc2_w 337, 3) := by decide +kernel
theorem dX9_askRow_78 : decode cX9_askRow 78 = .ok (.invokestatic 85, 3) := by decide +kernel
theorem dX9_askRow_81 : decode cX9_askRow 81 = .ok (.istore 4, 2) := by decide +kernel
theorem dX9_askRow_83 : decode cX9_askRow 83 = .ok (.lload_n 2, 1) := by decide +kernel
theorem dX9_askRow_84 : decode cX9_askRow 84 = .ok (.iload 4, 2) := by decide +kernel
theorem dX9_askRow_86 : decode cX9_askRow 86 = .ok (.ifCond .eq 13, 3) := by decide +kernel
theorem dX9_askRow_89 : decode cX9_askRow 89 = .ok (.aload_n 0, 1) := by decide +kernel
theorem dX9_askRow_90 : decode cX9_askRow 90 = .ok (.iload_n 1, 1) := by decide +kernel
theorem dX9_askRow_91 : decode cX9_askRow 91 = .ok (.iload 5, 2) := by decide +kernel
theorem dX9_askRow_93 : decode cX9_askRow 93 = .ok (.invokevirtual 351, 3) := by decide +kernel
theorem dX9_askRow_96 : decode cX9_askRow 96 = .ok (.goto 4, 3) := by decide +kernel
theorem dX9_askRow_99 : decode cX9_askRow 99 = .ok (.lconst 0, 1) := by decide +kernel
theorem dX9_askRow_100 : decode cX9_askRow 100 = .ok (.ladd, 1) := by decide +kernel
theorem dX9_askRow_101 : decode cX9_askRow 101 = .ok (.lstore_n 2, 1) := by decide +kernel
theorem dX9_askRow_102 : decode cX9_askRow 102 = .ok (.iinc 5 1, 3) := by decide +kernel
theorem dX9_askRow_105 : decode cX9_askRow 105 = .ok (.goto (-54), 3) := by decide +kernel
theorem dX9_askRow_108 : decode cX9_askRow 108 = .ok (.iload 4, 2) := by decide +kernel
theorem dX9_askRow_110 : decode cX9_askRow 110 = .ok (.ifCond .eq 11, 3) := by decide +kernel
theorem dX9_askRow_113 : decode cX9_askRow 113 = .ok (.lload_n 2, 1) := by decide +kernel
theorem dX9_askRow_114 : decode cX9_askRow 114 = .ok (.ldc2_w 337, 3) := by decide +kernel
theorem dX9_askRow_117 : decode cX9_askRow 117 = .ok (.lcmp, 1) := by decide +kernel
theorem dX9_askRow_118 : decode cX9_askRow 118 = .ok (.ifCond .le 6, 3) := by decide +kernel
theorem dX9_askRow_121 : decode cX9_askRow 121 = .ok (.bipush (-2), 2) := by decide +kernel
theorem dX9_askRow_123 : decode cX9_askRow 123 = .ok (.ireturn, 1) := by decide +kernel
theorem dX9_askRow_124 : decode cX9_askRow 124 = .ok (.aload_n 0, 1) := by decide +kernel
theorem dX9_askRow_125 : decode cX9_askRow 125 = .ok (.lload_n 2, 1) := by decide +kernel
theorem dX9_askRow_126 : decode cX9_askRow 126 = .ok (.l2i, 1) := by decide +kernel
theorem dX9_askRow_127 : decode cX9_askRow 127 = .ok (.invokevirtual 342, 3) := by decide +kernel
theorem dX9_askRow_130 : decode cX9_askRow 130 = .ok (.pop, 1) := by decide +kernel
theorem dX9_askRow_131 : decode cX9_askRow 131 = .ok (.aload_n 0, 1) := by decide +kernel
theorem dX9_askRow_132 : decode cX9_askRow 132 = .ok (.bipush 19, 2) := by decide +kernel
theorem dX9_askRow_134 : decode cX9_askRow 134 = .ok (.invokevirtual 229, 3) := by decide +kernel
theorem dX9_askRow_137 : decode cX9_askRow 137 = .ok (.iconst 0, 1) := by decide +kernel
theorem dX9_askRow_138 : decode cX9_askRow 138 = .ok (.istore 5, 2) := by decide +kernel
theorem dX9_askRow_140 : decode cX9_askRow 140 = .ok (.iload 5, 2) := by decide +kernel
theorem dX9_askRow_142 : decode cX9_askRow 142 = .ok (.aload_n 0, 1) := by decide +kernel
theorem dX9_askRow_143 : decode cX9_askRow 143 = .ok (.getfield 67, 3) := by decide +kernel
theorem dX9_askRow_146 : decode cX9_askRow 146 = .ok (.iload_n 1, 1) := by decide +kernel
theorem dX9_askRow_147 : decode cX9_askRow 147 = .ok (.iaload, 1) := by decide +kernel
theorem dX9_askRow_148 : decode cX9_askRow 148 = .ok (.if_icmp .ge 23, 3) := by decide +kernel
theorem dX9_askRow_151 : decode cX9_askRow 151 = .ok (.aload_n 0, 1) := by decide +kernel
theorem dX9_askRow_152 : decode cX9_askRow 152 = .ok (.bipush 19, 2) := by decide +kernel
theorem dX9_askRow_154 : decode cX9_askRow 154 = .ok (.aload_n 0, 1) := by decide +kernel
theorem dX9_askRow_155 : decode cX9_askRow 155 = .ok (.iload_n 1, 1) := by decide +kernel
theorem dX9_askRow_156 : decode cX9_askRow 156 = .ok (.iload 5, 2) := by decide +kernel
theorem dX9_askRow_158 : decode cX9_askRow 158 = .ok (.invokevirtual 351, 3) := by decide +kernel
theorem dX9_askRow_161 : decode cX9_askRow 161 = .ok (.l2i, 1) := by decide +kernel
theorem dX9_askRow_162 : decode cX9_askRow 162 = .ok (.invokevirtual 232, 3) := by decide +kernel
theorem dX9_askRow_165 : decode cX9_askRow 165 = .ok (.iinc 5 1, 3) := by decide +kernel
theorem dX9_askRow_168 : decode cX9_askRow 168 = .ok (.goto (-28), 3) := by decide +kernel
theorem dX9_askRow_171 : decode cX9_askRow 171 = .ok (.aload_n 0, 1) := by decide +kernel
theorem dX9_askRow_172 : decode cX9_askRow 172 = .ok (.aload_n 0, 1) := by decide +kernel
theorem dX9_askRow_173 : decode cX9_askRow 173 = .ok (.bipush 19, 2) := by decide +kernel
theorem dX9_askRow_175 : decode cX9_askRow 175 = .ok (.invokevirtual 328, 3) := by decide +kernel
theorem dX9_askRow_178 : decode cX9_askRow 178 = .ok (.putfield 355, 3) := by decide +kernel
theorem dX9_askRow_181 : decode cX9_askRow 181 = .ok (.iconst 0, 1) := by decide +kernel
theorem dX9_askRow_182 : decode cX9_askRow 182 = .ok (.ireturn, 1) := by decide +kernel
theorem dX9_askSeen_0 : decode cX9_askSeen 0 = .ok (.iload_n 1, 1) := by decide +kernel
theorem dX9_askSeen_1 : decode cX9_askSeen 1 = .ok (.invokestatic 348, 3) := by decide +kernel
theorem dX9_askSeen_4 : decode cX9_askSeen 4 = .ok (.ifCond .eq 10, 3) := by decide +kernel
theorem dX9_askSeen_7 : decode cX9_askSeen 7 = .ok (.aload_n 0, 1) := by decide +kernel
theorem dX9_askSeen_8 : decode cX9_askSeen 8 = .ok (.invokevirtual 89, 3) := by decide +kernel
theorem dX9_askSeen_11 : decode cX9_askSeen 11 = .ok (.ifCond .ne 6, 3) := by decide +kernel
theorem dX9_askSeen_14 : decode cX9_askSeen 14 = .ok (.bipush (-2), 2) := by decide +kernel
theorem dX9_askSeen_16 : decode cX9_askSeen 16 = .ok (.ireturn, 1) := by decide +kernel
theorem dX9_askSeen_17 : decode cX9_askSeen 17 = .ok (.aload_n 0, 1) := by decide +kernel
theorem dX9_askSeen_18 : decode cX9_askSeen 18 = .ok (.getfield 67, 3) := by decide +kernel
theorem dX9_askSeen_21 : decode cX9_askSeen 21 = .ok (.iload_n 1, 1) := by decide +kernel
theorem dX9_askSeen_22 : decode cX9_askSeen 22 = .ok (.iaload, 1) := by decide +kernel
theorem dX9_askSeen_23 : decode cX9_askSeen 23 = .ok (.iconst (-1), 1) := by decide +kernel
theorem dX9_askSeen_24 : decode cX9_askSeen 24 = .ok (.if_icmp .ne 6, 3) := by decide +kernel
theorem dX9_askSeen_27 : decode cX9_askSeen 27 = .ok (.bipush (-6), 2) := by decide +kernel
theorem dX9_askSeen_29 : decode cX9_askSeen 29 = .ok (.ireturn, 1) := by decide +kernel
theorem dX9_askSeen_30 : decode cX9_askSeen 30 = .ok (.aload_n 0, 1) := by decide +kernel
theorem dX9_askSeen_31 : decode cX9_askSeen 31 = .ok (.getfield 67, 3) := by decide +kernel
theorem dX9_askSeen_34 : decode cX9_askSeen 34 = .ok (.iload_n 1, 1) := by decide +kernel
theorem dX9_askSeen_35 : decode cX9_askSeen 35 = .ok (.iaload, 1) := by decide +kernel
theorem dX9_askSeen_36 : decode cX9_askSeen 36 = .ok (.iconst 3, 1) := by decide +kernel
theorem dX9_askSeen_37 : decode cX9_askSeen 37 = .ok (.irem, 1) := by decide +kernel
theorem dX9_askSeen_38 : decode cX9_askSeen 38 = .ok (.ifCond .eq 6, 3) := by decide +kernel
theorem dX9_askSeen_41 : decode cX9_askSeen 41 = .ok (.bipush (-2), 2) := by decide +kernel
theorem dX9_askSeen_43 : decode cX9_askSeen 43 = .ok (.ireturn, 1) := by decide +kernel
theorem dX9_askSeen_44 : decode cX9_askSeen 44 = .ok (.iconst 0, 1) := by decide +kernel
theorem dX9_askSeen_45 : decode cX9_askSeen 45 = .ok (.istore_n 2, 1) := by decide +kernel
theorem dX9_askSeen_46 : decode cX9_askSeen 46 = .ok (.iload_n 2, 1) := by decide +kernel
theorem dX9_askSeen_47 : decode cX9_askSeen 47 = .ok (.aload_n 0, 1) := by decide +kernel
theorem dX9_askSeen_48 : decode cX9_askSeen 48 = .ok (.getfield 67, 3) := by decide +kernel
theorem dX9_askSeen_51 : decode cX9_askSeen 51 = .ok (.iload_n 1, 1) := by decide +kernel
theorem dX9_askSeen_52 : decode cX9_askSeen 52 = .ok (.iaload, 1) := by decide +kernel
theorem dX9_askSeen_53 : decode cX9_askSeen 53 = .ok (.if_icmp .ge 61, 3) := by decide +kernel
theorem dX9_askSeen_56 : decode cX9_askSeen 56 = .ok (.aload_n 0, 1) := by decide +kernel
theorem dX9_askSeen_57 : decode cX9_askSeen 57 = .ok (.aload_n 0, 1) := by decide +kernel
theorem dX9_askSeen_58 : decode cX9_askSeen 58 = .ok (.iload_n 1, 1) := by decide +kernel
theorem dX9_askSeen_59 : decode cX9_askSeen 59 = .ok (.iload_n 2, 1) := by decide +kernel
theorem dX9_askSeen_60 : decode cX9_askSeen 60 = .ok (.invokevirtual 351, 3) := by decide +kernel
theorem dX9_askSeen_63 : decode cX9_askSeen 63 = .ok (.invokevirtual 268, 3) := by decide +kernel
theorem dX9_askSeen_66 : decode cX9_askSeen 66 = .ok (.ifCond .eq 39, 3) := by decide +kernel
theorem dX9_askSeen_69 : decode cX9_askSeen 69 = .ok (.aload_n 0, 1) := by decide +kernel
theorem dX9_askSeen_70 : decode cX9_askSeen 70 = .ok (.iload_n 1, 1) := by decide +kernel
theorem dX9_askSeen_71 : decode cX9_askSeen 71 = .ok (.iload_n 2, 1) := by decide +kernel
theorem dX9_askSeen_72 : decode cX9_askSeen 72 = .ok (.iconst 1, 1) := by decide +kernel
theorem dX9_askSeen_73 : decode cX9_askSeen 73 = .ok (.iadd, 1) := by decide +kernel
theorem dX9_askSeen_74 : decode cX9_askSeen 74 = .ok (.invokevirtual 351, 3) := by decide +kernel
theorem dX9_askSeen_77 : decode cX9_askSeen 77 = .ok (.lconst 0, 1) := by decide +kernel
theorem dX9_askSeen_78 : decode cX9_askSeen 78 = .ok (.ldc2_w 278, 3) := by decide +kernel
theorem dX9_askSeen_81 : decode cX9_askSeen 81 = .ok (.invokestatic 85, 3) := by decide +kernel
theorem dX9_askSeen_84 : decode cX9_askSeen 84 = .ok (.ifCond .eq 21, 3) := by decide +kernel
theorem dX9_askSeen_87 : decode cX9_askSeen 87 = .ok (.aload_n 0, 1) := by decide +kernel
theorem dX9_askSeen_88 : decode cX9_askSeen 88 = .ok (.iload_n 1, 1) := by decide +kernel
theorem dX9_askSeen_89 : decode cX9_askSeen 89 = .ok (.iload_n 2, 1) := by decide +kernel
theorem dX9_askSeen_90 : decode cX9_askSeen 90 = .ok (.iconst 2, 1) := by decide +kernel
theorem dX9_askSeen_91 : decode cX9_askSeen 91 = .ok (.iadd, 1) := by decide +kernel
theorem dX9_askSeen_92 : decode cX9_askSeen 92 = .ok (.invokevirtual 351, 3) := by decide +kernel
theorem dX9_askSeen_95 : decode cX9_askSeen 95 = .ok (.lconst 0, 1) := by decide +kernel
theorem dX9_askSeen_96 : decode cX9_askSeen 96 = .ok (.ldc2_w 278, 3) := by decide +kernel
theorem dX9_askSeen_99 : decode cX9_askSeen 99 = .ok (.invokestatic 85, 3) := by decide +kernel
theorem dX9_askSeen_102 : decode cX9_askSeen 102 = .ok (.ifCond .ne 6, 3) := by decide +kernel
theorem dX9_askSeen_105 : decode cX9_askSeen 105 = .ok (.bipush (-2), 2) := by decide +kernel
theorem dX9_askSeen_107 : decode cX9_askSeen 107 = .ok (.ireturn, 1) := by decide +kernel
theorem dX9_askSeen_108 : decode cX9_askSeen 108 = .ok (.iinc 2 3, 3) := by decide +kernel
theorem dX9_askSeen_111 : decode cX9_askSeen 111 = .ok (.goto (-65), 3) := by decide +kernel
theorem dX9_askSeen_114 : decode cX9_askSeen 114 = .ok (.aload_n 0, 1) := by decide +kernel
theorem dX9_askSeen_115 : decode cX9_askSeen 115 = .ok (.invokevirtual 259, 3) := by decide +kernel
theorem dX9_askSeen_118 : decode cX9_askSeen 118 = .ok (.iconst 0, 1) := by decide +kernel
theorem dX9_askSeen_119 : decode cX9_askSeen 119 = .ok (.ireturn, 1) := by decide +kernel
theorem dX9_asksAll_0 : decode cX9_asksAll 0 = .ok (.aload_n 0, 1) := by decide +kernel
theorem dX9_asksAll_1 : decode cX9_asksAll 1 = .ok (.invokevirtual 259, 3) := by decide +kernel
theorem dX9_asksAll_4 : decode cX9_asksAll 4 = .ok (.aload_n 0, 1) := by decide +kernel
theorem dX9_asksAll_5 : decode cX9_asksAll 5 = .ok (.invokevirtual 89, 3) := by decide +kernel
theorem dX9_asksAll_8 : decode cX9_asksAll 8 = .ok (.ifCond .eq 15, 3) := by decide +kernel
theorem dX9_asksAll_11 : decode cX9_asksAll 11 = .ok (.iload_n 1, 1) := by decide +kernel
theorem dX9_asksAll_12 : decode cX9_asksAll 12 = .ok (.i2l, 1) := by decide +kernel
theorem dX9_asksAll_13 : decode cX9_asksAll 13 = .ok (.lconst 1, 1) := by decide +kernel
theorem dX9_asksAll_14 : decode cX9_asksAll 14 = .ok (.ldc2_w 337, 3) := by decide +kernel
theorem dX9_asksAll_17 : decode cX9_asksAll 17 = .ok (.invokestatic 85, 3) := by decide +kernel
theorem dX9_asksAll_20 : decode cX9_asksAll 20 = .ok (.ifCond .ne 5, 3) := by decide +kernel
theorem dX9_asksAll_23 : decode cX9_asksAll 23 = .ok (.iconst 0, 1) := by decide +kernel
theorem dX9_asksAll_24 : decode cX9_asksAll 24 = .ok (.ireturn, 1) := by decide +kernel
theorem dX9_asksAll_25 : decode cX9_asksAll 25 = .ok (.aload_n 0, 1) := by decide +kernel
theorem dX9_asksAll_26 : decode cX9_asksAll 26 = .ok (.iload_n 1, 1) := by decide +kernel
theorem dX9_asksAll_27 : decode cX9_asksAll 27 = .ok (.invokevirtual 339, 3) := by decide +kernel
theorem dX9_asksAll_30 : decode cX9_asksAll 30 = .ok (.iconst 1, 1) := by decide +kernel
theorem dX9_asksAll_31 : decode cX9_asksAll 31 = .ok (.ireturn, 1) := by decide +kernel
theorem dX9_asksDay_0 : decode cX9_asksDay 0 = .ok (.aload_n 0, 1) := by decide +kernel
theorem dX9_asksDay_1 : decode cX9_asksDay 1 = .ok (.invokevirtual 265, 3) := by decide +kernel
theorem dX9_asksDay_4 : decode cX9_asksDay 4 = .ok (.pop, 1) := by decide +kernel
theorem dX9_asksDay_5 : decode cX9_asksDay 5 = .ok (.aload_n 0, 1) := by decide +kernel
theorem dX9_asksDay_6 : decode cX9_asksDay 6 = .ok (.iload_n 1, 1) := by decide +kernel
theorem dX9_asksDay_7 : decode cX9_asksDay 7 = .ok (.i2l, 1) := by decide +kernel
theorem dX9_asksDay_8 : decode cX9_asksDay 8 = .ok (.invokevirtual 268, 3) := by decide +kernel
theorem dX9_asksDay_11 : decode cX9_asksDay 11 = .ok (.ireturn, 1) := by decide +kernel
theorem dX9_asksMoor_0 : decode cX9_asksMoor 0 = .ok (.aload_n 0, 1) := by decide +kernel
theorem dX9_asksMoor_1 : decode cX9_asksMoor 1 = .ok (.invokevirtual 259, 3) := by decide +kernel
theorem dX9_asksMoor_4 : decode cX9_asksMoor 4 = .ok (.aload_n 0, 1) := by decide +kernel
theorem dX9_asksMoor_5 : decode cX9_asksMoor 5 = .ok (.invokevirtual 262, 3) := by decide +kernel
theorem dX9_asksMoor_8 : decode cX9_asksMoor 8 = .ok (.aload_n 0, 1) := by decide +kernel
theorem dX9_asksMoor_9 : decode cX9_asksMoor 9 = .ok (.invokevirtual 89, 3) := by decide +kernel
theorem dX9_asksMoor_12 : decode cX9_asksMoor 12 = .ok (.ireturn, 1) := by decide +kernel
theorem dX9_asksTaking_0 : decode cX9_asksTaking 0 = .ok (.aload_n 0, 1) := by decide +kernel
theorem dX9_asksTaking_1 : decode cX9_asksTaking 1 = .ok (.iload_n 1, 1) := by decide +kernel
theorem dX9_asksTaking_2 : decode cX9_asksTaking 2 = .ok (.invokevirtual 272, 3) := by decide +kernel
theorem dX9_asksTaking_5 : decode cX9_asksTaking 5 = .ok (.ifCond .eq 19, 3) := by decide +kernel
theorem dX9_asksTaking_8 : decode cX9_asksTaking 8 = .ok (.iload_n 2, 1) := by decide +kernel
theorem dX9_asksTaking_9 : decode cX9_asksTaking 9 = .ok (.i2l, 1) := by decide +kernel
theorem dX9_asksTaking_10 : decode cX9_asksTaking 10 = .ok (.lconst 1, 1) := by decide +kernel
theorem dX9_asksTaking_11 : decode cX9_asksTaking 11 = .ok (.ldc2_w 278, 3) := by decide +kernel
theorem dX9_asksTaking_14 : decode cX9_asksTaking 14 = .ok (.invokestatic 85, 3) := by decide +kernel
theorem dX9_asksTaking_17 : decode cX9_asksTaking 17 = .ok (.ifCond .eq 7, 3) := by decide +kernel
theorem dX9_asksTaking_20 : decode cX9_asksTaking 20 = .ok (.iconst 1, 1) := by decide +kernel
theorem dX9_asksTaking_21 : decode cX9_asksTaking 21 = .ok (.goto 4, 3) := by decide +kernel
theorem dX9_asksTaking_24 : decode cX9_asksTaking 24 = .ok (.iconst 0, 1) := by decide +kernel
theorem dX9_asksTaking_25 : decode cX9_asksTaking 25 = .ok (.ireturn, 1) := by decide +kernel
theorem dX9_away_0 : decode cX9_away 0 = .ok (.aload_n 0, 1) := by decide +kernel
theorem dX9_away_1 : decode cX9_away 1 = .ok (.iload_n 1, 1) := by decide +kernel
theorem dX9_away_2 : decode cX9_away 2 = .ok (.i2l, 1) := by decide +kernel
theorem dX9_away_3 : decode cX9_away 3 = .ok (.invokevirtual 268, 3) := by decide +kernel
theorem dX9_away_6 : decode cX9_away 6 = .ok (.ifCond .eq 11, 3) := by decide +kernel
theorem dX9_away_9 : decode cX9_away 9 = .ok (.aload_n 0, 1) := by decide +kernel
theorem dX9_away_10 : decode cX9_away 10 = .ok (.iload_n 1, 1) := by decide +kernel
theorem dX9_away_11 : decode cX9_away 11 = .ok (.invokevirtual 456, 3) := by decide +kernel
theorem dX9_away_14 : decode cX9_away 14 = .ok (.goto 5, 3) := by decide +kernel
theorem dX9_away_17 : decode cX9_away 17 = .ok (.bipush (-2), 2) := by decide +kernel
theorem dX9_away_19 : decode cX9_away 19 = .ok (.ireturn, 1) := by decide +kernel
theorem dX9_back_0 : decode cX9_back 0 = .ok (.iload_n 1, 1) := by decide +kernel
theorem dX9_back_1 : decode cX9_back 1 = .ok (.i2l, 1) := by decide +kernel
theorem dX9_back_2 : decode cX9_back 2 = .ok (.lconst 0, 1) := by decide +kernel
theorem dX9_back_3 : decode cX9_back 3 = .ok (.ldc2_w 83, 3) := by decide +kernel
theorem dX9_back_6 : decode cX9_back 6 = .ok (.invokestatic 85, 3) := by decide +kernel
theorem dX9_back_9 : decode cX9_back 9 = .ok (.ifCond .ne 6, 3) := by decide +kernel
theorem dX9_back_12 : decode cX9_back 12 = .ok (.bipush (-2), 2) := by decide +kernel
theorem dX9_back_14 : decode cX9_back 14 = .ok (.ireturn, 1) := by decide +kernel
theorem dX9_back_15 : decode cX9_back 15 = .ok (.aload_n 0, 1) := by decide +kernel
theorem dX9_back_16 : decode cX9_back 16 = .ok (.getfield 16, 3) := by decide +kernel
theorem dX9_back_19 : decode cX9_back 19 = .ok (.iload_n 1, 1) := by decide +kernel
theorem dX9_back_20 : decode cX9_back 20 = .ok (.baload, 1) := by decide +kernel
theorem dX9_back_21 : decode cX9_back 21 = .ok (.ifCond .ne 6, 3) := by decide +kernel
theorem dX9_back_24 : decode cX9_back 24 = .ok (.bipush (-6), 2) := by decide +kernel
theorem dX9_back_26 : decode cX9_back 26 = .ok (.ireturn, 1) := by decide +kernel
theorem dX9_back_27 : decode cX9_back 27 = .ok (.iconst 0, 1) := by decide +kernel
theorem dX9_back_28 : decode cX9_back 28 = .ok (.istore_n 2, 1) := by decide +kernel
theorem dX9_back_29 : decode cX9_back 29 = .ok (.iload_n 2, 1) := by decide +kernel
theorem dX9_back_30 : decode cX9_back 30 = .ok (.bipush 47, 2) := by decide +kernel
theorem dX9_back_32 : decode cX9_back 32 = .ok (.if_icmp .ge 26, 3) := by decide +kernel
theorem dX9_back_35 : decode cX9_back 35 = .ok (.aload_n 0, 1) := by decide +kernel
theorem dX9_back_36 : decode cX9_back 36 = .ok (.getfield 9, 3) := by decide +kernel
theorem dX9_back_39 : decode cX9_back 39 = .ok (.iload_n 2, 1) := by decide +kernel
theorem dX9_back_40 : decode cX9_back 40 = .ok (.aload_n 0, 1) := by decide +kernel
theorem dX9_back_41 : decode cX9_back 41 = .ok (.getfield 13, 3) := by decide +kernel
theorem dX9_back_44 : decode cX9_back 44 = .ok (.bipush 47, 2) := by decide +kernel
theorem dX9_back_46 : decode cX9_back 46 = .ok (.iload_n 1, 1) := by decide +kernel
theorem dX9_back_47 : decode cX9_back 47 = .ok (.imul, 1) := by decide +kernel
theorem dX9_back_48 : decode cX9_back 48 = .ok (.iload_n 2, 1) := by decide +kernel
theorem dX9_back_49 : decode cX9_back 49 = .ok (.iadd, 1) := by decide +kernel
theorem dX9_back_50 : decode cX9_back 50 = .ok (.iaload, 1) := by decide +kernel
theorem dX9_back_51 : decode cX9_back 51 = .ok (.iastore, 1) := by decide +kernel
theorem dX9_back_52 : decode cX9_back 52 = .ok (.iinc 2 1, 3) := by decide +kernel
theorem dX9_back_55 : decode cX9_back 55 = .ok (.goto (-26), 3) := by decide +kernel
theorem dX9_back_58 : decode cX9_back 58 = .ok (.iconst 0, 1) := by decide +kernel
theorem dX9_back_59 : decode cX9_back 59 = .ok (.ireturn, 1) := by decide +kernel
theorem dX9_beginDay_0 : decode cX9_beginDay 0 = .ok (.iconst 0, 1) := by decide +kernel
theorem dX9_beginDay_1 : decode cX9_beginDay 1 = .ok (.istore_n 2, 1) := by decide +kernel
theorem dX9_beginDay_2 : decode cX9_beginDay 2 = .ok (.iload_n 2, 1) := by decide +kernel
theorem dX9_beginDay_3 : decode cX9_beginDay 3 = .ok (.aload_n 0, 1) := by decide +kernel
theorem dX9_beginDay_4 : decode cX9_beginDay 4 = .ok (.invokevirtual 97, 3) := by decide +kernel
theorem dX9_beginDay_7 : decode cX9_beginDay 7 = .ok (.if_icmp .ge 48, 3) := by decide +kernel
theorem dX9_beginDay_10 : decode cX9_beginDay 10 = .ok (.aload_n 0, 1) := by decide +kernel
theorem dX9_beginDay_11 : decode cX9_beginDay 11 = .ok (.getfield 40, 3) := by decide +kernel
theorem dX9_beginDay_14 : decode cX9_beginDay 14 = .ok (.iload_n 2, 1) := by decide +kernel
theorem dX9_beginDay_15 : decode cX9_beginDay 15 = .ok (.iaload, 1) := by decide +kernel
theorem dX9_beginDay_16 : decode cX9_beginDay 16 = .ok (.iload_n 1, 1) := by decide +kernel
theorem dX9_beginDay_17 : decode cX9_beginDay 17 = .ok (.if_icmp .ne 32, 3) := by decide +kernel
theorem dX9_beginDay_20 : decode cX9_beginDay 20 = .ok (.aload_n 0, 1) := by decide +kernel
theorem dX9_beginDay_21 : decode cX9_beginDay 21 = .ok (.getfield 238, 3) := by decide +kernel
theorem dX9_beginDay_24 : decode cX9_beginDay 24 = .ok (.iload_n 2, 1) := by decide +kernel
theorem dX9_beginDay_25 : decode cX9_beginDay 25 = .ok (.invokestatic 244, 3) := by decide +kernel
theorem dX9_beginDay_28 : decode cX9_beginDay 28 = .ok (.iconst 1, 1) := by decide +kernel
theorem dX9_beginDay_29 : decode cX9_beginDay 29 = .ok (.if_icmp .ne 20, 3) := by decide +kernel
theorem dX9_beginDay_32 : decode cX9_beginDay 32 = .ok (.aload_n 0, 1) := by decide +kernel
theorem dX9_beginDay_33 : decode cX9_beginDay 33 = .ok (.bipush 17, 2) := by decide +kernel
theorem dX9_beginDay_35 : decode cX9_beginDay 35 = .ok (.aload_n 0, 1) := by decide +kernel
theorem dX9_beginDay_36 : decode cX9_beginDay 36 = .ok (.getfield 9, 3) := by decide +kernel
theorem dX9_beginDay_39 : decode cX9_beginDay 39 = .ok (.bipush 15, 2) := by decide +kernel
theorem dX9_beginDay_41 : decode cX9_beginDay 41 = .ok (.iconst 2, 1) := by decide +kernel
theorem dX9_beginDay_42 : decode cX9_beginDay 42 = .ok (.iload_n 2, 1) := by decide +kernel
theorem dX9_beginDay_43 : decode cX9_beginDay 43 = .ok (.imul, 1) := by decide +kernel
theorem dX9_beginDay_44 : decode cX9_beginDay 44 = .ok (.iadd, 1) := by decide +kernel
theorem dX9_beginDay_45 : decode cX9_beginDay 45 = .ok (.iaload, 1) := by decide +kernel
theorem dX9_beginDay_46 : decode cX9_beginDay 46 = .ok (.invokevirtual 232, 3) := by decide +kernel
theorem dX9_beginDay_49 : decode cX9_beginDay 49 = .ok (.iinc 2 1, 3) := by decide +kernel
theorem dX9_beginDay_52 : decode cX9_beginDay 52 = .ok (.goto (-50), 3) := by decide +kernel
theorem dX9_beginDay_55 : decode cX9_beginDay 55 = .ok (.iconst 0, 1) := by decide +kernel
theorem dX9_beginDay_56 : decode cX9_beginDay 56 = .ok (.istore_n 2, 1) := by decide +kernel
theorem dX9_beginDay_57 : decode cX9_beginDay 57 = .ok (.iload_n 2, 1) := by decide +kernel
theorem dX9_beginDay_58 : decode cX9_beginDay 58 = .ok (.aload_n 0, 1) := by decide +kernel
theorem dX9_beginDay_59 : decode cX9_beginDay 59 = .ok (.getfield 9, 3) := by decide +kernel
theorem dX9_beginDay_62 : decode cX9_beginDay 62 = .ok (.iconst 5, 1) := by decide +kernel
theorem dX9_beginDay_63 : decode cX9_beginDay 63 = .ok (.iaload, 1) := by decide +kernel
theorem dX9_beginDay_64 : decode cX9_beginDay 64 = .ok (.if_icmp .ge 43, 3) := by decide +kernel
theorem dX9_beginDay_67 : decode cX9_beginDay 67 = .ok (.aload_n 0, 1) := by decide +kernel
theorem dX9_beginDay_68 : decode cX9_beginDay 68 = .ok (.getfield 9, 3) := by decide +kernel
theorem dX9_beginDay_71 : decode cX9_beginDay 71 = .ok (.bipush 27, 2) := by decide +kernel
theorem dX9_beginDay_73 : decode cX9_beginDay 73 = .ok (.iload_n 2, 1) := by decide +kernel
theorem dX9_beginDay_74 : decode cX9_beginDay 74 = .ok (.iadd, 1) := by decide +kernel
theorem dX9_beginDay_75 : decode cX9_beginDay 75 = .ok (.iaload, 1) := by decide +kernel
theorem dX9_beginDay_76 : decode cX9_beginDay 76 = .ok (.bipush 100, 2) := by decide +kernel
theorem dX9_beginDay_78 : decode cX9_beginDay 78 = .ok (.irem, 1) := by decide +kernel
theorem dX9_beginDay_79 : decode cX9_beginDay 79 = .ok (.iload_n 1, 1) := by decide +kernel
theorem dX9_beginDay_80 : decode cX9_beginDay 80 = .ok (.if_icmp .ne 21, 3) := by decide +kernel
theorem dX9_beginDay_83 : decode cX9_beginDay 83 = .ok (.aload_n 0, 1) := by decide +kernel
theorem dX9_beginDay_84 : decode cX9_beginDay 84 = .ok (.bipush 17, 2) := by decide +kernel
theorem dX9_beginDay_86 : decode cX9_beginDay 86 = .ok (.aload_n 0, 1) := by decide +kernel
theorem dX9_beginDay_87 : decode cX9_beginDay 87 = .ok (.getfield 9, 3) := by decide +kernel
theorem dX9_beginDay_90 : decode cX9_beginDay 90 = .ok (.bipush 27, 2) := by decide +kernel
theorem dX9_beginDay_92 : decode cX9_beginDay 92 = .ok (.iload_n 2, 1) := by decide +kernel
theorem dX9_beginDay_93 : decode cX9_beginDay 93 = .ok (.iadd, 1) := by decide +kernel
theorem dX9_beginDay_94 : decode cX9_beginDay 94 = .ok (.iaload, 1) := by decide +kernel
theorem dX9_beginDay_95 : decode cX9_beginDay 95 = .ok (.bipush 100, 2) := by decide +kernel
theorem dX9_beginDay_97 : decode cX9_beginDay 97 = .ok (.idiv, 1) := by decide +kernel
theorem dX9_beginDay_98 : decode cX9_beginDay 98 = .ok (.invokevirtual 232, 3) := by decide +kernel
theorem dX9_beginDay_101 : decode cX9_beginDay 101 = .ok (.iinc 2 1, 3) := by decide +kernel
theorem dX9_beginDay_104 : decode cX9_beginDay 104 = .ok (.goto (-47), 3) := by decide +kernel
theorem dX9_beginDay_107 : decode cX9_beginDay 107 = .ok (.aload_n 0, 1) := by decide +kernel
theorem dX9_beginDay_108 : decode cX9_beginDay 108 = .ok (.getfield 241, 3) := by decide +kernel
theorem dX9_beginDay_111 : decode cX9_beginDay 111 = .ok (.iload_n 1, 1) := by decide +kernel
theorem dX9_beginDay_112 : decode cX9_beginDay 112 = .ok (.if_icmp .ne 13, 3) := by decide +kernel
theorem dX9_beginDay_115 : decode cX9_beginDay 115 = .ok (.aload_n 0, 1) := by decide +kernel
theorem dX9_beginDay_116 : decode cX9_beginDay 116 = .ok (.bipush 17, 2) := by decide +kernel
theorem dX9_beginDay_118 : decode cX9_beginDay 118 = .ok (.aload_n 0, 1) := by decide +kernel
theorem dX9_beginDay_119 : decode cX9_beginDay 119 = .ok (.getfield 247, 3) := by decide +kernel
theorem dX9_beginDay_122 : decode cX9_beginDay 122 = .ok (.invokevirtual 232, 3) := by decide +kernel
theorem dX9_beginDay_125 : decode cX9_beginDay 125 = .ok (.iconst 0, 1) := by decide +kernel
theorem dX9_beginDay_126 : decode cX9_beginDay 126 = .ok (.istore_n 2, 1) := by decide +kernel
theorem dX9_beginDay_127 : decode cX9_beginDay 127 = .ok (.iload_n 2, 1) := by decide +kernel
theorem dX9_beginDay_128 : decode cX9_beginDay 128 = .ok (.aload_n 0, 1) := by decide +kernel
theorem dX9_beginDay_129 : decode cX9_beginDay 129 = .ok (.getfield 9, 3) := by decide +kernel
theorem dX9_beginDay_132 : decode cX9_beginDay 132 = .ok (.iconst 5, 1) := by decide +kernel
theorem dX9_beginDay_133 : decode cX9_beginDay 133 = .ok (.iaload, 1) := by decide +kernel
theorem dX9_beginDay_134 : decode cX9_beginDay 134 = .ok (.if_icmp .ge 28, 3) := by decide +kernel
theorem dX9_beginDay_137 : decode cX9_beginDay 137 = .ok (.aload_n 0, 1) := by decide +kernel
theorem dX9_beginDay_138 : decode cX9_beginDay 138 = .ok (.getfield 9, 3) := by decide +kernel
theorem dX9_beginDay_141 : decode cX9_beginDay 141 = .ok (.bipush 27, 2) := by decide +kernel
theorem dX9_beginDay_143 : decode cX9_beginDay 143 = .ok (.iload_n 2, 1) := by decide +kernel
theorem dX9_beginDay_144 : decode cX9_beginDay 144 = .ok (.iadd, 1) := by decide +kernel
theorem dX9_beginDay_145 : decode cX9_beginDay 145 = .ok (.iaload, 1) := by decide +kernel
theorem dX9_beginDay_146 : decode cX9_beginDay 146 = .ok (.iload_n 1, 1) := by decide +kernel
theorem dX9_beginDay_147 : decode cX9_beginDay 147 = .ok (.if_icmp .ne 9, 3) := by decide +kernel
theorem dX9_beginDay_150 : decode cX9_beginDay 150 = .ok (.aload_n 0, 1) := by decide +kernel
theorem dX9_beginDay_151 : decode cX9_beginDay 151 = .ok (.bipush 17, 2) := by decide +kernel
theorem dX9_beginDay_153 : decode cX9_beginDay 153 = .ok (.invokevirtual 250, 3) := by decide +kernel
theorem dX9_beginDay_156 : decode cX9_beginDay 156 = .ok (.iinc 2 1, 3) := by decide +kernel
theorem dX9_beginDay_159 : decode cX9_beginDay 159 = .ok (.goto (-32), 3) := by decide +kernel
theorem dX9_beginDay_162 : decode cX9_beginDay 162 = .ok (.return_, 1) := by decide +kernel
theorem dX9_bit_0 : decode cX9_bit 0 = .ok (.iload_n 0, 1) := by decide +kernel
theorem dX9_bit_1 : decode cX9_bit 1 = .ok (.iload_n 1, 1) := by decide +kernel
theorem dX9_bit_2 : decode cX9_bit 2 = .ok (.ishr, 1) := by decide +kernel
theorem dX9_bit_3 : decode cX9_bit 3 = .ok (.iconst 1, 1) := by decide +kernel
theorem dX9_bit_4 : decode cX9_bit 4 = .ok (.iand, 1) := by decide +kernel
theorem dX9_bit_5 : decode cX9_bit 5 = .ok (.ireturn, 1) := by decide +kernel
theorem dX9_bits_0 : decode cX9_bits 0 = .ok (.iconst 0, 1) := by decide +kernel
theorem dX9_bits_1 : decode cX9_bits 1 = .ok (.istore_n 1, 1) := by decide +kernel
theorem dX9_bits_2 : decode cX9_bits 2 = .ok (.iconst 0, 1) := by decide +kernel
theorem dX9_bits_3 : decode cX9_bits 3 = .ok (.istore_n 2, 1) := by decide +kernel
theorem dX9_bits_4 : decode cX9_bits 4 = .ok (.iload_n 2, 1) := by decide +kernel
theorem dX9_bits_5 : decode cX9_bits 5 = .ok (.bipush 16, 2) := by decide +kernel
theorem dX9_bits_7 : decode cX9_bits 7 = .ok (.if_icmp .ge 17, 3) := by decide +kernel
theorem dX9_bits_10 : decode cX9_bits 10 = .ok (.iload_n 1, 1) := by decide +kernel
theorem dX9_bits_11 : decode cX9_bits 11 = .ok (.iload_n 0, 1) := by decide +kernel
theorem dX9_bits_12 : decode cX9_bits 12 = .ok (.iload_n 2, 1) := by decide +kernel
theorem dX9_bits_13 : decode cX9_bits 13 = .ok (.ishr, 1) := by decide +kernel
theorem dX9_bits_14 : decode cX9_bits 14 = .ok (.iconst 1, 1) := by decide +kernel
theorem dX9_bits_15 : decode cX9_bits 15 = .ok (.iand, 1) := by decide +kernel
theorem dX9_bits_16 : decode cX9_bits 16 = .ok (.iadd, 1) := by decide +kernel
theorem dX9_bits_17 : decode cX9_bits 17 = .ok (.istore_n 1, 1) := by decide +kernel
theorem dX9_bits_18 : decode cX9_bits 18 = .ok (.iinc 2 1, 3) := by decide +kernel
theorem dX9_bits_21 : decode cX9_bits 21 = .ok (.goto (-17), 3) := by decide +kernel
theorem dX9_bits_24 : decode cX9_bits 24 = .ok (.iload_n 1, 1) := by decide +kernel
theorem dX9_bits_25 : decode cX9_bits 25 = .ok (.ireturn, 1) := by decide +kernel
theorem dX9_bring_0 : decode cX9_bring 0 = .ok (.aload_n 0, 1) := by decide +kernel
theorem dX9_bring_1 : decode cX9_bring 1 = .ok (.invokevirtual 265, 3) := by decide +kernel
theorem dX9_bring_4 : decode cX9_bring 4 = .ok (.ifCond .eq 24, 3) := by decide +kernel
theorem dX9_bring_7 : decode cX9_bring 7 = .ok (.aload_n 0, 1) := by decide +kernel
theorem dX9_bring_8 : decode cX9_bring 8 = .ok (.iload_n 1, 1) := by decide +kernel
theorem dX9_bring_9 : decode cX9_bring 9 = .ok (.i2l, 1) := by decide +kernel
theorem dX9_bring_10 : decode cX9_bring 10 = .ok (.invokevirtual 280, 3) := by decide +kernel
theorem dX9_bring_13 : decode cX9_bring 13 = .ok (.ifCond .eq 15, 3) := by decide +kernel
theorem dX9_bring_16 : decode cX9_bring 16 = .ok (.iload_n 2, 1) := by decide +kernel
theorem dX9_bring_17 : decode cX9_bring 17 = .ok (.i2l, 1) := by decide +kernel
theorem dX9_bring_18 : decode cX9_bring 18 = .ok (.lconst 0, 1) := by decide +kernel
theorem dX9_bring_19 : decode cX9_bring 19 = .ok (.ldc2_w 364, 3) := by decide +kernel
theorem dX9_bring_22 : decode cX9_bring 22 = .ok (.invokestatic 85, 3) := by decide +kernel
theorem dX9_bring_25 : decode cX9_bring 25 = .ok (.ifCond .ne 6, 3) := by decide +kernel
theorem dX9_bring_28 : decode cX9_bring 28 = .ok (.bipush (-2), 2) := by decide +kernel
theorem dX9_bring_30 : decode cX9_bring 30 = .ok (.ireturn, 1) := by decide +kernel
theorem dX9_bring_31 : decode cX9_bring 31 = .ok (.iconst 0, 1) := by decide +kernel
theorem dX9_bring_32 : decode cX9_bring 32 = .ok (.istore_n 3, 1) := by decide +kernel
theorem dX9_bring_33 : decode cX9_bring 33 = .ok (.iload_n 3, 1) := by decide +kernel
theorem dX9_bring_34 : decode cX9_bring 34 = .ok (.bipush 20, 2) := by decide +kernel
theorem dX9_bring_36 : decode cX9_bring 36 = .ok (.if_icmp .gt 21, 3) := by decide +kernel
theorem dX9_bring_39 : decode cX9_bring 39 = .ok (.aload_n 0, 1) := by decide +kernel
theorem dX9_bring_40 : decode cX9_bring 40 = .ok (.iload_n 1, 1) := by decide +kernel
theorem dX9_bring_41 : decode cX9_bring 41 = .ok (.iload_n 3, 1) := by decide +kernel
theorem dX9_bring_42 : decode cX9_bring 42 = .ok (.invokevirtual 366, 3) := by decide +kernel
theorem dX9_bring_45 : decode cX9_bring 45 = .ok (.iload_n 2, 1) := by decide +kernel
theorem dX9_bring_46 : decode cX9_bring 46 = .ok (.if_icmp .lt 5, 3) := by decide +kernel
theorem dX9_bring_49 : decode cX9_bring 49 = .ok (.iload_n 3, 1) := by decide +kernel
theorem dX9_bring_50 : decode cX9_bring 50 = .ok (.ireturn, 1) := by decide +kernel
theorem dX9_bring_51 : decode cX9_bring 51 = .ok (.iinc 3 1, 3) := by decide +kernel
theorem dX9_bring_54 : decode cX9_bring 54 = .ok (.goto (-21), 3) := by decide +kernel
theorem dX9_bring_57 : decode cX9_bring 57 = .ok (.iconst (-1), 1) := by decide +kernel
theorem dX9_bring_58 : decode cX9_bring 58 = .ok (.ireturn, 1) := by decide +kernel
theorem dX9_brings_0 : decode cX9_brings 0 = .ok (.iload_n 1, 1) := by decide +kernel
theorem dX9_brings_1 : decode cX9_brings 1 = .ok (.i2l, 1) := by decide +kernel
theorem dX9_brings_2 : decode cX9_brings 2 = .ok (.lconst 1, 1) := by decide +kernel
theorem dX9_brings_3 : decode cX9_brings 3 = .ok (.ldc2_w 454, 3) := by decide +kernel
theorem dX9_brings_6 : decode cX9_brings 6 = .ok (.invokestatic 85, 3) := by decide +kernel
theorem dX9_brings_9 : decode cX9_brings 9 = .ok (.ifCond .eq 25, 3) := by decide +kernel
theorem dX9_brings_12 : decode cX9_brings 12 = .ok (.aload_n 0, 1) := by decide +kernel
theorem dX9_brings_13 : decode cX9_brings 13 = .ok (.iload_n 2, 1) := by decide +kernel
theorem dX9_brings_14 : decode cX9_brings 14 = .ok (.i2l, 1) := by decide +kernel
theorem dX9_brings_15 : decode cX9_brings 15 = .ok (.invokevirtual 268, 3) := by decide +kernel
theorem dX9_brings_18 : decode cX9_brings 18 = .ok (.ifCond .eq 16, 3) := by decide +kernel
theorem dX9_brings_21 : decode cX9_brings 21 = .ok (.aload_n 0, 1) := by decide +kernel
theorem dX9_brings_22 : decode cX9_brings 22 = .ok (.bipush 100, 2) := by decide +kernel
theorem dX9_brings_24 : decode cX9_brings 24 = .ok (.iload_n 1, 1) := by decide +kernel
theorem dX9_brings_25 : decode cX9_brings 25 = .ok (.imul, 1) := by decide +kernel
theorem dX9_brings_26 : decode cX9_brings 26 = .ok (.iload_n 2, 1) := by decide +kernel
theorem dX9_brings_27 : decode cX9_brings 27 = .ok (.iadd, 1) := by decide +kernel
theorem dX9_brings_28 : decode cX9_brings 28 = .ok (.invokevirtual 456, 3) := by decide +kernel
theorem dX9_brings_31 : decode cX9_brings 31 = .ok (.goto 5, 3) := by decide +kernel
theorem dX9_brings_34 : decode cX9_brings 34 = .ok (.bipush (-2), 2) := by decide +kernel
theorem dX9_brings_36 : decode cX9_brings 36 = .ok (.ireturn, 1) := by decide +kernel
theorem dX9_by_0 : decode cX9_by 0 = .ok (.aload_n 0, 1) := by decide +kernel
theorem dX9_by_1 : decode cX9_by 1 = .ok (.invokevirtual 265, 3) := by decide +kernel
theorem dX9_by_4 : decode cX9_by 4 = .ok (.ifCond .eq 23, 3) := by decide +kernel
theorem dX9_by_7 : decode cX9_by 7 = .ok (.iload_n 1, 1) := by decide +kernel
theorem dX9_by_8 : decode cX9_by 8 = .ok (.i2l, 1) := by decide +kernel
theorem dX9_by_9 : decode cX9_by 9 = .ok (.lconst 0, 1) := by decide +kernel
theorem dX9_by_10 : decode cX9_by 10 = .ok (.ldc2_w 390, 3) := by decide +kernel
theorem dX9_by_13 : decode cX9_by 13 = .ok (.invokestatic 85, 3) := by decide +kernel
theorem dX9_by_16 : decode cX9_by 16 = .ok (.ifCond .eq 11, 3) := by decide +kernel
theorem dX9_by_19 : decode cX9_by 19 = .ok (.aload_n 0, 1) := by decide +kernel
theorem dX9_by_20 : decode cX9_by 20 = .ok (.iload_n 1, 1) := by decide +kernel
theorem dX9_by_21 : decode cX9_by 21 = .ok (.invokevirtual 392, 3) := by decide +kernel
theorem dX9_by_24 : decode cX9_by 24 = .ok (.goto 5, 3) := by decide +kernel
theorem dX9_by_27 : decode cX9_by 27 = .ok (.bipush (-2), 2) := by decide +kernel
theorem dX9_by_29 : decode cX9_by 29 = .ok (.ireturn, 1) := by decide +kernel
theorem dX9_cart_0 : decode cX9_cart 0 = .ok (.aload_n 0, 1) := by decide +kernel
theorem dX9_cart_1 : decode cX9_cart 1 = .ok (.iload_n 1, 1) := by decide +kernel
theorem dX9_cart_2 : decode cX9_cart 2 = .ok (.invokevirtual 204, 3) := by decide +kernel
theorem dX9_cart_5 : decode cX9_cart 5 = .ok (.ifCond .eq 29, 3) := by decide +kernel
theorem dX9_cart_8 : decode cX9_cart 8 = .ok (.iload_n 2, 1) := by decide +kernel
theorem dX9_cart_9 : decode cX9_cart 9 = .ok (.i2l, 1) := by decide +kernel
theorem dX9_cart_10 : decode cX9_cart 10 = .ok (.lconst 0, 1) := by decide +kernel
theorem dX9_cart_11 : decode cX9_cart 11 = .ok (.lconst 1, 1) := by decide +kernel
theorem dX9_cart_12 : decode cX9_cart 12 = .ok (.invokestatic 85, 3) := by decide +kernel
theorem dX9_cart_15 : decode cX9_cart 15 = .ok (.ifCond .eq 19, 3) := by decide +kernel
theorem dX9_cart_18 : decode cX9_cart 18 = .ok (.aload_n 0, 1) := by decide +kernel
theorem dX9_cart_19 : decode cX9_cart 19 = .ok (.getfield 9, 3) := by decide +kernel
theorem dX9_cart_22 : decode cX9_cart 22 = .ok (.bipush 15, 2) := by decide +kernel
theorem dX9_cart_24 : decode cX9_cart 24 = .ok (.iconst 2, 1) := by decide +kernel
theorem dX9_cart_25 : decode cX9_cart 25 = .ok (.iload_n 1, 1) := by decide +kernel
theorem dX9_cart_26 : decode cX9_cart 26 = .ok (.imul, 1) := by decide +kernel
theorem dX9_cart_27 : decode cX9_cart 27 = .ok (.iadd, 1) := by decide +kernel
theorem dX9_cart_28 : decode cX9_cart 28 = .ok (.iload_n 2, 1) := by decide +kernel
theorem dX9_cart_29 : decode cX9_cart 29 = .ok (.iadd, 1) := by decide +kernel
theorem dX9_cart_30 : decode cX9_cart 30 = .ok (.iaload, 1) := by decide +kernel
theorem dX9_cart_31 : decode cX9_cart 31 = .ok (.goto 5, 3) := by decide +kernel
theorem dX9_cart_34 : decode cX9_cart 34 = .ok (.bipush (-2), 2) := by decide +kernel
theorem dX9_cart_36 : decode cX9_cart 36 = .ok (.ireturn, 1) := by decide +kernel
theorem dX9_cartMany_0 : decode cX9_cartMany 0 = .ok (.aload_n 0, 1) := by decide +kernel
theorem dX9_cartMany_1 : decode cX9_cartMany 1 = .ok (.getfield 9, 3) := by decide +kernel
theorem dX9_cartMany_4 : decode cX9_cartMany 4 = .ok (.iconst 4, 1) := by decide +kernel
theorem dX9_cartMany_5 : decode cX9_cartMany 5 = .ok (.iaload, 1) := by decide +kernel
theorem dX9_cartMany_6 : decode cX9_cartMany 6 = .ok (.ireturn, 1) := by decide +kernel
theorem dX9_chance_0 : decode cX9_chance 0 = .ok (.aload_n 0, 1) := by decide +kernel
theorem dX9_chance_1 : decode cX9_chance 1 = .ok (.iload_n 1, 1) := by decide +kernel
theorem dX9_chance_2 : decode cX9_chance 2 = .ok (.iload_n 3, 1) := by decide +kernel
theorem dX9_chance_3 : decode cX9_chance 3 = .ok (.invokevirtual 446, 3) := by decide +kernel
theorem dX9_chance_6 : decode cX9_chance 6 = .ok (.ifCond .eq 15, 3) := by decide +kernel
theorem dX9_chance_9 : decode cX9_chance 9 = .ok (.iload_n 2, 1) := by decide +kernel
theorem dX9_chance_10 : decode cX9_chance 10 = .ok (.i2l, 1) := by decide +kernel
theorem dX9_chance_11 : decode cX9_chance 11 = .ok (.lconst 0, 1) := by decide +kernel
theorem dX9_chance_12 : decode cX9_chance 12 = .ok (.ldc2_w 278, 3) := by decide +kernel
theorem dX9_chance_15 : decode cX9_chance 15 = .ok (.invokestatic 85, 3) := by decide +kernel
theorem dX9_chance_18 : decode cX9_chance 18 = .ok (.ifCond .ne 7, 3) := by decide +kernel
theorem dX9_chance_21 : decode cX9_chance 21 = .ok (.ldc2_w 449, 3) := by decide +kernel
theorem dX9_chance_24 : decode cX9_chance 24 = .ok (.lreturn, 1) := by decide +kernel
theorem dX9_chance_25 : decode cX9_chance 25 = .ok (.aload_n 0, 1) := by decide +kernel
theorem dX9_chance_26 : decode cX9_chance 26 = .ok (.iload_n 1, 1) := by decide +kernel
theorem dX9_chance_27 : decode cX9_chance 27 = .ok (.iload_n 2, 1) := by decide +kernel
theorem dX9_chance_28 : decode cX9_chance 28 = .ok (.invokevirtual 451, 3) := by decide +kernel
theorem dX9_chance_31 : decode cX9_chance 31 = .ok (.aload_n 0, 1) := by decide +kernel
theorem dX9_chance_32 : decode cX9_chance 32 = .ok (.getfield 440, 3) := by decide +kernel
theorem dX9_chance_35 : decode cX9_chance 35 = .ok (.aload_n 0, 1) := by decide +kernel
theorem dX9_chance_36 : decode cX9_chance 36 = .ok (.getfield 436, 3) := by decide +kernel
theorem dX9_chance_39 : decode cX9_chance 39 = .ok (.iload_n 3, 1) := by decide +kernel
theorem dX9_chance_40 : decode cX9_chance 40 = .ok (.invokestatic 412, 3) := by decide +kernel
theorem dX9_chance_43 : decode cX9_chance 43 = .ok (.lreturn, 1) := by decide +kernel
theorem dX9_clipped_0 : decode cX9_clipped 0 = .ok (.bipush 64, 2) := by decide +kernel
theorem dX9_clipped_2 : decode cX9_clipped 2 = .ok (.bipush 8, 2) := by decide +kernel
theorem dX9_clipped_4 : decode cX9_clipped 4 = .ok (.iload_n 2, 1) := by decide +kernel
theorem dX9_clipped_5 : decode cX9_clipped 5 = .ok (.ishl, 1) := by decide +kernel
theorem dX9_clipped_6 : decode cX9_clipped 6 = .ok (.isub, 1) := by decide +kernel
theorem dX9_clipped_7 : decode cX9_clipped 7 = .ok (.istore_n 3, 1) := by decide +kernel
theorem dX9_clipped_8 : decode cX9_clipped 8 = .ok (.lload_n 0, 1) := by decide +kernel
theorem dX9_clipped_9 : decode cX9_clipped 9 = .ok (.iload_n 3, 1) := by decide +kernel
theorem dX9_clipped_10 : decode cX9_clipped 10 = .ok (.lshl, 1) := by decide +kernel
theorem dX9_clipped_11 : decode cX9_clipped 11 = .ok (.iload_n 3, 1) := by decide +kernel
theorem dX9_clipped_12 : decode cX9_clipped 12 = .ok (.lshr, 1) := by decide +kernel
theorem dX9_clipped_13 : decode cX9_clipped 13 = .ok (.lreturn, 1) := by decide +kernel
theorem dX9_comesTo_0 : decode cX9_comesTo 0 = .ok (.iconst 0, 1) := by decide +kernel
theorem dX9_comesTo_1 : decode cX9_comesTo 1 = .ok (.istore_n 2, 1) := by decide +kernel
theorem dX9_comesTo_2 : decode cX9_comesTo 2 = .ok (.iconst 0, 1) := by decide +kernel
theorem dX9_comesTo_3 : decode cX9_comesTo 3 = .ok (.istore_n 3, 1) := by decide +kernel
theorem dX9_comesTo_4 : decode cX9_comesTo 4 = .ok (.iload_n 3, 1) := by decide +kernel
theorem dX9_comesTo_5 : decode cX9_comesTo 5 = .ok (.aload_n 0, 1) := by decide +kernel
theorem dX9_comesTo_6 : decode cX9_comesTo 6 = .ok (.getfield 316, 3) := by decide +kernel
theorem dX9_comesTo_9 : decode cX9_comesTo 9 = .ok (.if_icmp .ge 27, 3) := by decide +kernel
theorem dX9_comesTo_12 : decode cX9_comesTo 12 = .ok (.iload_n 2, 1) := by decide +kernel
theorem dX9_comesTo_13 : decode cX9_comesTo 13 = .ok (.aload_n 0, 1) := by decide +kernel
theorem dX9_comesTo_14 : decode cX9_comesTo 14 = .ok (.getfield 52, 3) := by decide +kernel
theorem dX9_comesTo_17 : decode cX9_comesTo 17 = .ok (.iload_n 3, 1) := by decide +kernel
theorem dX9_comesTo_18 : decode cX9_comesTo 18 = .ok (.iaload, 1) := by decide +kernel
theorem dX9_comesTo_19 : decode cX9_comesTo 19 = .ok (.iload_n 1, 1) := by decide +kernel
theorem dX9_comesTo_20 : decode cX9_comesTo 20 = .ok (.if_icmp .ne 7, 3) := by decide +kernel
theorem dX9_comesTo_23 : decode cX9_comesTo 23 = .ok (.iconst 1, 1) := by decide +kernel
theorem dX9_comesTo_24 : decode cX9_comesTo 24 = .ok (.goto 4, 3) := by decide +kernel
theorem dX9_comesTo_27 : decode cX9_comesTo 27 = .ok (.iconst 0, 1) := by decide +kernel
theorem dX9_comesTo_28 : decode cX9_comesTo 28 = .ok (.iadd, 1) := by decide +kernel
theorem dX9_comesTo_29 : decode cX9_comesTo 29 = .ok (.istore_n 2, 1) := by decide +kernel
theorem dX9_comesTo_30 : decode cX9_comesTo 30 = .ok (.iinc 3 1, 3) := by decide +kernel
theorem dX9_comesTo_33 : decode cX9_comesTo 33 = .ok (.goto (-29), 3) := by decide +kernel
theorem dX9_comesTo_36 : decode cX9_comesTo 36 = .ok (.iload_n 2, 1) := by decide +kernel
theorem dX9_comesTo_37 : decode cX9_comesTo 37 = .ok (.ireturn, 1) := by decide +kernel
theorem dX9_copyRow_0 : decode cX9_copyRow 0 = .ok (.iconst 0, 1) := by decide +kernel
theorem dX9_copyRow_1 : decode cX9_copyRow 1 = .ok (.istore_n 3, 1) := by decide +kernel
theorem dX9_copyRow_2 : decode cX9_copyRow 2 = .ok (.iload_n 3, 1) := by decide +kernel
theorem dX9_copyRow_3 : decode cX9_copyRow 3 = .ok (.aload_n 0, 1) := by decide +kernel
theorem dX9_copyRow_4 : decode cX9_copyRow 4 = .ok (.iload_n 1, 1) := by decide +kernel
theorem dX9_copyRow_5 : decode cX9_copyRow 5 = .ok (.invokevirtual 207, 3) := by decide +kernel
theorem dX9_copyRow_8 : decode cX9_copyRow 8 = .ok (.if_icmp .gt 33, 3) := by decide +kernel
theorem dX9_copyRow_11 : decode cX9_copyRow 11 = .ok (.aload_n 0, 1) := by decide +kernel
theorem dX9_copyRow_12 : decode cX9_copyRow 12 = .ok (.getfield 34, 3) := by decide +kernel
theorem dX9_copyRow_15 : decode cX9_copyRow 15 = .ok (.sipush 701, 3) := by decide +kernel
theorem dX9_copyRow_18 : decode cX9_copyRow 18 = .ok (.iload_n 2, 1) := by decide +kernel
theorem dX9_copyRow_19 : decode cX9_copyRow 19 = .ok (.imul, 1) := by decide +kernel
theorem dX9_copyRow_20 : decode cX9_copyRow 20 = .ok (.iload_n 3, 1) := by decide +kernel
theorem dX9_copyRow_21 : decode cX9_copyRow 21 = .ok (.iadd, 1) := by decide +kernel
theorem dX9_copyRow_22 : decode cX9_copyRow 22 = .ok (.aload_n 0, 1) := by decide +kernel
theorem dX9_copyRow_23 : decode cX9_copyRow 23 = .ok (.getfield 34, 3) := by decide +kernel
theorem dX9_copyRow_26 : decode cX9_copyRow 26 = .ok (.sipush 701, 3) := by decide +kernel
theorem dX9_copyRow_29 : decode cX9_copyRow 29 = .ok (.iload_n 1, 1) := by decide +kernel
theorem dX9_copyRow_30 : decode cX9_copyRow 30 = .ok (.imul, 1) := by decide +kernel
theorem dX9_copyRow_31 : decode cX9_copyRow 31 = .ok (.iload_n 3, 1) := by decide +kernel
theorem dX9_copyRow_32 : decode cX9_copyRow 32 = .ok (.iadd, 1) := by decide +kernel
theorem dX9_copyRow_33 : decode cX9_copyRow 33 = .ok (.iaload, 1) := by decide +kernel
theorem dX9_copyRow_34 : decode cX9_copyRow 34 = .ok (.iastore, 1) := by decide +kernel
theorem dX9_copyRow_35 : decode cX9_copyRow 35 = .ok (.iinc 3 1, 3) := by decide +kernel
theorem dX9_copyRow_38 : decode cX9_copyRow 38 = .ok (.goto (-36), 3) := by decide +kernel
theorem dX9_copyRow_41 : decode cX9_copyRow 41 = .ok (.return_, 1) := by decide +kernel
theorem dX9_count_0 : decode cX9_count 0 = .ok (.iload_n 1, 1) := by decide +kernel
theorem dX9_count_1 : decode cX9_count 1 = .ok (.i2l, 1) := by decide +kernel
theorem dX9_count_2 : decode cX9_count 2 = .ok (.lconst 0, 1) := by decide +kernel
theorem dX9_count_3 : decode cX9_count 3 = .ok (.ldc2_w 478, 3) := by decide +kernel
theorem dX9_count_6 : decode cX9_count 6 = .ok (.invokestatic 85, 3) := by decide +kernel
theorem dX9_count_9 : decode cX9_count 9 = .ok (.ifCond .eq 10, 3) := by decide +kernel
theorem dX9_count_12 : decode cX9_count 12 = .ok (.aload_n 0, 1) := by decide +kernel
theorem dX9_count_13 : decode cX9_count 13 = .ok (.getfield 9, 3) := by decide +kernel
theorem dX9_count_16 : decode cX9_count 16 = .ok (.iload_n 1, 1) := by decide +kernel
theorem dX9_count_17 : decode cX9_count 17 = .ok (.iaload, 1) := by decide +kernel
theorem dX9_count_18 : decode cX9_count 18 = .ok (.ireturn, 1) := by decide +kernel
theorem dX9_count_19 : decode cX9_count 19 = .ok (.iload_n 1, 1) := by decide +kernel
theorem dX9_count_20 : decode cX9_count 20 = .ok (.bipush 7, 2) := by decide +kernel
theorem dX9_count_22 : decode cX9_count 22 = .ok (.if_icmp .ne 8, 3) := by decide +kernel
theorem dX9_count_25 : decode cX9_count 25 = .ok (.aload_n 0, 1) := by decide +kernel
theorem dX9_count_26 : decode cX9_count 26 = .ok (.getfield 100, 3) := by decide +kernel
theorem dX9_count_29 : decode cX9_count 29 = .ok (.ireturn, 1) := by decide +kernel
theorem dX9_count_30 : decode cX9_count 30 = .ok (.iload_n 1, 1) := by decide +kernel
theorem dX9_count_31 : decode cX9_count 31 = .ok (.bipush 8, 2) := by decide +kernel
theorem dX9_count_33 : decode cX9_count 33 = .ok (.if_icmp .eq 5, 3) := by decide +kernel
theorem dX9_count_36 : decode cX9_count 36 = .ok (.iconst (-1), 1) := by decide +kernel
theorem dX9_count_37 : decode cX9_count 37 = .ok (.ireturn, 1) := by decide +kernel
theorem dX9_count_38 : decode cX9_count 38 = .ok (.iconst 0, 1) := by decide +kernel
theorem dX9_count_39 : decode cX9_count 39 = .ok (.istore_n 2, 1) := by decide +kernel
theorem dX9_count_40 : decode cX9_count 40 = .ok (.iconst 0, 1) := by decide +kernel
theorem dX9_count_41 : decode cX9_count 41 = .ok (.istore_n 3, 1) := by decide +kernel
theorem dX9_count_42 : decode cX9_count 42 = .ok (.iload_n 3, 1) := by decide +kernel
theorem dX9_count_43 : decode cX9_count 43 = .ok (.iconst 4, 1) := by decide +kernel
theorem dX9_count_44 : decode cX9_count 44 = .ok (.if_icmp .ge 27, 3) := by decide +kernel
theorem dX9_count_47 : decode cX9_count 47 = .ok (.iload_n 2, 1) := by decide +kernel
theorem dX9_count_48 : decode cX9_count 48 = .ok (.aload_n 0, 1) := by decide +kernel
theorem dX9_count_49 : decode cX9_count 49 = .ok (.getfield 67, 3) := by decide +kernel
theorem dX9_count_52 : decode cX9_count 52 = .ok (.iload_n 3, 1) := by decide +kernel
theorem dX9_count_53 : decode cX9_count 53 = .ok (.iaload, 1) := by decide +kernel
theorem dX9_count_54 : decode cX9_count 54 = .ok (.iconst (-1), 1) := by decide +kernel
theorem dX9_count_55 : decode cX9_count 55 = .ok (.if_icmp .ne 7, 3) := by decide +kernel
theorem dX9_count_58 : decode cX9_count 58 = .ok (.iconst 0, 1) := by decide +kernel
theorem dX9_count_59 : decode cX9_count 59 = .ok (.goto 4, 3) := by decide +kernel
theorem dX9_count_62 : decode cX9_count 62 = .ok (.iconst 1, 1) := by decide +kernel
theorem dX9_count_63 : decode cX9_count 63 = .ok (.iadd, 1) := by decide +kernel
theorem dX9_count_64 : decode cX9_count 64 = .ok (.istore_n 2, 1) := by decide +kernel
theorem dX9_count_65 : decode cX9_count 65 = .ok (.iinc 3 1, 3) := by decide +kernel
theorem dX9_count_68 : decode cX9_count 68 = .ok (.goto (-26), 3) := by decide +kernel
theorem dX9_count_71 : decode cX9_count 71 = .ok (.iload_n 2, 1) := by decide +kernel
theorem dX9_count_72 : decode cX9_count 72 = .ok (.ireturn, 1) := by decide +kernel
theorem dX9_days_0 : decode cX9_days 0 = .ok (.aload_n 0, 1) := by decide +kernel
theorem dX9_days_1 : decode cX9_days 1 = .ok (.getfield 9, 3) := by decide +kernel
theorem dX9_days_4 : decode cX9_days 4 = .ok (.iconst 0, 1) := by decide +kernel
theorem dX9_days_5 : decode cX9_days 5 = .ok (.iaload, 1) := by decide +kernel
theorem dX9_days_6 : decode cX9_days 6 = .ok (.ireturn, 1) := by decide +kernel
theorem dX9_divisor_0 : decode cX9_divisor 0 = .ok (.lload_n 0, 1) := by decide +kernel
theorem dX9_divisor_1 : decode cX9_divisor 1 = .ok (.invokestatic 398, 3) := by decide +kernel
theorem dX9_divisor_4 : decode cX9_divisor 4 = .ok (.lstore 4, 2) := by decide +kernel
theorem dX9_divisor_6 : decode cX9_divisor 6 = .ok (.lload_n 2, 1) := by decide +kernel
theorem dX9_divisor_7 : decode cX9_divisor 7 = .ok (.lstore 6, 2) := by decide +kernel
theorem dX9_divisor_9 : decode cX9_divisor 9 = .ok (.lload 6, 2) := by decide +kernel
theorem dX9_divisor_11 : decode cX9_divisor 11 = .ok (.lconst 0, 1) := by decide +kernel
theorem dX9_divisor_12 : decode cX9_divisor 12 = .ok (.lcmp, 1) := by decide +kernel
theorem dX9_divisor_13 : decode cX9_divisor 13 = .ok (.ifCond .eq 21, 3) := by decide +kernel
theorem dX9_divisor_16 : decode cX9_divisor 16 = .ok (.lload 4, 2) := by decide +kernel
theorem dX9_divisor_18 : decode cX9_divisor 18 = .ok (.lload 6, 2) := by decide +kernel
theorem dX9_divisor_20 : decode cX9_divisor 20 = .ok (.lrem, 1) := by decide +kernel
theorem dX9_divisor_21 : decode cX9_divisor 21 = .ok (.lstore 8, 2) := by decide +kernel
theorem dX9_divisor_23 : decode cX9_divisor 23 = .ok (.lload 6, 2) := by decide +kernel
theorem dX9_divisor_25 : decode cX9_divisor 25 = .ok (.lstore 4, 2) := by decide +kernel
theorem dX9_divisor_27 : decode cX9_divisor 27 = .ok (.lload 8, 2) := by decide +kernel
theorem dX9_divisor_29 : decode cX9_divisor 29 = .ok (.lstore 6, 2) := by decide +kernel
theorem dX9_divisor_31 : decode cX9_divisor 31 = .ok (.goto (-22), 3) := by decide +kernel
theorem dX9_divisor_34 : decode cX9_divisor 34 = .ok (.lload 4, 2) := by decide +kernel
theorem dX9_divisor_36 : decode cX9_divisor 36 = .ok (.lreturn, 1) := by decide +kernel
theorem dX9_drawn_0 : decode cX9_drawn 0 = .ok (.aload_n 0, 1) := by decide +kernel
theorem dX9_drawn_1 : decode cX9_drawn 1 = .ok (.invokevirtual 89, 3) := by decide +kernel
theorem dX9_drawn_4 : decode cX9_drawn 4 = .ok (.ifCond .eq 20, 3) := by decide +kernel
theorem dX9_drawn_7 : decode cX9_drawn 7 = .ok (.iload_n 1, 1) := by decide +kernel
theorem dX9_drawn_8 : decode cX9_drawn 8 = .ok (.invokestatic 471, 3) := by decide +kernel
theorem dX9_drawn_11 : decode cX9_drawn 11 = .ok (.ifCond .eq 13, 3) := by decide +kernel
theorem dX9_drawn_14 : decode cX9_drawn 14 = .ok (.iload_n 2, 1) := by decide +kernel
theorem dX9_drawn_15 : decode cX9_drawn 15 = .ok (.i2l, 1) := by decide +kernel
theorem dX9_drawn_16 : decode cX9_drawn 16 = .ok (.lconst 0, 1) := by decide +kernel
theorem dX9_drawn_17 : decode cX9_drawn 17 = .ok (.lconst 1, 1) := by decide +kernel
theorem dX9_drawn_18 : decode cX9_drawn 18 = .ok (.invokestatic 85, 3) := by decide +kernel
theorem dX9_drawn_21 : decode cX9_drawn 21 = .ok (.ifCond .ne 6, 3) := by decide +kernel
theorem dX9_drawn_24 : decode cX9_drawn 24 = .ok (.bipush (-2), 2) := by decide +kernel
theorem dX9_drawn_26 : decode cX9_drawn 26 = .ok (.ireturn, 1) := by decide +kernel
theorem dX9_drawn_27 : decode cX9_drawn 27 = .ok (.aload_n 0, 1) := by decide +kernel
theorem dX9_drawn_28 : decode cX9_drawn 28 = .ok (.iload_n 1, 1) := by decide +kernel
theorem dX9_drawn_29 : decode cX9_drawn 29 = .ok (.i2l, 1) := by decide +kernel
theorem dX9_drawn_30 : decode cX9_drawn 30 = .ok (.invokevirtual 474, 3) := by decide +kernel
theorem dX9_drawn_33 : decode cX9_drawn 33 = .ok (.iload_n 2, 1) := by decide +kernel
theorem dX9_drawn_34 : decode cX9_drawn 34 = .ok (.ifCond .ne 10, 3) := by decide +kernel
theorem dX9_drawn_37 : decode cX9_drawn 37 = .ok (.aload_n 0, 1) := by decide +kernel
theorem dX9_drawn_38 : decode cX9_drawn 38 = .ok (.getfield 235, 3) := by decide +kernel
theorem dX9_drawn_41 : decode cX9_drawn 41 = .ok (.goto 7, 3) := by decide +kernel
theorem dX9_drawn_44 : decode cX9_drawn 44 = .ok (.aload_n 0, 1) := by decide +kernel
theorem dX9_drawn_45 : decode cX9_drawn 45 = .ok (.invokevirtual 361, 3) := by decide +kernel
theorem dX9_drawn_48 : decode cX9_drawn 48 = .ok (.ireturn, 1) := by decide +kernel
theorem dX9_empty_0 : decode cX9_empty 0 = .ok (.aload_n 0, 1) := by decide +kernel
theorem dX9_empty_1 : decode cX9_empty 1 = .ok (.getfield 34, 3) := by decide +kernel
theorem dX9_empty_4 : decode cX9_empty 4 = .ok (.sipush 701, 3) := by decide +kernel
theorem dX9_empty_7 : decode cX9_empty 7 = .ok (.iload_n 1, 1) := by decide +kernel
theorem dX9_empty_8 : decode cX9_empty 8 = .ok (.imul, 1) := by decide +kernel
theorem dX9_empty_9 : decode cX9_empty 9 = .ok (.iconst 0, 1) := by decide +kernel
theorem dX9_empty_10 : decode cX9_empty 10 = .ok (.iastore, 1) := by decide +kernel
theorem dX9_empty_11 : decode cX9_empty 11 = .ok (.return_, 1) := by decide +kernel
theorem dX9_end_0 : decode cX9_end 0 = .ok (.iload_n 1, 1) := by decide +kernel
theorem dX9_end_1 : decode cX9_end 1 = .ok (.i2l, 1) := by decide +kernel
theorem dX9_end_2 : decode cX9_end 2 = .ok (.lconst 0, 1) := by decide +kernel
theorem dX9_end_3 : decode cX9_end 3 = .ok (.aload_n 0, 1) := by decide +kernel
theorem dX9_end_4 : decode cX9_end 4 = .ok (.getfield 100, 3) := by decide +kernel
theorem dX9_end_7 : decode cX9_end 7 = .ok (.i2l, 1) := by decide +kernel
theorem dX9_end_8 : decode cX9_end 8 = .ok (.invokestatic 85, 3) := by decide +kernel
theorem dX9_end_11 : decode cX9_end 11 = .ok (.ifCond .ne 5, 3) := by decide +kernel
theorem dX9_end_14 : decode cX9_end 14 = .ok (.iconst (-1), 1) := by decide +kernel
theorem dX9_end_15 : decode cX9_end 15 = .ok (.ireturn, 1) := by decide +kernel
theorem dX9_end_16 : decode cX9_end 16 = .ok (.aload_n 0, 1) := by decide +kernel
theorem dX9_end_17 : decode cX9_end 17 = .ok (.iload_n 1, 1) := by decide +kernel
theorem dX9_end_18 : decode cX9_end 18 = .ok (.putfield 100, 3) := by decide +kernel
theorem dX9_end_21 : decode cX9_end 21 = .ok (.iload_n 1, 1) := by decide +kernel
theorem dX9_end_22 : decode cX9_end 22 = .ok (.ireturn, 1) := by decide +kernel
theorem dX9_errs_0 : decode cX9_errs 0 = .ok (.aload_n 0, 1) := by decide +kernel
theorem dX9_errs_1 : decode cX9_errs 1 = .ok (.invokevirtual 140, 3) := by decide +kernel
theorem dX9_errs_4 : decode cX9_errs 4 = .ok (.ifCond .ne 4, 3) := by decide +kernel
theorem dX9_errs_7 : decode cX9_errs 7 = .ok (.return_, 1) := by decide +kernel
theorem dX9_errs_8 : decode cX9_errs 8 = .ok (.aload_n 0, 1) := by decide +kernel
theorem dX9_errs_9 : decode cX9_errs 9 = .ok (.iload_n 1, 1) := by decide +kernel
theorem dX9_errs_10 : decode cX9_errs 10 = .ok (.putfield 137, 3) := by decide +kernel
theorem dX9_errs_13 : decode cX9_errs 13 = .ok (.aload_n 0, 1) := by decide +kernel
theorem dX9_errs_14 : decode cX9_errs 14 = .ok (.aload_n 0, 1) := by decide +kernel
theorem dX9_errs_15 : decode cX9_errs 15 = .ok (.getfield 113, 3) := by decide +kernel
theorem dX9_errs_18 : decode cX9_errs 18 = .ok (.putfield 27, 3) := by decide +kernel
theorem dX9_errs_21 : decode cX9_errs 21 = .ok (.return_, 1) := by decide +kernel
theorem dX9_even_0 : decode cX9_even 0 = .ok (.aload_n 0, 1) := by decide +kernel
theorem dX9_even_1 : decode cX9_even 1 = .ok (.iload_n 1, 1) := by decide +kernel
theorem dX9_even_2 : decode cX9_even 2 = .ok (.invokevirtual 272, 3) := by decide +kernel
theorem dX9_even_5 : decode cX9_even 5 = .ok (.ifCond .ne 6, 3) := by decide +kernel
theorem dX9_even_8 : decode cX9_even 8 = .ok (.bipush (-2), 2) := by decide +kernel
theorem dX9_even_10 : decode cX9_even 10 = .ok (.ireturn, 1) := by decide +kernel
theorem dX9_even_11 : decode cX9_even 11 = .ok (.aload_n 0, 1) := by decide +kernel
theorem dX9_even_12 : decode cX9_even 12 = .ok (.iload_n 1, 1) := by decide +kernel
theorem dX9_even_13 : decode cX9_even 13 = .ok (.invokevirtual 286, 3) := by decide +kernel
theorem dX9_even_16 : decode cX9_even 16 = .ok (.aload_n 0, 1) := by decide +kernel
theorem dX9_even_17 : decode cX9_even 17 = .ok (.iload_n 1, 1) := by decide +kernel
theorem dX9_even_18 : decode cX9_even 18 = .ok (.invokevirtual 207, 3) := by decide +kernel
theorem dX9_even_21 : decode cX9_even 21 = .ok (.if_icmp .ne 7, 3) := by decide +kernel
theorem dX9_even_24 : decode cX9_even 24 = .ok (.iconst 1, 1) := by decide +kernel
theorem dX9_even_25 : decode cX9_even 25 = .ok (.goto 4, 3) := by decide +kernel
theorem dX9_even_28 : decode cX9_even 28 = .ok (.iconst 0, 1) := by decide +kernel
theorem dX9_even_29 : decode cX9_even 29 = .ok (.istore_n 2, 1) := by decide +kernel
theorem dX9_even_30 : decode cX9_even 30 = .ok (.iconst 0, 1) := by decide +kernel
theorem dX9_even_31 : decode cX9_even 31 = .ok (.istore_n 3, 1) := by decide +kernel
theorem dX9_even_32 : decode cX9_even 32 = .ok (.iload_n 3, 1) := by decide +kernel
theorem dX9_even_33 : decode cX9_even 33 = .ok (.aload_n 0, 1) := by decide +kernel
theorem dX9_even_34 : decode cX9_even 34 = .ok (.iload_n 1, 1) := by decide +kernel
theorem dX9_even_35 : decode cX9_even 35 = .ok (.invokevirtual 207, 3) := by decide +kernel
theorem dX9_even_38 : decode cX9_even 38 = .ok (.if_icmp .ge 34, 3) := by decide +kernel
theorem dX9_even_41 : decode cX9_even 41 = .ok (.iload_n 2, 1) := by decide +kernel
theorem dX9_even_42 : decode cX9_even 42 = .ok (.ifCond .eq 30, 3) := by decide +kernel
theorem dX9_even_45 : decode cX9_even 45 = .ok (.aload_n 0, 1) := by decide +kernel
theorem dX9_even_46 : decode cX9_even 46 = .ok (.iload_n 1, 1) := by decide +kernel
theorem dX9_even_47 : decode cX9_even 47 = .ok (.iload_n 3, 1) := by decide +kernel
theorem dX9_even_48 : decode cX9_even 48 = .ok (.invokevirtual 299, 3) := by decide +kernel
theorem dX9_even_51 : decode cX9_even 51 = .ok (.aload_n 0, 1) := by decide +kernel
theorem dX9_even_52 : decode cX9_even 52 = .ok (.iload_n 1, 1) := by decide +kernel
theorem dX9_even_53 : decode cX9_even 53 = .ok (.iload_n 3, 1) := by decide +kernel
theorem dX9_even_54 : decode cX9_even 54 = .ok (.invokevirtual 210, 3) := by decide +kernel
theorem dX9_even_57 : decode cX9_even 57 = .ok (.if_icmp .ne 7, 3) := by decide +kernel
theorem dX9_even_60 : decode cX9_even 60 = .ok (.iconst 1, 1) := by decide +kernel
theorem dX9_even_61 : decode cX9_even 61 = .ok (.goto 4, 3) := by decide +kernel
theorem dX9_even_64 : decode cX9_even 64 = .ok (.iconst 0, 1) := by decide +kernel
theorem dX9_even_65 : decode cX9_even 65 = .ok (.istore_n 2, 1) := by decide +kernel
theorem dX9_even_66 : decode cX9_even 66 = .ok (.iinc 3 1, 3) := by decide +kernel
theorem dX9_even_69 : decode cX9_even 69 = .ok (.goto (-37), 3) := by decide +kernel
theorem dX9_even_72 : decode cX9_even 72 = .ok (.iload_n 2, 1) := by decide +kernel
theorem dX9_even_73 : decode cX9_even 73 = .ok (.ifCond .eq 7, 3) := by decide +kernel
theorem dX9_even_76 : decode cX9_even 76 = .ok (.iconst 1, 1) := by decide +kernel
theorem dX9_even_77 : decode cX9_even 77 = .ok (.goto 4, 3) := by decide +kernel
theorem dX9_even_80 : decode cX9_even 80 = .ok (.iconst 0, 1) := by decide +kernel
theorem dX9_even_81 : decode cX9_even 81 = .ok (.ireturn, 1) := by decide +kernel
theorem dX9_expects_0 : decode cX9_expects 0 = .ok (.aload_n 0, 1) := by decide +kernel
theorem dX9_expects_1 : decode cX9_expects 1 = .ok (.aload_n 1, 1) := by decide +kernel
theorem dX9_expects_2 : decode cX9_expects 2 = .ok (.invokevirtual 159, 3) := by decide +kernel
theorem dX9_expects_5 : decode cX9_expects 5 = .ok (.ifCond .ne 8, 3) := by decide +kernel
theorem dX9_expects_8 : decode cX9_expects 8 = .ok (.aload_n 0, 1) := by decide +kernel
theorem dX9_expects_9 : decode cX9_expects 9 = .ok (.iconst 1, 1) := by decide +kernel
theorem dX9_expects_10 : decode cX9_expects 10 = .ok (.invokevirtual 162, 3) := by decide +kernel
theorem dX9_expects_13 : decode cX9_expects 13 = .ok (.return_, 1) := by decide +kernel
theorem dX9_factorial_0 : decode cX9_factorial 0 = .ok (.iconst 1, 1) := by decide +kernel
theorem dX9_factorial_1 : decode cX9_factorial 1 = .ok (.istore_n 1, 1) := by decide +kernel
theorem dX9_factorial_2 : decode cX9_factorial 2 = .ok (.iconst 2, 1) := by decide +kernel
theorem dX9_factorial_3 : decode cX9_factorial 3 = .ok (.istore_n 2, 1) := by decide +kernel
theorem dX9_factorial_4 : decode cX9_factorial 4 = .ok (.iload_n 2, 1) := by decide +kernel
theorem dX9_factorial_5 : decode cX9_factorial 5 = .ok (.iload_n 0, 1) := by decide +kernel
theorem dX9_factorial_6 : decode cX9_factorial 6 = .ok (.if_icmp .gt 13, 3) := by decide +kernel
theorem dX9_factorial_9 : decode cX9_factorial 9 = .ok (.iload_n 1, 1) := by decide +kernel
theorem dX9_factorial_10 : decode cX9_factorial 10 = .ok (.iload_n 2, 1) := by decide +kernel
theorem dX9_factorial_11 : decode cX9_factorial 11 = .ok (.imul, 1) := by decide +kernel
theorem dX9_factorial_12 : decode cX9_factorial 12 = .ok (.istore_n 1, 1) := by decide +kernel
theorem dX9_factorial_13 : decode cX9_factorial 13 = .ok (.iinc 2 1, 3) := by decide +kernel
theorem dX9_factorial_16 : decode cX9_factorial 16 = .ok (.goto (-12), 3) := by decide +kernel
theorem dX9_factorial_19 : decode cX9_factorial 19 = .ok (.iload_n 1, 1) := by decide +kernel
theorem dX9_factorial_20 : decode cX9_factorial 20 = .ok (.ireturn, 1) := by decide +kernel
theorem dX9_fault_0 : decode cX9_fault 0 = .ok (.iload_n 1, 1) := by decide +kernel
theorem dX9_fault_1 : decode cX9_fault 1 = .ok (.ifCond .ne 10, 3) := by decide +kernel
theorem dX9_fault_4 : decode cX9_fault 4 = .ok (.aload_n 0, 1) := by decide +kernel
theorem dX9_fault_5 : decode cX9_fault 5 = .ok (.getfield 137, 3) := by decide +kernel
theorem dX9_fault_8 : decode cX9_fault 8 = .ok (.goto 16, 3) := by decide +kernel
theorem dX9_fault_11 : decode cX9_fault 11 = .ok (.iload_n 1, 1) := by decide +kernel
theorem dX9_fault_12 : decode cX9_fault 12 = .ok (.iconst 1, 1) := by decide +kernel
theorem dX9_fault_13 : decode cX9_fault 13 = .ok (.if_icmp .ne 10, 3) := by decide +kernel
theorem dX9_fault_16 : decode cX9_fault 16 = .ok (.aload_n 0, 1) := by decide +kernel
theorem dX9_fault_17 : decode cX9_fault 17 = .ok (.getfield 27, 3) := by decide +kernel
theorem dX9_fault_20 : decode cX9_fault 20 = .ok (.goto 4, 3) := by decide +kernel
theorem dX9_fault_23 : decode cX9_fault 23 = .ok (.iconst (-1), 1) := by decide +kernel
theorem dX9_fault_24 : decode cX9_fault 24 = .ok (.ireturn, 1) := by decide +kernel
theorem dX9_feed_0 : decode cX9_feed 0 = .ok (.aload_n 0, 1) := by decide +kernel
theorem dX9_feed_1 : decode cX9_feed 1 = .ok (.getfield 100, 3) := by decide +kernel
theorem dX9_feed_4 : decode cX9_feed 4 = .ok (.bipush 20, 2) := by decide +kernel
theorem dX9_feed_6 : decode cX9_feed 6 = .ok (.iadd, 1) := by decide +kernel
theorem dX9_feed_7 : decode cX9_feed 7 = .ok (.sipush 500, 3) := by decide +kernel
theorem dX9_feed_10 : decode cX9_feed 10 = .ok (.if_icmp .le 5, 3) := by decide +kernel
theorem dX9_feed_13 : decode cX9_feed 13 = .ok (.iconst (-1), 1) := by decide +kernel
theorem dX9_feed_14 : decode cX9_feed 14 = .ok (.ireturn, 1) := by decide +kernel
theorem dX9_feed_15 : decode cX9_feed 15 = .ok (.aload_n 0, 1) := by decide +kernel
theorem dX9_feed_16 : decode cX9_feed 16 = .ok (.getfield 24, 3) := by decide +kernel
theorem dX9_feed_19 : decode cX9_feed 19 = .ok (.iconst 0, 1) := by decide +kernel
theorem dX9_feed_20 : decode cX9_feed 20 = .ok (.iload_n 1, 1) := by decide +kernel
theorem dX9_feed_21 : decode cX9_feed 21 = .ok (.iastore, 1) := by decide +kernel
theorem dX9_feed_22 : decode cX9_feed 22 = .ok (.aload_n 0, 1) := by decide +kernel
theorem dX9_feed_23 : decode cX9_feed 23 = .ok (.getfield 24, 3) := by decide +kernel
theorem dX9_feed_26 : decode cX9_feed 26 = .ok (.iconst 1, 1) := by decide +kernel
theorem dX9_feed_27 : decode cX9_feed 27 = .ok (.iload_n 2, 1) := by decide +kernel
theorem dX9_feed_28 : decode cX9_feed 28 = .ok (.iastore, 1) := by decide +kernel
theorem dX9_feed_29 : decode cX9_feed 29 = .ok (.aload_n 0, 1) := by decide +kernel
theorem dX9_feed_30 : decode cX9_feed 30 = .ok (.getfield 24, 3) := by decide +kernel
theorem dX9_feed_33 : decode cX9_feed 33 = .ok (.iconst 2, 1) := by decide +kernel
theorem dX9_feed_34 : decode cX9_feed 34 = .ok (.iload_n 3, 1) := by decide +kernel
theorem dX9_feed_35 : decode cX9_feed 35 = .ok (.iastore, 1) := by decide +kernel
theorem dX9_feed_36 : decode cX9_feed 36 = .ok (.aload_n 0, 1) := by decide +kernel
theorem dX9_feed_37 : decode cX9_feed 37 = .ok (.getfield 24, 3) := by decide +kernel
theorem dX9_feed_40 : decode cX9_feed 40 = .ok (.iconst 3, 1) := by decide +kernel
theorem dX9_feed_41 : decode cX9_feed 41 = .ok (.iload 4, 2) := by decide +kernel
theorem dX9_feed_43 : decode cX9_feed 43 = .ok (.iastore, 1) := by decide +kernel
theorem dX9_feed_44 : decode cX9_feed 44 = .ok (.aload_n 0, 1) := by decide +kernel
theorem dX9_feed_45 : decode cX9_feed 45 = .ok (.getfield 24, 3) := by decide +kernel
theorem dX9_feed_48 : decode cX9_feed 48 = .ok (.iconst 4, 1) := by decide +kernel
theorem dX9_feed_49 : decode cX9_feed 49 = .ok (.iload 5, 2) := by decide +kernel
theorem dX9_feed_51 : decode cX9_feed 51 = .ok (.iastore, 1) := by decide +kernel
theorem dX9_feed_52 : decode cX9_feed 52 = .ok (.iconst 0, 1) := by decide +kernel
theorem dX9_feed_53 : decode cX9_feed 53 = .ok (.istore 6, 2) := by decide +kernel
theorem dX9_feed_55 : decode cX9_feed 55 = .ok (.iload 6, 2) := by decide +kernel
theorem dX9_feed_57 : decode cX9_feed 57 = .ok (.bipush 20, 2) := by decide +kernel
theorem dX9_feed_59 : decode cX9_feed 59 = .ok (.if_icmp .ge 42, 3) := by decide +kernel
theorem dX9_feed_62 : decode cX9_feed 62 = .ok (.aload_n 0, 1) := by decide +kernel
theorem dX9_feed_63 : decode cX9_feed 63 = .ok (.getfield 20, 3) := by decide +kernel
theorem dX9_feed_66 : decode cX9_feed 66 = .ok (.aload_n 0, 1) := by decide +kernel
theorem dX9_feed_67 : decode cX9_feed 67 = .ok (.getfield 100, 3) := by decide +kernel
theorem dX9_feed_70 : decode cX9_feed 70 = .ok (.iload 6, 2) := by decide +kernel
theorem dX9_feed_72 : decode cX9_feed 72 = .ok (.iadd, 1) := by decide +kernel
theorem dX9_feed_73 : decode cX9_feed 73 = .ok (.aload_n 0, 1) := by decide +kernel
theorem dX9_feed_74 : decode cX9_feed 74 = .ok (.getfield 24, 3) := by decide +kernel
theorem dX9_feed_77 : decode cX9_feed 77 = .ok (.iload 6, 2) := by decide +kernel
theorem dX9_feed_79 : decode cX9_feed 79 = .ok (.iconst 4, 1) := by decide +kernel
theorem dX9_feed_80 : decode cX9_feed 80 = .ok (.idiv, 1) := by decide +kernel
theorem dX9_feed_81 : decode cX9_feed 81 = .ok (.iaload, 1) := by decide +kernel
theorem dX9_feed_82 : decode cX9_feed 82 = .ok (.bipush 24, 2) := by decide +kernel
theorem dX9_feed_84 : decode cX9_feed 84 = .ok (.bipush 8, 2) := by decide +kernel
theorem dX9_feed_86 : decode cX9_feed 86 = .ok (.iload 6, 2) := by decide +kernel
theorem dX9_feed_88 : decode cX9_feed 88 = .ok (.iconst 4, 1) := by decide +kernel
theorem dX9_feed_89 : decode cX9_feed 89 = .ok (.irem, 1) := by decide +kernel
theorem dX9_feed_90 : decode cX9_feed 90 = .ok (.imul, 1) := by decide +kernel
theorem dX9_feed_91 : decode cX9_feed 91 = .ok (.isub, 1) := by decide +kernel
theorem dX9_feed_92 : decode cX9_feed 92 = .ok (.ishr, 1) := by decide +kernel
theorem dX9_feed_93 : decode cX9_feed 93 = .ok (.i2b, 1) := by decide +kernel
theorem dX9_feed_94 : decode cX9_feed 94 = .ok (.bastore, 1) := by decide +kernel
theorem dX9_feed_95 : decode cX9_feed 95 = .ok (.iinc 6 1, 3) := by decide +kernel
theorem dX9_feed_98 : decode cX9_feed 98 = .ok (.goto (-43), 3) := by decide +kernel
theorem dX9_feed_101 : decode cX9_feed 101 = .ok (.aload_n 0, 1) := by decide +kernel
theorem dX9_feed_102 : decode cX9_feed 102 = .ok (.dup, 1) := by decide +kernel
theorem dX9_feed_103 : decode cX9_feed 103 = .ok (.getfield 100, 3) := by decide +kernel
theorem dX9_feed_106 : decode cX9_feed 106 = .ok (.bipush 20, 2) := by decide +kernel
theorem dX9_feed_108 : decode cX9_feed 108 = .ok (.iadd, 1) := by decide +kernel
theorem dX9_feed_109 : decode cX9_feed 109 = .ok (.putfield 100, 3) := by decide +kernel
theorem dX9_feed_112 : decode cX9_feed 112 = .ok (.aload_n 0, 1) := by decide +kernel
theorem dX9_feed_113 : decode cX9_feed 113 = .ok (.getfield 100, 3) := by decide +kernel
theorem dX9_feed_116 : decode cX9_feed 116 = .ok (.ireturn, 1) := by decide +kernel
theorem dX9_findListed_0 : decode cX9_findListed 0 = .ok (.iconst 0, 1) := by decide +kernel
theorem dX9_findListed_1 : decode cX9_findListed 1 = .ok (.istore_n 2, 1) := by decide +kernel
theorem dX9_findListed_2 : decode cX9_findListed 2 = .ok (.iload_n 2, 1) := by decide +kernel
theorem dX9_findListed_3 : decode cX9_findListed 3 = .ok (.aload_n 0, 1) := by decide +kernel
theorem dX9_findListed_4 : decode cX9_findListed 4 = .ok (.getfield 316, 3) := by decide +kernel
theorem dX9_findListed_7 : decode cX9_findListed 7 = .ok (.if_icmp .ge 28, 3) := by decide +kernel
theorem dX9_findListed_10 : decode cX9_findListed 10 = .ok (.aload_n 0, 1) := by decide +kernel
theorem dX9_findListed_11 : decode cX9_findListed 11 = .ok (.iload_n 2, 1) := by decide +kernel
theorem dX9_findListed_12 : decode cX9_findListed 12 = .ok (.bipush 20, 2) := by decide +kernel
theorem dX9_findListed_14 : decode cX9_findListed 14 = .ok (.invokevirtual 319, 3) := by decide +kernel
theorem dX9_findListed_17 : decode cX9_findListed 17 = .ok (.aload_n 0, 1) := by decide +kernel
theorem dX9_findListed_18 : decode cX9_findListed 18 = .ok (.iload_n 1, 1) := by decide +kernel
theorem dX9_findListed_19 : decode cX9_findListed 19 = .ok (.bipush 20, 2) := by decide +kernel
theorem dX9_findListed_21 : decode cX9_findListed 21 = .ok (.invokevirtual 289, 3) := by decide +kernel
theorem dX9_findListed_24 : decode cX9_findListed 24 = .ok (.ifCond .eq 5, 3) := by decide +kernel
theorem dX9_findListed_27 : decode cX9_findListed 27 = .ok (.iload_n 2, 1) := by decide +kernel
theorem dX9_findListed_28 : decode cX9_findListed 28 = .ok (.ireturn, 1) := by decide +kernel
theorem dX9_findListed_29 : decode cX9_findListed 29 = .ok (.iinc 2 1, 3) := by decide +kernel
theorem dX9_findListed_32 : decode cX9_findListed 32 = .ok (.goto (-30), 3) := by decide +kernel
theorem dX9_findListed_35 : decode cX9_findListed 35 = .ok (.iconst (-1), 1) := by decide +kernel
theorem dX9_findListed_36 : decode cX9_findListed 36 = .ok (.ireturn, 1) := by decide +kernel
theorem dX9_firstSame_0 : decode cX9_firstSame 0 = .ok (.iconst 0, 1) := by decide +kernel
theorem dX9_firstSame_1 : decode cX9_firstSame 1 = .ok (.istore_n 2, 1) := by decide +kernel
theorem dX9_firstSame_2 : decode cX9_firstSame 2 = .ok (.aload_n 0, 1) := by decide +kernel
theorem dX9_firstSame_3 : decode cX9_firstSame 3 = .ok (.iload_n 2, 1) := by decide +kernel
theorem dX9_firstSame_4 : decode cX9_firstSame 4 = .ok (.iload_n 1, 1) := by decide +kernel
theorem dX9_firstSame_5 : decode cX9_firstSame 5 = .ok (.invokevirtual 289, 3) := by decide +kernel
theorem dX9_firstSame_8 : decode cX9_firstSame 8 = .ok (.ifCond .ne 9, 3) := by decide +kernel
theorem dX9_firstSame_11 : decode cX9_firstSame 11 = .ok (.iinc 2 1, 3) := by decide +kernel
theorem dX9_firstSame_14 : decode cX9_firstSame 14 = .ok (.goto (-12), 3) := by decide +kernel
theorem dX9_firstSame_17 : decode cX9_firstSame 17 = .ok (.iload_n 2, 1) := by decide +kernel
theorem dX9_firstSame_18 : decode cX9_firstSame 18 = .ok (.ireturn, 1) := by decide +kernel
theorem dX9_flip_0 : decode cX9_flip 0 = .ok (.aload_n 0, 1) := by decide +kernel
theorem dX9_flip_1 : decode cX9_flip 1 = .ok (.iload_n 1, 1) := by decide +kernel
theorem dX9_flip_2 : decode cX9_flip 2 = .ok (.invokevirtual 272, 3) := by decide +kernel
theorem dX9_flip_5 : decode cX9_flip 5 = .ok (.ifCond .eq 7, 3) := by decide +kernel
theorem dX9_flip_8 : decode cX9_flip 8 = .ok (.iload_n 2, 1) := by decide +kernel
theorem dX9_flip_9 : decode cX9_flip 9 = .ok (.ifCond .ge 6, 3) := by decide +kernel
theorem dX9_flip_12 : decode cX9_flip 12 = .ok (.bipush (-2), 2) := by decide +kernel
theorem dX9_flip_14 : decode cX9_flip 14 = .ok (.ireturn, 1) := by decide +kernel
theorem dX9_flip_15 : decode cX9_flip 15 = .ok (.iload_n 2, 1) := by decide +kernel
theorem dX9_flip_16 : decode cX9_flip 16 = .ok (.aload_n 0, 1) := by decide +kernel
theorem dX9_flip_17 : decode cX9_flip 17 = .ok (.iload_n 1, 1) := by decide +kernel
theorem dX9_flip_18 : decode cX9_flip 18 = .ok (.invokevirtual 286, 3) := by decide +kernel
theorem dX9_flip_21 : decode cX9_flip 21 = .ok (.if_icmp .ge 12, 3) := by decide +kernel
theorem dX9_flip_24 : decode cX9_flip 24 = .ok (.aload_n 0, 1) := by decide +kernel
theorem dX9_flip_25 : decode cX9_flip 25 = .ok (.iload_n 1, 1) := by decide +kernel
theorem dX9_flip_26 : decode cX9_flip 26 = .ok (.iload_n 2, 1) := by decide +kernel
theorem dX9_flip_27 : decode cX9_flip 27 = .ok (.invokevirtual 299, 3) := by decide +kernel
theorem dX9_flip_30 : decode cX9_flip 30 = .ok (.goto 4, 3) := by decide +kernel
theorem dX9_flip_33 : decode cX9_flip 33 = .ok (.iconst (-1), 1) := by decide +kernel
theorem dX9_flip_34 : decode cX9_flip 34 = .ok (.ireturn, 1) := by decide +kernel
theorem dX9_from_0 : decode cX9_from 0 = .ok (.iload_n 2, 1) := by decide +kernel
theorem dX9_from_1 : decode cX9_from 1 = .ok (.ifCond .ge 8, 3) := by decide +kernel
theorem dX9_from_4 : decode cX9_from 4 = .ok (.bipush (-2), 2) := by decide +kernel
theorem dX9_from_6 : decode cX9_from 6 = .ok (.goto 8, 3) := by decide +kernel
theorem dX9_from_9 : decode cX9_from 9 = .ok (.aload_n 0, 1) := by decide +kernel
theorem dX9_from_10 : decode cX9_from 10 = .ok (.iload_n 1, 1) := by decide +kernel
theorem dX9_from_11 : decode cX9_from 11 = .ok (.invokevirtual 358, 3) := by decide +kernel
theorem dX9_from_14 : decode cX9_from 14 = .ok (.istore_n 3, 1) := by decide +kernel
theorem dX9_from_15 : decode cX9_from 15 = .ok (.iload_n 3, 1) := by decide +kernel
theorem dX9_from_16 : decode cX9_from 16 = .ok (.ifCond .ge 5, 3) := by decide +kernel
theorem dX9_from_19 : decode cX9_from 19 = .ok (.iload_n 3, 1) := by decide +kernel
theorem dX9_from_20 : decode cX9_from 20 = .ok (.ireturn, 1) := by decide +kernel
theorem dX9_from_21 : decode cX9_from 21 = .ok (.iconst 0, 1) := by decide +kernel
theorem dX9_from_22 : decode cX9_from 22 = .ok (.istore 4, 2) := by decide +kernel
theorem dX9_from_24 : decode cX9_from 24 = .ok (.iload 4, 2) := by decide +kernel
theorem dX9_from_26 : decode cX9_from 26 = .ok (.aload_n 0, 1) := by decide +kernel
theorem dX9_from_27 : decode cX9_from 27 = .ok (.getfield 316, 3) := by decide +kernel
theorem dX9_from_30 : decode cX9_from 30 = .ok (.if_icmp .ge 60, 3) := by decide +kernel
theorem dX9_from_33 : decode cX9_from 33 = .ok (.aload_n 0, 1) := by decide +kernel
theorem dX9_from_34 : decode cX9_from 34 = .ok (.getfield 52, 3) := by decide +kernel
theorem dX9_from_37 : decode cX9_from 37 = .ok (.iload 4, 2) := by decide +kernel
theorem dX9_from_39 : decode cX9_from 39 = .ok (.iaload, 1) := by decide +kernel
theorem dX9_from_40 : decode cX9_from 40 = .ok (.aload_n 0, 1) := by decide +kernel
theorem dX9_from_41 : decode cX9_from 41 = .ok (.getfield 355, 3) := by decide +kernel
theorem dX9_from_44 : decode cX9_from 44 = .ok (.if_icmp .eq 6, 3) := by decide +kernel
theorem dX9_from_47 : decode cX9_from 47 = .ok (.goto 37, 3) := by decide +kernel
theorem dX9_from_50 : decode cX9_from 50 = .ok (.bipush 15, 2) := by decide +kernel
theorem dX9_from_52 : decode cX9_from 52 = .ok (.iload 4, 2) := by decide +kernel
theorem dX9_from_54 : decode cX9_from 54 = .ok (.imul, 1) := by decide +kernel
theorem dX9_from_55 : decode cX9_from 55 = .ok (.istore 5, 2) := by decide +kernel
theorem dX9_from_57 : decode cX9_from 57 = .ok (.iload_n 2, 1) := by decide +kernel
theorem dX9_from_58 : decode cX9_from 58 = .ok (.aload_n 0, 1) := by decide +kernel
theorem dX9_from_59 : decode cX9_from 59 = .ok (.getfield 49, 3) := by decide +kernel
theorem dX9_from_62 : decode cX9_from 62 = .ok (.iload 5, 2) := by decide +kernel
theorem dX9_from_64 : decode cX9_from 64 = .ok (.iaload, 1) := by decide +kernel
theorem dX9_from_65 : decode cX9_from 65 = .ok (.if_icmp .ge 17, 3) := by decide +kernel
theorem dX9_from_68 : decode cX9_from 68 = .ok (.aload_n 0, 1) := by decide +kernel
theorem dX9_from_69 : decode cX9_from 69 = .ok (.getfield 49, 3) := by decide +kernel
theorem dX9_from_72 : decode cX9_from 72 = .ok (.iload 5, 2) := by decide +kernel
theorem dX9_from_74 : decode cX9_from 74 = .ok (.iconst 1, 1) := by decide +kernel
theorem dX9_from_75 : decode cX9_from 75 = .ok (.iadd, 1) := by decide +kernel
theorem dX9_from_76 : decode cX9_from 76 = .ok (.iload_n 2, 1) := by decide +kernel
theorem dX9_from_77 : decode cX9_from 77 = .ok (.iadd, 1) := by decide +kernel
theorem dX9_from_78 : decode cX9_from 78 = .ok (.iaload, 1) := by decide +kernel
theorem dX9_from_79 : decode cX9_from 79 = .ok (.goto 4, 3) := by decide +kernel
theorem dX9_from_82 : decode cX9_from 82 = .ok (.iconst (-1), 1) := by decide +kernel
theorem dX9_from_83 : decode cX9_from 83 = .ok (.ireturn, 1) := by decide +kernel
theorem dX9_from_84 : decode cX9_from 84 = .ok (.iinc 4 1, 3) := by decide +kernel
theorem dX9_from_87 : decode cX9_from 87 = .ok (.goto (-63), 3) := by decide +kernel
theorem dX9_from_90 : decode cX9_from 90 = .ok (.iconst (-1), 1) := by decide +kernel
theorem dX9_from_91 : decode cX9_from 91 = .ok (.ireturn, 1) := by decide +kernel
theorem dX9_gardens_0 : decode cX9_gardens 0 = .ok (.aload_n 0, 1) := by decide +kernel
theorem dX9_gardens_1 : decode cX9_gardens 1 = .ok (.iload_n 1, 1) := by decide +kernel
theorem dX9_gardens_2 : decode cX9_gardens 2 = .ok (.invokevirtual 342, 3) := by decide +kernel
theorem dX9_gardens_5 : decode cX9_gardens 5 = .ok (.ifCond .ne 6, 3) := by decide +kernel
theorem dX9_gardens_8 : decode cX9_gardens 8 = .ok (.bipush (-2), 2) := by decide +kernel
theorem dX9_gardens_10 : decode cX9_gardens 10 = .ok (.ireturn, 1) := by decide +kernel
theorem dX9_gardens_11 : decode cX9_gardens 11 = .ok (.iconst 0, 1) := by decide +kernel
theorem dX9_gardens_12 : decode cX9_gardens 12 = .ok (.istore_n 2, 1) := by decide +kernel
theorem dX9_gardens_13 : decode cX9_gardens 13 = .ok (.iconst 0, 1) := by decide +kernel
theorem dX9_gardens_14 : decode cX9_gardens 14 = .ok (.istore_n 3, 1) := by decide +kernel
theorem dX9_gardens_15 : decode cX9_gardens 15 = .ok (.iload_n 3, 1) := by decide +kernel
theorem dX9_gardens_16 : decode cX9_gardens 16 = .ok (.aload_n 0, 1) := by decide +kernel
theorem dX9_gardens_17 : decode cX9_gardens 17 = .ok (.getfield 316, 3) := by decide +kernel
theorem dX9_gardens_20 : decode cX9_gardens 20 = .ok (.if_icmp .ge 25, 3) := by decide +kernel
theorem dX9_gardens_23 : decode cX9_gardens 23 = .ok (.iload_n 2, 1) := by decide +kernel
theorem dX9_gardens_24 : decode cX9_gardens 24 = .ok (.aload_n 0, 1) := by decide +kernel
theorem dX9_gardens_25 : decode cX9_gardens 25 = .ok (.iload_n 3, 1) := by decide +kernel
theorem dX9_gardens_26 : decode cX9_gardens 26 = .ok (.invokevirtual 345, 3) := by decide +kernel
theorem dX9_gardens_29 : decode cX9_gardens 29 = .ok (.ifCond .ne 7, 3) := by decide +kernel
theorem dX9_gardens_32 : decode cX9_gardens 32 = .ok (.iconst 1, 1) := by decide +kernel
theorem dX9_gardens_33 : decode cX9_gardens 33 = .ok (.goto 4, 3) := by decide +kernel
theorem dX9_gardens_36 : decode cX9_gardens 36 = .ok (.iconst 0, 1) := by decide +kernel
theorem dX9_gardens_37 : decode cX9_gardens 37 = .ok (.iadd, 1) := by decide +kernel
theorem dX9_gardens_38 : decode cX9_gardens 38 = .ok (.istore_n 2, 1) := by decide +kernel
theorem dX9_gardens_39 : decode cX9_gardens 39 = .ok (.iinc 3 1, 3) := by decide +kernel
theorem dX9_gardens_42 : decode cX9_gardens 42 = .ok (.goto (-27), 3) := by decide +kernel
theorem dX9_gardens_45 : decode cX9_gardens 45 = .ok (.iload_n 2, 1) := by decide +kernel
theorem dX9_gardens_46 : decode cX9_gardens 46 = .ok (.ireturn, 1) := by decide +kernel
theorem dX9_gets_0 : decode cX9_gets 0 = .ok (.aload_n 0, 1) := by decide +kernel
theorem dX9_gets_1 : decode cX9_gets 1 = .ok (.iload_n 1, 1) := by decide +kernel
theorem dX9_gets_2 : decode cX9_gets 2 = .ok (.iload_n 2, 1) := by decide +kernel
theorem dX9_gets_3 : decode cX9_gets 3 = .ok (.invokevirtual 429, 3) := by decide +kernel
theorem dX9_gets_6 : decode cX9_gets 6 = .ok (.ifCond .eq 49, 3) := by decide +kernel
theorem dX9_gets_9 : decode cX9_gets 9 = .ok (.iload_n 3, 1) := by decide +kernel
theorem dX9_gets_10 : decode cX9_gets 10 = .ok (.i2l, 1) := by decide +kernel
theorem dX9_gets_11 : decode cX9_gets 11 = .ok (.lconst 0, 1) := by decide +kernel
theorem dX9_gets_12 : decode cX9_gets 12 = .ok (.lconst 1, 1) := by decide +kernel
theorem dX9_gets_13 : decode cX9_gets 13 = .ok (.invokestatic 85, 3) := by decide +kernel
theorem dX9_gets_16 : decode cX9_gets 16 = .ok (.ifCond .eq 39, 3) := by decide +kernel
theorem dX9_gets_19 : decode cX9_gets 19 = .ok (.iload 4, 2) := by decide +kernel
theorem dX9_gets_21 : decode cX9_gets 21 = .ok (.i2l, 1) := by decide +kernel
theorem dX9_gets_22 : decode cX9_gets 22 = .ok (.lconst 0, 1) := by decide +kernel
theorem dX9_gets_23 : decode cX9_gets 23 = .ok (.lconst 1, 1) := by decide +kernel
theorem dX9_gets_24 : decode cX9_gets 24 = .ok (.invokestatic 85, 3) := by decide +kernel
theorem dX9_gets_27 : decode cX9_gets 27 = .ok (.ifCond .eq 28, 3) := by decide +kernel
theorem dX9_gets_30 : decode cX9_gets 30 = .ok (.iload 5, 2) := by decide +kernel
theorem dX9_gets_32 : decode cX9_gets 32 = .ok (.i2l, 1) := by decide +kernel
theorem dX9_gets_33 : decode cX9_gets 33 = .ok (.lconst 0, 1) := by decide +kernel
theorem dX9_gets_34 : decode cX9_gets 34 = .ok (.lconst 1, 1) := by decide +kernel
theorem dX9_gets_35 : decode cX9_gets 35 = .ok (.invokestatic 85, 3) := by decide +kernel
theorem dX9_gets_38 : decode cX9_gets 38 = .ok (.ifCond .eq 17, 3) := by decide +kernel
theorem dX9_gets_41 : decode cX9_gets 41 = .ok (.aload_n 0, 1) := by decide +kernel
theorem dX9_gets_42 : decode cX9_gets 42 = .ok (.iload_n 1, 1) := by decide +kernel
theorem dX9_gets_43 : decode cX9_gets 43 = .ok (.iload_n 2, 1) := by decide +kernel
theorem dX9_gets_44 : decode cX9_gets 44 = .ok (.iload_n 3, 1) := by decide +kernel
theorem dX9_gets_45 : decode cX9_gets 45 = .ok (.iload 4, 2) := by decide +kernel
theorem dX9_gets_47 : decode cX9_gets 47 = .ok (.iload 5, 2) := by decide +kernel
theorem dX9_gets_49 : decode cX9_gets 49 = .ok (.invokevirtual 432, 3) := by decide +kernel
theorem dX9_gets_52 : decode cX9_gets 52 = .ok (.goto 6, 3) := by decide +kernel
theorem dX9_gets_55 : decode cX9_gets 55 = .ok (.sipush (-1000), 3) := by decide +kernel
theorem dX9_gets_58 : decode cX9_gets 58 = .ok (.ireturn, 1) := by decide +kernel
theorem dX9_getsBy_0 : decode cX9_getsBy 0 = .ok (.aload_n 0, 1) := by decide +kernel
theorem dX9_getsBy_1 : decode cX9_getsBy 1 = .ok (.invokevirtual 259, 3) := by decide +kernel
theorem dX9_getsBy_4 : decode cX9_getsBy 4 = .ok (.aload_n 0, 1) := by decide +kernel
theorem dX9_getsBy_5 : decode cX9_getsBy 5 = .ok (.getfield 40, 3) := by decide +kernel
theorem dX9_getsBy_8 : decode cX9_getsBy 8 = .ok (.iload_n 1, 1) := by decide +kernel
theorem dX9_getsBy_9 : decode cX9_getsBy 9 = .ok (.dup2, 1) := by decide +kernel
theorem dX9_getsBy_10 : decode cX9_getsBy 10 = .ok (.iaload, 1) := by decide +kernel
theorem dX9_getsBy_11 : decode cX9_getsBy 11 = .ok (.iload_n 3, 1) := by decide +kernel
theorem dX9_getsBy_12 : decode cX9_getsBy 12 = .ok (.iadd, 1) := by decide +kernel
theorem dX9_getsBy_13 : decode cX9_getsBy 13 = .ok (.iastore, 1) := by decide +kernel
theorem dX9_getsBy_14 : decode cX9_getsBy 14 = .ok (.aload_n 0, 1) := by decide +kernel
theorem dX9_getsBy_15 : decode cX9_getsBy 15 = .ok (.getfield 40, 3) := by decide +kernel
theorem dX9_getsBy_18 : decode cX9_getsBy 18 = .ok (.iload_n 2, 1) := by decide +kernel
theorem dX9_getsBy_19 : decode cX9_getsBy 19 = .ok (.dup2, 1) := by decide +kernel
theorem dX9_getsBy_20 : decode cX9_getsBy 20 = .ok (.iaload, 1) := by decide +kernel
theorem dX9_getsBy_21 : decode cX9_getsBy 21 = .ok (.iload 4, 2) := by decide +kernel
theorem dX9_getsBy_23 : decode cX9_getsBy 23 = .ok (.iadd, 1) := by decide +kernel
theorem dX9_getsBy_24 : decode cX9_getsBy 24 = .ok (.iastore, 1) := by decide +kernel
theorem dX9_getsBy_25 : decode cX9_getsBy 25 = .ok (.aload_n 0, 1) := by decide +kernel
theorem dX9_getsBy_26 : decode cX9_getsBy 26 = .ok (.invokevirtual 262, 3) := by decide +kernel
theorem dX9_getsBy_29 : decode cX9_getsBy 29 = .ok (.aload_n 0, 1) := by decide +kernel
theorem dX9_getsBy_30 : decode cX9_getsBy 30 = .ok (.aload_n 0, 1) := by decide +kernel
theorem dX9_getsBy_31 : decode cX9_getsBy 31 = .ok (.invokevirtual 93, 3) := by decide +kernel
theorem dX9_getsBy_34 : decode cX9_getsBy 34 = .ok (.invokevirtual 286, 3) := by decide +kernel
theorem dX9_getsBy_37 : decode cX9_getsBy 37 = .ok (.istore 6, 2) := by decide +kernel
theorem dX9_getsBy_39 : decode cX9_getsBy 39 = .ok (.iload 5, 2) := by decide +kernel
theorem dX9_getsBy_41 : decode cX9_getsBy 41 = .ok (.ifCond .ne 17, 3) := by decide +kernel
theorem dX9_getsBy_44 : decode cX9_getsBy 44 = .ok (.iconst 2, 1) := by decide +kernel
theorem dX9_getsBy_45 : decode cX9_getsBy 45 = .ok (.aload_n 0, 1) := by decide +kernel
theorem dX9_getsBy_46 : decode cX9_getsBy 46 = .ok (.invokevirtual 361, 3) := by decide +kernel
theorem dX9_getsBy_49 : decode cX9_getsBy 49 = .ok (.imul, 1) := by decide +kernel
theorem dX9_getsBy_50 : decode cX9_getsBy 50 = .ok (.iload 6, 2) := by decide +kernel
theorem dX9_getsBy_52 : decode cX9_getsBy 52 = .ok (.iadd, 1) := by decide +kernel
theorem dX9_getsBy_53 : decode cX9_getsBy 53 = .ok (.iload_n 3, 1) := by decide +kernel
theorem dX9_getsBy_54 : decode cX9_getsBy 54 = .ok (.isub, 1) := by decide +kernel
theorem dX9_getsBy_55 : decode cX9_getsBy 55 = .ok (.goto 15, 3) := by decide +kernel
theorem dX9_getsBy_58 : decode cX9_getsBy 58 = .ok (.aload_n 0, 1) := by decide +kernel
theorem dX9_getsBy_59 : decode cX9_getsBy 59 = .ok (.invokevirtual 361, 3) := by decide +kernel
theorem dX9_getsBy_62 : decode cX9_getsBy 62 = .ok (.iconst 2, 1) := by decide +kernel
theorem dX9_getsBy_63 : decode cX9_getsBy 63 = .ok (.iload 6, 2) := by decide +kernel
theorem dX9_getsBy_65 : decode cX9_getsBy 65 = .ok (.imul, 1) := by decide +kernel
theorem dX9_getsBy_66 : decode cX9_getsBy 66 = .ok (.iadd, 1) := by decide +kernel
theorem dX9_getsBy_67 : decode cX9_getsBy 67 = .ok (.iload 4, 2) := by decide +kernel
theorem dX9_getsBy_69 : decode cX9_getsBy 69 = .ok (.isub, 1) := by decide +kernel
theorem dX9_getsBy_70 : decode cX9_getsBy 70 = .ok (.ireturn, 1) := by decide +kernel
theorem dX9_goAll_0 : decode cX9_goAll 0 = .ok (.aload_n 0, 1) := by decide +kernel
theorem dX9_goAll_1 : decode cX9_goAll 1 = .ok (.bipush 17, 2) := by decide +kernel
theorem dX9_goAll_3 : decode cX9_goAll 3 = .ok (.invokevirtual 229, 3) := by decide +kernel
theorem dX9_goAll_6 : decode cX9_goAll 6 = .ok (.iconst 0, 1) := by decide +kernel
theorem dX9_goAll_7 : decode cX9_goAll 7 = .ok (.istore_n 1, 1) := by decide +kernel
theorem dX9_goAll_8 : decode cX9_goAll 8 = .ok (.iload_n 1, 1) := by decide +kernel
theorem dX9_goAll_9 : decode cX9_goAll 9 = .ok (.aload_n 0, 1) := by decide +kernel
theorem dX9_goAll_10 : decode cX9_goAll 10 = .ok (.getfield 9, 3) := by decide +kernel
theorem dX9_goAll_13 : decode cX9_goAll 13 = .ok (.iconst 3, 1) := by decide +kernel
theorem dX9_goAll_14 : decode cX9_goAll 14 = .ok (.iaload, 1) := by decide +kernel
theorem dX9_goAll_15 : decode cX9_goAll 15 = .ok (.if_icmp .ge 21, 3) := by decide +kernel
theorem dX9_goAll_18 : decode cX9_goAll 18 = .ok (.aload_n 0, 1) := by decide +kernel
theorem dX9_goAll_19 : decode cX9_goAll 19 = .ok (.bipush 17, 2) := by decide +kernel
theorem dX9_goAll_21 : decode cX9_goAll 21 = .ok (.aload_n 0, 1) := by decide +kernel
theorem dX9_goAll_22 : decode cX9_goAll 22 = .ok (.getfield 37, 3) := by decide +kernel
theorem dX9_goAll_25 : decode cX9_goAll 25 = .ok (.iload_n 1, 1) := by decide +kernel
theorem dX9_goAll_26 : decode cX9_goAll 26 = .ok (.iaload, 1) := by decide +kernel
theorem dX9_goAll_27 : decode cX9_goAll 27 = .ok (.invokevirtual 232, 3) := by decide +kernel
theorem dX9_goAll_30 : decode cX9_goAll 30 = .ok (.iinc 1 1, 3) := by decide +kernel
theorem dX9_goAll_33 : decode cX9_goAll 33 = .ok (.goto (-25), 3) := by decide +kernel
theorem dX9_goAll_36 : decode cX9_goAll 36 = .ok (.iconst 0, 1) := by decide +kernel
theorem dX9_goAll_37 : decode cX9_goAll 37 = .ok (.istore_n 1, 1) := by decide +kernel
theorem dX9_goAll_38 : decode cX9_goAll 38 = .ok (.iload_n 1, 1) := by decide +kernel
theorem dX9_goAll_39 : decode cX9_goAll 39 = .ok (.aload_n 0, 1) := by decide +kernel
theorem dX9_goAll_40 : decode cX9_goAll 40 = .ok (.invokevirtual 93, 3) := by decide +kernel
theorem dX9_goAll_43 : decode cX9_goAll 43 = .ok (.if_icmp .gt 77, 3) := by decide +kernel
theorem dX9_goAll_46 : decode cX9_goAll 46 = .ok (.aload_n 0, 1) := by decide +kernel
theorem dX9_goAll_47 : decode cX9_goAll 47 = .ok (.iload_n 1, 1) := by decide +kernel
theorem dX9_goAll_48 : decode cX9_goAll 48 = .ok (.invokevirtual 253, 3) := by decide +kernel
theorem dX9_goAll_51 : decode cX9_goAll 51 = .ok (.aload_n 0, 1) := by decide +kernel
theorem dX9_goAll_52 : decode cX9_goAll 52 = .ok (.bipush 17, 2) := by decide +kernel
theorem dX9_goAll_54 : decode cX9_goAll 54 = .ok (.iload_n 1, 1) := by decide +kernel
theorem dX9_goAll_55 : decode cX9_goAll 55 = .ok (.invokevirtual 225, 3) := by decide +kernel
theorem dX9_goAll_58 : decode cX9_goAll 58 = .ok (.iload_n 1, 1) := by decide +kernel
theorem dX9_goAll_59 : decode cX9_goAll 59 = .ok (.aload_n 0, 1) := by decide +kernel
theorem dX9_goAll_60 : decode cX9_goAll 60 = .ok (.invokevirtual 93, 3) := by decide +kernel
theorem dX9_goAll_63 : decode cX9_goAll 63 = .ok (.if_icmp .ne 4, 3) := by decide +kernel
theorem dX9_goAll_66 : decode cX9_goAll 66 = .ok (.return_, 1) := by decide +kernel
theorem dX9_goAll_67 : decode cX9_goAll 67 = .ok (.aload_n 0, 1) := by decide +kernel
theorem dX9_goAll_68 : decode cX9_goAll 68 = .ok (.iconst 0, 1) := by decide +kernel
theorem dX9_goAll_69 : decode cX9_goAll 69 = .ok (.putfield 216, 3) := by decide +kernel
theorem dX9_goAll_72 : decode cX9_goAll 72 = .ok (.aload_n 0, 1) := by decide +kernel
theorem dX9_goAll_73 : decode cX9_goAll 73 = .ok (.iconst 0, 1) := by decide +kernel
theorem dX9_goAll_74 : decode cX9_goAll 74 = .ok (.putfield 219, 3) := by decide +kernel
theorem dX9_goAll_77 : decode cX9_goAll 77 = .ok (.aload_n 0, 1) := by decide +kernel
theorem dX9_goAll_78 : decode cX9_goAll 78 = .ok (.getfield 235, 3) := by decide +kernel
theorem dX9_goAll_81 : decode cX9_goAll 81 = .ok (.iload_n 1, 1) := by decide +kernel
theorem dX9_goAll_82 : decode cX9_goAll 82 = .ok (.invokestatic 244, 3) := by decide +kernel
theorem dX9_goAll_85 : decode cX9_goAll 85 = .ok (.ifCond .ne 9, 3) := by decide +kernel
theorem dX9_goAll_88 : decode cX9_goAll 88 = .ok (.aload_n 0, 1) := by decide +kernel
theorem dX9_goAll_89 : decode cX9_goAll 89 = .ok (.bipush 17, 2) := by decide +kernel
theorem dX9_goAll_91 : decode cX9_goAll 91 = .ok (.invokevirtual 256, 3) := by decide +kernel
theorem dX9_goAll_94 : decode cX9_goAll 94 = .ok (.aload_n 0, 1) := by decide +kernel
theorem dX9_goAll_95 : decode cX9_goAll 95 = .ok (.getfield 43, 3) := by decide +kernel
theorem dX9_goAll_98 : decode cX9_goAll 98 = .ok (.iload_n 1, 1) := by decide +kernel
theorem dX9_goAll_99 : decode cX9_goAll 99 = .ok (.aload_n 0, 1) := by decide +kernel
theorem dX9_goAll_100 : decode cX9_goAll 100 = .ok (.getfield 216, 3) := by decide +kernel
theorem dX9_goAll_103 : decode cX9_goAll 103 = .ok (.iastore, 1) := by decide +kernel
theorem dX9_goAll_104 : decode cX9_goAll 104 = .ok (.aload_n 0, 1) := by decide +kernel
theorem dX9_goAll_105 : decode cX9_goAll 105 = .ok (.getfield 46, 3) := by decide +kernel
theorem dX9_goAll_108 : decode cX9_goAll 108 = .ok (.iload_n 1, 1) := by decide +kernel
theorem dX9_goAll_109 : decode cX9_goAll 109 = .ok (.aload_n 0, 1) := by decide +kernel
theorem dX9_goAll_110 : decode cX9_goAll 110 = .ok (.getfield 219, 3) := by decide +kernel
theorem dX9_goAll_113 : decode cX9_goAll 113 = .ok (.iastore, 1) := by decide +kernel
theorem dX9_goAll_114 : decode cX9_goAll 114 = .ok (.iinc 1 1, 3) := by decide +kernel
theorem dX9_goAll_117 : decode cX9_goAll 117 = .ok (.goto (-79), 3) := by decide +kernel
theorem dX9_goAll_120 : decode cX9_goAll 120 = .ok (.return_, 1) := by decide +kernel
theorem dX9_goDrawn_0 : decode cX9_goDrawn 0 = .ok (.aload_n 0, 1) := by decide +kernel
theorem dX9_goDrawn_1 : decode cX9_goDrawn 1 = .ok (.invokevirtual 259, 3) := by decide +kernel
theorem dX9_goDrawn_4 : decode cX9_goDrawn 4 = .ok (.lload_n 1, 1) := by decide +kernel
theorem dX9_goDrawn_5 : decode cX9_goDrawn 5 = .ok (.lstore_n 3, 1) := by decide +kernel
theorem dX9_goDrawn_6 : decode cX9_goDrawn 6 = .ok (.iconst 0, 1) := by decide +kernel
theorem dX9_goDrawn_7 : decode cX9_goDrawn 7 = .ok (.istore 5, 2) := by decide +kernel
theorem dX9_goDrawn_9 : decode cX9_goDrawn 9 = .ok (.iload 5, 2) := by decide +kernel
theorem dX9_goDrawn_11 : decode cX9_goDrawn 11 = .ok (.aload_n 0, 1) := by decide +kernel
theorem dX9_goDrawn_12 : decode cX9_goDrawn 12 = .ok (.invokevirtual 93, 3) := by decide +kernel
theorem dX9_goDrawn_15 : decode cX9_goDrawn 15 = .ok (.if_icmp .ge 60, 3) := by decide +kernel
theorem dX9_goDrawn_18 : decode cX9_goDrawn 18 = .ok (.ldc2_w 459, 3) := by decide +kernel
theorem dX9_goDrawn_21 : decode cX9_goDrawn 21 = .ok (.lload_n 3, 1) := by decide +kernel
theorem dX9_goDrawn_22 : decode cX9_goDrawn 22 = .ok (.lmul, 1) := by decide +kernel
theorem dX9_goDrawn_23 : decode cX9_goDrawn 23 = .ok (.ldc2_w 461, 3) := by decide +kernel
theorem dX9_goDrawn_26 : decode cX9_goDrawn 26 = .ok (.ladd, 1) := by decide +kernel
theorem dX9_goDrawn_27 : decode cX9_goDrawn 27 = .ok (.ldc2_w 463, 3) := by decide +kernel
theorem dX9_goDrawn_30 : decode cX9_goDrawn 30 = .ok (.lrem, 1) := by decide +kernel
theorem dX9_goDrawn_31 : decode cX9_goDrawn 31 = .ok (.lstore_n 3, 1) := by decide +kernel
theorem dX9_goDrawn_32 : decode cX9_goDrawn 32 = .ok (.aload_n 0, 1) := by decide +kernel
theorem dX9_goDrawn_33 : decode cX9_goDrawn 33 = .ok (.dup, 1) := by decide +kernel
theorem dX9_goDrawn_34 : decode cX9_goDrawn 34 = .ok (.getfield 235, 3) := by decide +kernel
theorem dX9_goDrawn_37 : decode cX9_goDrawn 37 = .ok (.lload_n 3, 1) := by decide +kernel
theorem dX9_goDrawn_38 : decode cX9_goDrawn 38 = .ok (.ldc2_w 465, 3) := by decide +kernel
theorem dX9_goDrawn_41 : decode cX9_goDrawn 41 = .ok (.ldiv, 1) := by decide +kernel
theorem dX9_goDrawn_42 : decode cX9_goDrawn 42 = .ok (.ldc2_w 467, 3) := by decide +kernel
theorem dX9_goDrawn_45 : decode cX9_goDrawn 45 = .ok (.lrem, 1) := by decide +kernel
theorem dX9_goDrawn_46 : decode cX9_goDrawn 46 = .ok (.aload_n 0, 1) := by decide +kernel
theorem dX9_goDrawn_47 : decode cX9_goDrawn 47 = .ok (.getfield 9, 3) := by decide +kernel
theorem dX9_goDrawn_50 : decode cX9_goDrawn 50 = .ok (.iconst 2, 1) := by decide +kernel
theorem dX9_goDrawn_51 : decode cX9_goDrawn 51 = .ok (.iaload, 1) := by decide +kernel
theorem dX9_goDrawn_52 : decode cX9_goDrawn 52 = .ok (.i2l, 1) := by decide +kernel
theorem dX9_goDrawn_53 : decode cX9_goDrawn 53 = .ok (.lcmp, 1) := by decide +kernel
theorem dX9_goDrawn_54 : decode cX9_goDrawn 54 = .ok (.ifCond .ge 10, 3) := by decide +kernel
theorem dX9_goDrawn_57 : decode cX9_goDrawn 57 = .ok (.iconst 1, 1) := by decide +kernel
theorem dX9_goDrawn_58 : decode cX9_goDrawn 58 = .ok (.iload 5, 2) := by decide +kernel
theorem dX9_goDrawn_60 : decode cX9_goDrawn 60 = .ok (.ishl, 1) := by decide +kernel
theorem dX9_goDrawn_61 : decode cX9_goDrawn 61 = .ok (.goto 4, 3) := by decide +kernel
theorem dX9_goDrawn_64 : decode cX9_goDrawn 64 = .ok (.iconst 0, 1) := by decide +kernel
theorem dX9_goDrawn_65 : decode cX9_goDrawn 65 = .ok (.ior, 1) := by decide +kernel
theorem dX9_goDrawn_66 : decode cX9_goDrawn 66 = .ok (.putfield 235, 3) := by decide +kernel
theorem dX9_goDrawn_69 : decode cX9_goDrawn 69 = .ok (.iinc 5 1, 3) := by decide +kernel
theorem dX9_goDrawn_72 : decode cX9_goDrawn 72 = .ok (.goto (-63), 3) := by decide +kernel
theorem dX9_goDrawn_75 : decode cX9_goDrawn 75 = .ok (.aload_n 0, 1) := by decide +kernel
theorem dX9_goDrawn_76 : decode cX9_goDrawn 76 = .ok (.invokevirtual 262, 3) := by decide +kernel
theorem dX9_goDrawn_79 : decode cX9_goDrawn 79 = .ok (.return_, 1) := by decide +kernel
theorem dX9_goesRound_0 : decode cX9_goesRound 0 = .ok (.aload_n 0, 1) := by decide +kernel
theorem dX9_goesRound_1 : decode cX9_goesRound 1 = .ok (.iload_n 1, 1) := by decide +kernel
theorem dX9_goesRound_2 : decode cX9_goesRound 2 = .ok (.bipush 18, 2) := by decide +kernel
theorem dX9_goesRound_4 : decode cX9_goesRound 4 = .ok (.invokevirtual 225, 3) := by decide +kernel
theorem dX9_goesRound_7 : decode cX9_goesRound 7 = .ok (.aload_n 0, 1) := by decide +kernel
theorem dX9_goesRound_8 : decode cX9_goesRound 8 = .ok (.iload_n 1, 1) := by decide +kernel
theorem dX9_goesRound_9 : decode cX9_goesRound 9 = .ok (.bipush 19, 2) := by decide +kernel
theorem dX9_goesRound_11 : decode cX9_goesRound 11 = .ok (.invokevirtual 225, 3) := by decide +kernel
theorem dX9_goesRound_14 : decode cX9_goesRound 14 = .ok (.aload_n 0, 1) := by decide +kernel
theorem dX9_goesRound_15 : decode cX9_goesRound 15 = .ok (.bipush 19, 2) := by decide +kernel
theorem dX9_goesRound_17 : decode cX9_goesRound 17 = .ok (.invokevirtual 256, 3) := by decide +kernel
theorem dX9_goesRound_20 : decode cX9_goesRound 20 = .ok (.iconst 1, 1) := by decide +kernel
theorem dX9_goesRound_21 : decode cX9_goesRound 21 = .ok (.istore_n 2, 1) := by decide +kernel
theorem dX9_goesRound_22 : decode cX9_goesRound 22 = .ok (.aload_n 0, 1) := by decide +kernel
theorem dX9_goesRound_23 : decode cX9_goesRound 23 = .ok (.iconst 1, 1) := by decide +kernel
theorem dX9_goesRound_24 : decode cX9_goesRound 24 = .ok (.putfield 305, 3) := by decide +kernel
theorem dX9_goesRound_27 : decode cX9_goesRound 27 = .ok (.iconst 1, 1) := by decide +kernel
theorem dX9_goesRound_28 : decode cX9_goesRound 28 = .ok (.istore_n 3, 1) := by decide +kernel
theorem dX9_goesRound_29 : decode cX9_goesRound 29 = .ok (.aload_n 0, 1) := by decide +kernel
theorem dX9_goesRound_30 : decode cX9_goesRound 30 = .ok (.bipush 18, 2) := by decide +kernel
theorem dX9_goesRound_32 : decode cX9_goesRound 32 = .ok (.bipush 19, 2) := by decide +kernel
theorem dX9_goesRound_34 : decode cX9_goesRound 34 = .ok (.invokevirtual 289, 3) := by decide +kernel
theorem dX9_goesRound_37 : decode cX9_goesRound 37 = .ok (.ifCond .ne 59, 3) := by decide +kernel
theorem dX9_goesRound_40 : decode cX9_goesRound 40 = .ok (.iload_n 3, 1) := by decide +kernel
theorem dX9_goesRound_41 : decode cX9_goesRound 41 = .ok (.sipush 8000, 3) := by decide +kernel
theorem dX9_goesRound_44 : decode cX9_goesRound 44 = .ok (.if_icmp .le 5, 3) := by decide +kernel
theorem dX9_goesRound_47 : decode cX9_goesRound 47 = .ok (.iconst 0, 1) := by decide +kernel
theorem dX9_goesRound_48 : decode cX9_goesRound 48 = .ok (.ireturn, 1) := by decide +kernel
theorem dX9_goesRound_49 : decode cX9_goesRound 49 = .ok (.iload_n 2, 1) := by decide +kernel
theorem dX9_goesRound_50 : decode cX9_goesRound 50 = .ok (.aload_n 0, 1) := by decide +kernel
theorem dX9_goesRound_51 : decode cX9_goesRound 51 = .ok (.getfield 305, 3) := by decide +kernel
theorem dX9_goesRound_54 : decode cX9_goesRound 54 = .ok (.if_icmp .ne 20, 3) := by decide +kernel
theorem dX9_goesRound_57 : decode cX9_goesRound 57 = .ok (.aload_n 0, 1) := by decide +kernel
theorem dX9_goesRound_58 : decode cX9_goesRound 58 = .ok (.bipush 19, 2) := by decide +kernel
theorem dX9_goesRound_60 : decode cX9_goesRound 60 = .ok (.bipush 18, 2) := by decide +kernel
theorem dX9_goesRound_62 : decode cX9_goesRound 62 = .ok (.invokevirtual 225, 3) := by decide +kernel
theorem dX9_goesRound_65 : decode cX9_goesRound 65 = .ok (.iload_n 2, 1) := by decide +kernel
theorem dX9_goesRound_66 : decode cX9_goesRound 66 = .ok (.iconst 2, 1) := by decide +kernel
theorem dX9_goesRound_67 : decode cX9_goesRound 67 = .ok (.imul, 1) := by decide +kernel
theorem dX9_goesRound_68 : decode cX9_goesRound 68 = .ok (.istore_n 2, 1) := by decide +kernel
theorem dX9_goesRound_69 : decode cX9_goesRound 69 = .ok (.aload_n 0, 1) := by decide +kernel
theorem dX9_goesRound_70 : decode cX9_goesRound 70 = .ok (.iconst 0, 1) := by decide +kernel
theorem dX9_goesRound_71 : decode cX9_goesRound 71 = .ok (.putfield 305, 3) := by decide +kernel
theorem dX9_goesRound_74 : decode cX9_goesRound 74 = .ok (.aload_n 0, 1) := by decide +kernel
theorem dX9_goesRound_75 : decode cX9_goesRound 75 = .ok (.bipush 19, 2) := by decide +kernel
theorem dX9_goesRound_77 : decode cX9_goesRound 77 = .ok (.invokevirtual 256, 3) := by decide +kernel
theorem dX9_goesRound_80 : decode cX9_goesRound 80 = .ok (.aload_n 0, 1) := by decide +kernel
theorem dX9_goesRound_81 : decode cX9_goesRound 81 = .ok (.dup, 1) := by decide +kernel
theorem dX9_goesRound_82 : decode cX9_goesRound 82 = .ok (.getfield 305, 3) := by decide +kernel
theorem dX9_goesRound_85 : decode cX9_goesRound 85 = .ok (.iconst 1, 1) := by decide +kernel
theorem dX9_goesRound_86 : decode cX9_goesRound 86 = .ok (.iadd, 1) := by decide +kernel
theorem dX9_goesRound_87 : decode cX9_goesRound 87 = .ok (.putfield 305, 3) := by decide +kernel
theorem dX9_goesRound_90 : decode cX9_goesRound 90 = .ok (.iinc 3 1, 3) := by decide +kernel
theorem dX9_goesRound_93 : decode cX9_goesRound 93 = .ok (.goto (-64), 3) := by decide +kernel
theorem dX9_goesRound_96 : decode cX9_goesRound 96 = .ok (.aload_n 0, 1) := by decide +kernel
theorem dX9_goesRound_97 : decode cX9_goesRound 97 = .ok (.iload_n 1, 1) := by decide +kernel
theorem dX9_goesRound_98 : decode cX9_goesRound 98 = .ok (.bipush 18, 2) := by decide +kernel
theorem dX9_goesRound_100 : decode cX9_goesRound 100 = .ok (.invokevirtual 225, 3) := by decide +kernel
theorem dX9_goesRound_103 : decode cX9_goesRound 103 = .ok (.aload_n 0, 1) := by decide +kernel
theorem dX9_goesRound_104 : decode cX9_goesRound 104 = .ok (.iload_n 1, 1) := by decide +kernel
theorem dX9_goesRound_105 : decode cX9_goesRound 105 = .ok (.bipush 19, 2) := by decide +kernel
theorem dX9_goesRound_107 : decode cX9_goesRound 107 = .ok (.invokevirtual 225, 3) := by decide +kernel
theorem dX9_goesRound_110 : decode cX9_goesRound 110 = .ok (.iconst 0, 1) := by decide +kernel
theorem dX9_goesRound_111 : decode cX9_goesRound 111 = .ok (.istore 4, 2) := by decide +kernel
theorem dX9_goesRound_113 : decode cX9_goesRound 113 = .ok (.iload 4, 2) := by decide +kernel
theorem dX9_goesRound_115 : decode cX9_goesRound 115 = .ok (.aload_n 0, 1) := by decide +kernel
theorem dX9_goesRound_116 : decode cX9_goesRound 116 = .ok (.getfield 305, 3) := by decide +kernel
theorem dX9_goesRound_119 : decode cX9_goesRound 119 = .ok (.if_icmp .ge 15, 3) := by decide +kernel
theorem dX9_goesRound_122 : decode cX9_goesRound 122 = .ok (.aload_n 0, 1) := by decide +kernel
theorem dX9_goesRound_123 : decode cX9_goesRound 123 = .ok (.bipush 19, 2) := by decide +kernel
theorem dX9_goesRound_125 : decode cX9_goesRound 125 = .ok (.invokevirtual 256, 3) := by decide +kernel
theorem dX9_goesRound_128 : decode cX9_goesRound 128 = .ok (.iinc 4 1, 3) := by decide +kernel
theorem dX9_goesRound_131 : decode cX9_goesRound 131 = .ok (.goto (-18), 3) := by decide +kernel
theorem dX9_goesRound_134 : decode cX9_goesRound 134 = .ok (.aload_n 0, 1) := by decide +kernel
theorem dX9_goesRound_135 : decode cX9_goesRound 135 = .ok (.iconst 0, 1) := by decide +kernel
theorem dX9_goesRound_136 : decode cX9_goesRound 136 = .ok (.putfield 308, 3) := by decide +kernel
theorem dX9_goesRound_139 : decode cX9_goesRound 139 = .ok (.aload_n 0, 1) := by decide +kernel
theorem dX9_goesRound_140 : decode cX9_goesRound 140 = .ok (.bipush 18, 2) := by decide +kernel
theorem dX9_goesRound_142 : decode cX9_goesRound 142 = .ok (.bipush 19, 2) := by decide +kernel
theorem dX9_goesRound_144 : decode cX9_goesRound 144 = .ok (.invokevirtual 289, 3) := by decide +kernel
theorem dX9_goesRound_147 : decode cX9_goesRound 147 = .ok (.ifCond .ne 28, 3) := by decide +kernel
theorem dX9_goesRound_150 : decode cX9_goesRound 150 = .ok (.aload_n 0, 1) := by decide +kernel
theorem dX9_goesRound_151 : decode cX9_goesRound 151 = .ok (.bipush 18, 2) := by decide +kernel
theorem dX9_goesRound_153 : decode cX9_goesRound 153 = .ok (.invokevirtual 256, 3) := by decide +kernel
theorem dX9_goesRound_156 : decode cX9_goesRound 156 = .ok (.aload_n 0, 1) := by decide +kernel
theorem dX9_goesRound_157 : decode cX9_goesRound 157 = .ok (.bipush 19, 2) := by decide +kernel
theorem dX9_goesRound_159 : decode cX9_goesRound 159 = .ok (.invokevirtual 256, 3) := by decide +kernel
theorem dX9_goesRound_162 : decode cX9_goesRound 162 = .ok (.aload_n 0, 1) := by decide +kernel
theorem dX9_goesRound_163 : decode cX9_goesRound 163 = .ok (.dup, 1) := by decide +kernel
theorem dX9_goesRound_164 : decode cX9_goesRound 164 = .ok (.getfield 308, 3) := by decide +kernel
theorem dX9_goesRound_167 : decode cX9_goesRound 167 = .ok (.iconst 1, 1) := by decide +kernel
theorem dX9_goesRound_168 : decode cX9_goesRound 168 = .ok (.iadd, 1) := by decide +kernel
theorem dX9_goesRound_169 : decode cX9_goesRound 169 = .ok (.putfield 308, 3) := by decide +kernel
theorem dX9_goesRound_172 : decode cX9_goesRound 172 = .ok (.goto (-33), 3) := by decide +kernel
theorem dX9_goesRound_175 : decode cX9_goesRound 175 = .ok (.aload_n 0, 1) := by decide +kernel
theorem dX9_goesRound_176 : decode cX9_goesRound 176 = .ok (.getfield 308, 3) := by decide +kernel
theorem dX9_goesRound_179 : decode cX9_goesRound 179 = .ok (.aload_n 0, 1) := by decide +kernel
theorem dX9_goesRound_180 : decode cX9_goesRound 180 = .ok (.getfield 305, 3) := by decide +kernel
theorem dX9_goesRound_183 : decode cX9_goesRound 183 = .ok (.iadd, 1) := by decide +kernel
theorem dX9_goesRound_184 : decode cX9_goesRound 184 = .ok (.sipush 2000, 3) := by decide +kernel
theorem dX9_goesRound_187 : decode cX9_goesRound 187 = .ok (.if_icmp .gt 7, 3) := by decide +kernel
theorem dX9_goesRound_190 : decode cX9_goesRound 190 = .ok (.iconst 1, 1) := by decide +kernel
theorem dX9_goesRound_191 : decode cX9_goesRound 191 = .ok (.goto 4, 3) := by decide +kernel
theorem dX9_goesRound_194 : decode cX9_goesRound 194 = .ok (.iconst 0, 1) := by decide +kernel
theorem dX9_goesRound_195 : decode cX9_goesRound 195 = .ok (.ireturn, 1) := by decide +kernel
theorem dX9_gone_0 : decode cX9_gone 0 = .ok (.aload_n 0, 1) := by decide +kernel
theorem dX9_gone_1 : decode cX9_gone 1 = .ok (.invokevirtual 265, 3) := by decide +kernel
theorem dX9_gone_4 : decode cX9_gone 4 = .ok (.pop, 1) := by decide +kernel
theorem dX9_gone_5 : decode cX9_gone 5 = .ok (.aload_n 0, 1) := by decide +kernel
theorem dX9_gone_6 : decode cX9_gone 6 = .ok (.iload_n 1, 1) := by decide +kernel
theorem dX9_gone_7 : decode cX9_gone 7 = .ok (.i2l, 1) := by decide +kernel
theorem dX9_gone_8 : decode cX9_gone 8 = .ok (.invokevirtual 280, 3) := by decide +kernel
theorem dX9_gone_11 : decode cX9_gone 11 = .ok (.ifCond .eq 12, 3) := by decide +kernel
theorem dX9_gone_14 : decode cX9_gone 14 = .ok (.aload_n 0, 1) := by decide +kernel
theorem dX9_gone_15 : decode cX9_gone 15 = .ok (.getfield 46, 3) := by decide +kernel
theorem dX9_gone_18 : decode cX9_gone 18 = .ok (.iload_n 1, 1) := by decide +kernel
theorem dX9_gone_19 : decode cX9_gone 19 = .ok (.iaload, 1) := by decide +kernel
theorem dX9_gone_20 : decode cX9_gone 20 = .ok (.goto 5, 3) := by decide +kernel
theorem dX9_gone_23 : decode cX9_gone 23 = .ok (.bipush (-2), 2) := by decide +kernel
theorem dX9_gone_25 : decode cX9_gone 25 = .ok (.ireturn, 1) := by decide +kernel
theorem dX9_good_0 : decode cX9_good 0 = .ok (.aload_n 0, 1) := by decide +kernel
theorem dX9_good_1 : decode cX9_good 1 = .ok (.getfield 137, 3) := by decide +kernel
theorem dX9_good_4 : decode cX9_good 4 = .ok (.ifCond .ne 7, 3) := by decide +kernel
theorem dX9_good_7 : decode cX9_good 7 = .ok (.iconst 1, 1) := by decide +kernel
theorem dX9_good_8 : decode cX9_good 8 = .ok (.goto 4, 3) := by decide +kernel
theorem dX9_good_11 : decode cX9_good 11 = .ok (.iconst 0, 1) := by decide +kernel
theorem dX9_good_12 : decode cX9_good 12 = .ok (.ireturn, 1) := by decide +kernel
theorem dX9_greatest_0 : decode cX9_greatest 0 = .ok (.aload_n 0, 1) := by decide +kernel
theorem dX9_greatest_1 : decode cX9_greatest 1 = .ok (.iload_n 1, 1) := by decide +kernel
theorem dX9_greatest_2 : decode cX9_greatest 2 = .ok (.iload_n 2, 1) := by decide +kernel
theorem dX9_greatest_3 : decode cX9_greatest 3 = .ok (.invokevirtual 378, 3) := by decide +kernel
theorem dX9_greatest_6 : decode cX9_greatest 6 = .ok (.istore_n 3, 1) := by decide +kernel
theorem dX9_greatest_7 : decode cX9_greatest 7 = .ok (.iload_n 3, 1) := by decide +kernel
theorem dX9_greatest_8 : decode cX9_greatest 8 = .ok (.ifCond .ge 7, 3) := by decide +kernel
theorem dX9_greatest_11 : decode cX9_greatest 11 = .ok (.iload_n 3, 1) := by decide +kernel
theorem dX9_greatest_12 : decode cX9_greatest 12 = .ok (.goto 25, 3) := by decide +kernel
theorem dX9_greatest_15 : decode cX9_greatest 15 = .ok (.aload_n 0, 1) := by decide +kernel
theorem dX9_greatest_16 : decode cX9_greatest 16 = .ok (.getfield 372, 3) := by decide +kernel
theorem dX9_greatest_19 : decode cX9_greatest 19 = .ok (.ifCond .ne 7, 3) := by decide +kernel
theorem dX9_greatest_22 : decode cX9_greatest 22 = .ok (.iconst (-1), 1) := by decide +kernel
theorem dX9_greatest_23 : decode cX9_greatest 23 = .ok (.goto 14, 3) := by decide +kernel
theorem dX9_greatest_26 : decode cX9_greatest 26 = .ok (.aload_n 0, 1) := by decide +kernel
theorem dX9_greatest_27 : decode cX9_greatest 27 = .ok (.getfield 58, 3) := by decide +kernel
theorem dX9_greatest_30 : decode cX9_greatest 30 = .ok (.aload_n 0, 1) := by decide +kernel
theorem dX9_greatest_31 : decode cX9_greatest 31 = .ok (.getfield 372, 3) := by decide +kernel
theorem dX9_greatest_34 : decode cX9_greatest 34 = .ok (.iconst 1, 1) := by decide +kernel
theorem dX9_greatest_35 : decode cX9_greatest 35 = .ok (.isub, 1) := by decide +kernel
theorem dX9_greatest_36 : decode cX9_greatest 36 = .ok (.iaload, 1) := by decide +kernel
theorem dX9_greatest_37 : decode cX9_greatest 37 = .ok (.ireturn, 1) := by decide +kernel
theorem dX9_heap_0 : decode cX9_heap 0 = .ok (.aload_n 0, 1) := by decide +kernel
theorem dX9_heap_1 : decode cX9_heap 1 = .ok (.iload_n 1, 1) := by decide +kernel
theorem dX9_heap_2 : decode cX9_heap 2 = .ok (.invokevirtual 272, 3) := by decide +kernel
theorem dX9_heap_5 : decode cX9_heap 5 = .ok (.ifCond .eq 7, 3) := by decide +kernel
theorem dX9_heap_8 : decode cX9_heap 8 = .ok (.iload_n 2, 1) := by decide +kernel
theorem dX9_heap_9 : decode cX9_heap 9 = .ok (.ifCond .ge 6, 3) := by decide +kernel
theorem dX9_heap_12 : decode cX9_heap 12 = .ok (.bipush (-2), 2) := by decide +kernel
theorem dX9_heap_14 : decode cX9_heap 14 = .ok (.ireturn, 1) := by decide +kernel
theorem dX9_heap_15 : decode cX9_heap 15 = .ok (.iload_n 2, 1) := by decide +kernel
theorem dX9_heap_16 : decode cX9_heap 16 = .ok (.aload_n 0, 1) := by decide +kernel
theorem dX9_heap_17 : decode cX9_heap 17 = .ok (.iload_n 1, 1) := by decide +kernel
theorem dX9_heap_18 : decode cX9_heap 18 = .ok (.invokevirtual 207, 3) := by decide +kernel
theorem dX9_heap_21 : decode cX9_heap 21 = .ok (.if_icmp .ge 12, 3) := by decide +kernel
theorem dX9_heap_24 : decode cX9_heap 24 = .ok (.aload_n 0, 1) := by decide +kernel
theorem dX9_heap_25 : decode cX9_heap 25 = .ok (.iload_n 1, 1) := by decide +kernel
theorem dX9_heap_26 : decode cX9_heap 26 = .ok (.iload_n 2, 1) := by decide +kernel
theorem dX9_heap_27 : decode cX9_heap 27 = .ok (.invokevirtual 210, 3) := by decide +kernel
theorem dX9_heap_30 : decode cX9_heap 30 = .ok (.goto 4, 3) := by decide +kernel
theorem dX9_heap_33 : decode cX9_heap 33 = .ok (.iconst (-1), 1) := by decide +kernel
theorem dX9_heap_34 : decode cX9_heap 34 = .ok (.ireturn, 1) := by decide +kernel
theorem dX9_heaps_0 : decode cX9_heaps 0 = .ok (.aload_n 0, 1) := by decide +kernel
theorem dX9_heaps_1 : decode cX9_heaps 1 = .ok (.iload_n 1, 1) := by decide +kernel
theorem dX9_heaps_2 : decode cX9_heaps 2 = .ok (.invokevirtual 272, 3) := by decide +kernel
theorem dX9_heaps_5 : decode cX9_heaps 5 = .ok (.ifCond .eq 11, 3) := by decide +kernel
theorem dX9_heaps_8 : decode cX9_heaps 8 = .ok (.aload_n 0, 1) := by decide +kernel
theorem dX9_heaps_9 : decode cX9_heaps 9 = .ok (.iload_n 1, 1) := by decide +kernel
theorem dX9_heaps_10 : decode cX9_heaps 10 = .ok (.invokevirtual 207, 3) := by decide +kernel
theorem dX9_heaps_13 : decode cX9_heaps 13 = .ok (.goto 5, 3) := by decide +kernel
theorem dX9_heaps_16 : decode cX9_heaps 16 = .ok (.bipush (-2), 2) := by decide +kernel
theorem dX9_heaps_18 : decode cX9_heaps 18 = .ok (.ireturn, 1) := by decide +kernel
theorem dX9_heightOf_0 : decode cX9_heightOf 0 = .ok (.aload_n 0, 1) := by decide +kernel
theorem dX9_heightOf_1 : decode cX9_heightOf 1 = .ok (.getfield 34, 3) := by decide +kernel
theorem dX9_heightOf_4 : decode cX9_heightOf 4 = .ok (.sipush 701, 3) := by decide +kernel
theorem dX9_heightOf_7 : decode cX9_heightOf 7 = .ok (.iload_n 1, 1) := by decide +kernel
theorem dX9_heightOf_8 : decode cX9_heightOf 8 = .ok (.imul, 1) := by decide +kernel
theorem dX9_heightOf_9 : decode cX9_heightOf 9 = .ok (.iconst 1, 1) := by decide +kernel
theorem dX9_heightOf_10 : decode cX9_heightOf 10 = .ok (.iadd, 1) := by decide +kernel
theorem dX9_heightOf_11 : decode cX9_heightOf 11 = .ok (.iload_n 2, 1) := by decide +kernel
theorem dX9_heightOf_12 : decode cX9_heightOf 12 = .ok (.iadd, 1) := by decide +kernel
theorem dX9_heightOf_13 : decode cX9_heightOf 13 = .ok (.iaload, 1) := by decide +kernel
theorem dX9_heightOf_14 : decode cX9_heightOf 14 = .ok (.ireturn, 1) := by decide +kernel
theorem dX9_heights_0 : decode cX9_heights 0 = .ok (.aload_n 0, 1) := by decide +kernel
theorem dX9_heights_1 : decode cX9_heights 1 = .ok (.iload_n 1, 1) := by decide +kernel
theorem dX9_heights_2 : decode cX9_heights 2 = .ok (.iload_n 2, 1) := by decide +kernel
theorem dX9_heights_3 : decode cX9_heights 3 = .ok (.invokevirtual 378, 3) := by decide +kernel
theorem dX9_heights_6 : decode cX9_heights 6 = .ok (.istore_n 3, 1) := by decide +kernel
theorem dX9_heights_7 : decode cX9_heights 7 = .ok (.iload_n 3, 1) := by decide +kernel
theorem dX9_heights_8 : decode cX9_heights 8 = .ok (.ifCond .ge 7, 3) := by decide +kernel
theorem dX9_heights_11 : decode cX9_heights 11 = .ok (.iload_n 3, 1) := by decide +kernel
theorem dX9_heights_12 : decode cX9_heights 12 = .ok (.goto 7, 3) := by decide +kernel
theorem dX9_heights_15 : decode cX9_heights 15 = .ok (.aload_n 0, 1) := by decide +kernel
theorem dX9_heights_16 : decode cX9_heights 16 = .ok (.getfield 372, 3) := by decide +kernel
theorem dX9_heights_19 : decode cX9_heights 19 = .ok (.ireturn, 1) := by decide +kernel
theorem dX9_highestOf_0 : decode cX9_highestOf 0 = .ok (.aload_n 0, 1) := by decide +kernel
theorem dX9_highestOf_1 : decode cX9_highestOf 1 = .ok (.iload_n 1, 1) := by decide +kernel
theorem dX9_highestOf_2 : decode cX9_highestOf 2 = .ok (.invokevirtual 207, 3) := by decide +kernel
theorem dX9_highestOf_5 : decode cX9_highestOf 5 = .ok (.ifCond .ne 7, 3) := by decide +kernel
theorem dX9_highestOf_8 : decode cX9_highestOf 8 = .ok (.iconst 0, 1) := by decide +kernel
theorem dX9_highestOf_9 : decode cX9_highestOf 9 = .ok (.goto 9, 3) := by decide +kernel
theorem dX9_highestOf_12 : decode cX9_highestOf 12 = .ok (.aload_n 0, 1) := by decide +kernel
theorem dX9_highestOf_13 : decode cX9_highestOf 13 = .ok (.iload_n 1, 1) := by decide +kernel
theorem dX9_highestOf_14 : decode cX9_highestOf 14 = .ok (.iconst 0, 1) := by decide +kernel
theorem dX9_highestOf_15 : decode cX9_highestOf 15 = .ok (.invokevirtual 210, 3) := by decide +kernel
theorem dX9_highestOf_18 : decode cX9_highestOf 18 = .ok (.ireturn, 1) := by decide +kernel
theorem dX9_image_0 : decode cX9_image 0 = .ok (.iload_n 1, 1) := by decide +kernel
theorem dX9_image_1 : decode cX9_image 1 = .ok (.i2l, 1) := by decide +kernel
theorem dX9_image_2 : decode cX9_image 2 = .ok (.lconst 0, 1) := by decide +kernel
theorem dX9_image_3 : decode cX9_image 3 = .ok (.ldc2_w 83, 3) := by decide +kernel
theorem dX9_image_6 : decode cX9_image 6 = .ok (.invokestatic 85, 3) := by decide +kernel
theorem dX9_image_9 : decode cX9_image 9 = .ok (.ifCond .ne 6, 3) := by decide +kernel
theorem dX9_image_12 : decode cX9_image 12 = .ok (.bipush (-2), 2) := by decide +kernel
theorem dX9_image_14 : decode cX9_image 14 = .ok (.ireturn, 1) := by decide +kernel
theorem dX9_image_15 : decode cX9_image 15 = .ok (.iconst 0, 1) := by decide +kernel
theorem dX9_image_16 : decode cX9_image 16 = .ok (.istore_n 2, 1) := by decide +kernel
theorem dX9_image_17 : decode cX9_image 17 = .ok (.iload_n 2, 1) := by decide +kernel
theorem dX9_image_18 : decode cX9_image 18 = .ok (.bipush 47, 2) := by decide +kernel
theorem dX9_image_20 : decode cX9_image 20 = .ok (.if_icmp .ge 26, 3) := by decide +kernel
theorem dX9_image_23 : decode cX9_image 23 = .ok (.aload_n 0, 1) := by decide +kernel
theorem dX9_image_24 : decode cX9_image 24 = .ok (.getfield 13, 3) := by decide +kernel
theorem dX9_image_27 : decode cX9_image 27 = .ok (.bipush 47, 2) := by decide +kernel
theorem dX9_image_29 : decode cX9_image 29 = .ok (.iload_n 1, 1) := by decide +kernel
theorem dX9_image_30 : decode cX9_image 30 = .ok (.imul, 1) := by decide +kernel
theorem dX9_image_31 : decode cX9_image 31 = .ok (.iload_n 2, 1) := by decide +kernel
theorem dX9_image_32 : decode cX9_image 32 = .ok (.iadd, 1) := by decide +kernel
theorem dX9_image_33 : decode cX9_image 33 = .ok (.aload_n 0, 1) := by decide +kernel
theorem dX9_image_34 : decode cX9_image 34 = .ok (.getfield 9, 3) := by decide +kernel
theorem dX9_image_37 : decode cX9_image 37 = .ok (.iload_n 2, 1) := by decide +kernel
theorem dX9_image_38 : decode cX9_image 38 = .ok (.iaload, 1) := by decide +kernel
theorem dX9_image_39 : decode cX9_image 39 = .ok (.iastore, 1) := by decide +kernel
theorem dX9_image_40 : decode cX9_image 40 = .ok (.iinc 2 1, 3) := by decide +kernel
theorem dX9_image_43 : decode cX9_image 43 = .ok (.goto (-26), 3) := by decide +kernel
theorem dX9_image_46 : decode cX9_image 46 = .ok (.aload_n 0, 1) := by decide +kernel
theorem dX9_image_47 : decode cX9_image 47 = .ok (.getfield 16, 3) := by decide +kernel
theorem dX9_image_50 : decode cX9_image 50 = .ok (.iload_n 1, 1) := by decide +kernel
theorem dX9_image_51 : decode cX9_image 51 = .ok (.iconst 1, 1) := by decide +kernel
theorem dX9_image_52 : decode cX9_image 52 = .ok (.bastore, 1) := by decide +kernel
theorem dX9_image_53 : decode cX9_image 53 = .ok (.iconst 0, 1) := by decide +kernel
theorem dX9_image_54 : decode cX9_image 54 = .ok (.ireturn, 1) := by decide +kernel
theorem dX9_in_0 : decode cX9_in 0 = .ok (.lload_n 0, 1) := by decide +kernel
theorem dX9_in_1 : decode cX9_in 1 = .ok (.lload_n 2, 1) := by decide +kernel
theorem dX9_in_2 : decode cX9_in 2 = .ok (.lcmp, 1) := by decide +kernel
theorem dX9_in_3 : decode cX9_in 3 = .ok (.ifCond .lt 14, 3) := by decide +kernel
theorem dX9_in_6 : decode cX9_in 6 = .ok (.lload_n 0, 1) := by decide +kernel
theorem dX9_in_7 : decode cX9_in 7 = .ok (.lload 4, 2) := by decide +kernel
theorem dX9_in_9 : decode cX9_in 9 = .ok (.lcmp, 1) := by decide +kernel
theorem dX9_in_10 : decode cX9_in 10 = .ok (.ifCond .gt 7, 3) := by decide +kernel
theorem dX9_in_13 : decode cX9_in 13 = .ok (.iconst 1, 1) := by decide +kernel
theorem dX9_in_14 : decode cX9_in 14 = .ok (.goto 4, 3) := by decide +kernel
theorem dX9_in_17 : decode cX9_in 17 = .ok (.iconst 0, 1) := by decide +kernel
theorem dX9_in_18 : decode cX9_in 18 = .ok (.ireturn, 1) := by decide +kernel
theorem dX9_is_0 : decode cX9_is 0 = .ok (.aload_n 0, 1) := by decide +kernel
theorem dX9_is_1 : decode cX9_is 1 = .ok (.invokevirtual 140, 3) := by decide +kernel
theorem dX9_is_4 : decode cX9_is 4 = .ok (.ifCond .eq 31, 3) := by decide +kernel
theorem dX9_is_7 : decode cX9_is 7 = .ok (.aload_n 0, 1) := by decide +kernel
theorem dX9_is_8 : decode cX9_is 8 = .ok (.getfield 116, 3) := by decide +kernel
theorem dX9_is_11 : decode cX9_is 11 = .ok (.iconst 1, 1) := by decide +kernel
theorem dX9_is_12 : decode cX9_is 12 = .ok (.if_icmp .ne 23, 3) := by decide +kernel
theorem dX9_is_15 : decode cX9_is 15 = .ok (.aload_n 0, 1) := by decide +kernel
theorem dX9_is_16 : decode cX9_is 16 = .ok (.getfield 106, 3) := by decide +kernel
theorem dX9_is_19 : decode cX9_is 19 = .ok (.aload_n 0, 1) := by decide +kernel
theorem dX9_is_20 : decode cX9_is 20 = .ok (.getfield 113, 3) := by decide +kernel
theorem dX9_is_23 : decode cX9_is 23 = .ok (.isub, 1) := by decide +kernel
theorem dX9_is_24 : decode cX9_is 24 = .ok (.aload_n 1, 1) := by decide +kernel
theorem dX9_is_25 : decode cX9_is 25 = .ok (.invokevirtual 143, 3) := by decide +kernel
theorem dX9_is_28 : decode cX9_is 28 = .ok (.if_icmp .ne 7, 3) := by decide +kernel
theorem dX9_is_31 : decode cX9_is 31 = .ok (.iconst 1, 1) := by decide +kernel
theorem dX9_is_32 : decode cX9_is 32 = .ok (.goto 4, 3) := by decide +kernel
theorem dX9_is_35 : decode cX9_is 35 = .ok (.iconst 0, 1) := by decide +kernel
theorem dX9_is_36 : decode cX9_is 36 = .ok (.istore_n 2, 1) := by decide +kernel
theorem dX9_is_37 : decode cX9_is 37 = .ok (.iconst 0, 1) := by decide +kernel
theorem dX9_is_38 : decode cX9_is 38 = .ok (.istore_n 3, 1) := by decide +kernel
theorem dX9_is_39 : decode cX9_is 39 = .ok (.iload_n 3, 1) := by decide +kernel
theorem dX9_is_40 : decode cX9_is 40 = .ok (.aload_n 1, 1) := by decide +kernel
theorem dX9_is_41 : decode cX9_is 41 = .ok (.invokevirtual 143, 3) := by decide +kernel
theorem dX9_is_44 : decode cX9_is 44 = .ok (.if_icmp .ge 38, 3) := by decide +kernel
theorem dX9_is_47 : decode cX9_is 47 = .ok (.iload_n 2, 1) := by decide +kernel
theorem dX9_is_48 : decode cX9_is 48 = .ok (.ifCond .eq 34, 3) := by decide +kernel
theorem dX9_is_51 : decode cX9_is 51 = .ok (.aload_n 0, 1) := by decide +kernel
theorem dX9_is_52 : decode cX9_is 52 = .ok (.getfield 20, 3) := by decide +kernel
theorem dX9_is_55 : decode cX9_is 55 = .ok (.aload_n 0, 1) := by decide +kernel
theorem dX9_is_56 : decode cX9_is 56 = .ok (.getfield 113, 3) := by decide +kernel
theorem dX9_is_59 : decode cX9_is 59 = .ok (.iload_n 3, 1) := by decide +kernel
theorem dX9_is_60 : decode cX9_is 60 = .ok (.iadd, 1) := by decide +kernel
theorem dX9_is_61 : decode cX9_is 61 = .ok (.baload, 1) := by decide +kernel
theorem dX9_is_62 : decode cX9_is 62 = .ok (.aload_n 1, 1) := by decide +kernel
theorem dX9_is_63 : decode cX9_is 63 = .ok (.iload_n 3, 1) := by decide +kernel
theorem dX9_is_64 : decode cX9_is 64 = .ok (.invokevirtual 148, 3) := by decide +kernel
theorem dX9_is_67 : decode cX9_is 67 = .ok (.if_icmp .ne 7, 3) := by decide +kernel
theorem dX9_is_70 : decode cX9_is 70 = .ok (.iconst 1, 1) := by decide +kernel
theorem dX9_is_71 : decode cX9_is 71 = .ok (.goto 4, 3) := by decide +kernel
theorem dX9_is_74 : decode cX9_is 74 = .ok (.iconst 0, 1) := by decide +kernel
theorem dX9_is_75 : decode cX9_is 75 = .ok (.istore_n 2, 1) := by decide +kernel
theorem dX9_is_76 : decode cX9_is 76 = .ok (.iinc 3 1, 3) := by decide +kernel
theorem dX9_is_79 : decode cX9_is 79 = .ok (.goto (-40), 3) := by decide +kernel
theorem dX9_is_82 : decode cX9_is 82 = .ok (.iload_n 2, 1) := by decide +kernel
theorem dX9_is_83 : decode cX9_is 83 = .ok (.ireturn, 1) := by decide +kernel
theorem dX9_isAbove_0 : decode cX9_isAbove 0 = .ok (.iconst 0, 1) := by decide +kernel
theorem dX9_isAbove_1 : decode cX9_isAbove 1 = .ok (.istore_n 3, 1) := by decide +kernel
theorem dX9_isAbove_2 : decode cX9_isAbove 2 = .ok (.iconst 1, 1) := by decide +kernel
theorem dX9_isAbove_3 : decode cX9_isAbove 3 = .ok (.istore 4, 2) := by decide +kernel
theorem dX9_isAbove_5 : decode cX9_isAbove 5 = .ok (.iconst 0, 1) := by decide +kernel
theorem dX9_isAbove_6 : decode cX9_isAbove 6 = .ok (.istore 5, 2) := by decide +kernel
theorem dX9_isAbove_8 : decode cX9_isAbove 8 = .ok (.iload 5, 2) := by decide +kernel
theorem dX9_isAbove_10 : decode cX9_isAbove 10 = .ok (.aload_n 0, 1) := by decide +kernel
theorem dX9_isAbove_11 : decode cX9_isAbove 11 = .ok (.iload_n 1, 1) := by decide +kernel
theorem dX9_isAbove_12 : decode cX9_isAbove 12 = .ok (.invokevirtual 207, 3) := by decide +kernel
theorem dX9_isAbove_15 : decode cX9_isAbove 15 = .ok (.aload_n 0, 1) := by decide +kernel
theorem dX9_isAbove_16 : decode cX9_isAbove 16 = .ok (.iload_n 2, 1) := by decide +kernel
theorem dX9_isAbove_17 : decode cX9_isAbove 17 = .ok (.invokevirtual 207, 3) := by decide +kernel
theorem dX9_isAbove_20 : decode cX9_isAbove 20 = .ok (.invokestatic 283, 3) := by decide +kernel
theorem dX9_isAbove_23 : decode cX9_isAbove 23 = .ok (.if_icmp .ge 73, 3) := by decide +kernel
theorem dX9_isAbove_26 : decode cX9_isAbove 26 = .ok (.iload_n 3, 1) := by decide +kernel
theorem dX9_isAbove_27 : decode cX9_isAbove 27 = .ok (.iload 5, 2) := by decide +kernel
theorem dX9_isAbove_29 : decode cX9_isAbove 29 = .ok (.aload_n 0, 1) := by decide +kernel
theorem dX9_isAbove_30 : decode cX9_isAbove 30 = .ok (.iload_n 1, 1) := by decide +kernel
theorem dX9_isAbove_31 : decode cX9_isAbove 31 = .ok (.invokevirtual 207, 3) := by decide +kernel
theorem dX9_isAbove_34 : decode cX9_isAbove 34 = .ok (.if_icmp .ge 13, 3) := by decide +kernel
theorem dX9_isAbove_37 : decode cX9_isAbove 37 = .ok (.aload_n 0, 1) := by decide +kernel
theorem dX9_isAbove_38 : decode cX9_isAbove 38 = .ok (.iload_n 1, 1) := by decide +kernel
theorem dX9_isAbove_39 : decode cX9_isAbove 39 = .ok (.iload 5, 2) := by decide +kernel
theorem dX9_isAbove_41 : decode cX9_isAbove 41 = .ok (.invokevirtual 210, 3) := by decide +kernel
theorem dX9_isAbove_44 : decode cX9_isAbove 44 = .ok (.goto 4, 3) := by decide +kernel
theorem dX9_isAbove_47 : decode cX9_isAbove 47 = .ok (.iconst 0, 1) := by decide +kernel
theorem dX9_isAbove_48 : decode cX9_isAbove 48 = .ok (.iadd, 1) := by decide +kernel
theorem dX9_isAbove_49 : decode cX9_isAbove 49 = .ok (.istore_n 3, 1) := by decide +kernel
theorem dX9_isAbove_50 : decode cX9_isAbove 50 = .ok (.iload_n 3, 1) := by decide +kernel
theorem dX9_isAbove_51 : decode cX9_isAbove 51 = .ok (.iload 5, 2) := by decide +kernel
theorem dX9_isAbove_53 : decode cX9_isAbove 53 = .ok (.aload_n 0, 1) := by decide +kernel
theorem dX9_isAbove_54 : decode cX9_isAbove 54 = .ok (.iload_n 2, 1) := by decide +kernel
theorem dX9_isAbove_55 : decode cX9_isAbove 55 = .ok (.invokevirtual 207, 3) := by decide +kernel
theorem dX9_isAbove_58 : decode cX9_isAbove 58 = .ok (.if_icmp .ge 13, 3) := by decide +kernel
theorem dX9_isAbove_61 : decode cX9_isAbove 61 = .ok (.aload_n 0, 1) := by decide +kernel
theorem dX9_isAbove_62 : decode cX9_isAbove 62 = .ok (.iload_n 2, 1) := by decide +kernel
theorem dX9_isAbove_63 : decode cX9_isAbove 63 = .ok (.iload 5, 2) := by decide +kernel
theorem dX9_isAbove_65 : decode cX9_isAbove 65 = .ok (.invokevirtual 210, 3) := by decide +kernel
theorem dX9_isAbove_68 : decode cX9_isAbove 68 = .ok (.goto 4, 3) := by decide +kernel
theorem dX9_isAbove_71 : decode cX9_isAbove 71 = .ok (.iconst 0, 1) := by decide +kernel
theorem dX9_isAbove_72 : decode cX9_isAbove 72 = .ok (.isub, 1) := by decide +kernel
theorem dX9_isAbove_73 : decode cX9_isAbove 73 = .ok (.istore_n 3, 1) := by decide +kernel
theorem dX9_isAbove_74 : decode cX9_isAbove 74 = .ok (.iload 4, 2) := by decide +kernel
theorem dX9_isAbove_76 : decode cX9_isAbove 76 = .ok (.ifCond .eq 11, 3) := by decide +kernel
theorem dX9_isAbove_79 : decode cX9_isAbove 79 = .ok (.iload_n 3, 1) := by decide +kernel
theorem dX9_isAbove_80 : decode cX9_isAbove 80 = .ok (.ifCond .lt 7, 3) := by decide +kernel
theorem dX9_isAbove_83 : decode cX9_isAbove 83 = .ok (.iconst 1, 1) := by decide +kernel
theorem dX9_isAbove_84 : decode cX9_isAbove 84 = .ok (.goto 4, 3) := by decide +kernel
theorem dX9_isAbove_87 : decode cX9_isAbove 87 = .ok (.iconst 0, 1) := by decide +kernel
theorem dX9_isAbove_88 : decode cX9_isAbove 88 = .ok (.istore 4, 2) := by decide +kernel
theorem dX9_isAbove_90 : decode cX9_isAbove 90 = .ok (.iinc 5 1, 3) := by decide +kernel
theorem dX9_isAbove_93 : decode cX9_isAbove 93 = .ok (.goto (-85), 3) := by decide +kernel
theorem dX9_isAbove_96 : decode cX9_isAbove 96 = .ok (.iload 4, 2) := by decide +kernel
theorem dX9_isAbove_98 : decode cX9_isAbove 98 = .ok (.ireturn, 1) := by decide +kernel
theorem dX9_isAhead_0 : decode cX9_isAhead 0 = .ok (.aload_n 0, 1) := by decide +kernel
theorem dX9_isAhead_1 : decode cX9_isAhead 1 = .ok (.invokevirtual 89, 3) := by decide +kernel
theorem dX9_isAhead_4 : decode cX9_isAhead 4 = .ok (.ifCond .eq 22, 3) := by decide +kernel
theorem dX9_isAhead_7 : decode cX9_isAhead 7 = .ok (.lload_n 1, 1) := by decide +kernel
theorem dX9_isAhead_8 : decode cX9_isAhead 8 = .ok (.lconst 0, 1) := by decide +kernel
theorem dX9_isAhead_9 : decode cX9_isAhead 9 = .ok (.aload_n 0, 1) := by decide +kernel
theorem dX9_isAhead_10 : decode cX9_isAhead 10 = .ok (.invokevirtual 93, 3) := by decide +kernel
theorem dX9_isAhead_13 : decode cX9_isAhead 13 = .ok (.iconst 1, 1) := by decide +kernel
theorem dX9_isAhead_14 : decode cX9_isAhead 14 = .ok (.isub, 1) := by decide +kernel
theorem dX9_isAhead_15 : decode cX9_isAhead 15 = .ok (.i2l, 1) := by decide +kernel
theorem dX9_isAhead_16 : decode cX9_isAhead 16 = .ok (.invokestatic 85, 3) := by decide +kernel
theorem dX9_isAhead_19 : decode cX9_isAhead 19 = .ok (.ifCond .eq 7, 3) := by decide +kernel
theorem dX9_isAhead_22 : decode cX9_isAhead 22 = .ok (.iconst 1, 1) := by decide +kernel
theorem dX9_isAhead_23 : decode cX9_isAhead 23 = .ok (.goto 4, 3) := by decide +kernel
theorem dX9_isAhead_26 : decode cX9_isAhead 26 = .ok (.iconst 0, 1) := by decide +kernel
theorem dX9_isAhead_27 : decode cX9_isAhead 27 = .ok (.ireturn, 1) := by decide +kernel
theorem dX9_isCart_0 : decode cX9_isCart 0 = .ok (.iload_n 1, 1) := by decide +kernel
theorem dX9_isCart_1 : decode cX9_isCart 1 = .ok (.i2l, 1) := by decide +kernel
theorem dX9_isCart_2 : decode cX9_isCart 2 = .ok (.lconst 0, 1) := by decide +kernel
theorem dX9_isCart_3 : decode cX9_isCart 3 = .ok (.aload_n 0, 1) := by decide +kernel
theorem dX9_isCart_4 : decode cX9_isCart 4 = .ok (.invokevirtual 97, 3) := by decide +kernel
theorem dX9_isCart_7 : decode cX9_isCart 7 = .ok (.iconst 1, 1) := by decide +kernel
theorem dX9_isCart_8 : decode cX9_isCart 8 = .ok (.isub, 1) := by decide +kernel
theorem dX9_isCart_9 : decode cX9_isCart 9 = .ok (.i2l, 1) := by decide +kernel
theorem dX9_isCart_10 : decode cX9_isCart 10 = .ok (.invokestatic 85, 3) := by decide +kernel
theorem dX9_isCart_13 : decode cX9_isCart 13 = .ok (.ireturn, 1) := by decide +kernel
theorem dX9_isDay_0 : decode cX9_isDay 0 = .ok (.aload_n 0, 1) := by decide +kernel
theorem dX9_isDay_1 : decode cX9_isDay 1 = .ok (.invokevirtual 89, 3) := by decide +kernel
theorem dX9_isDay_4 : decode cX9_isDay 4 = .ok (.ifCond .eq 20, 3) := by decide +kernel
theorem dX9_isDay_7 : decode cX9_isDay 7 = .ok (.lload_n 1, 1) := by decide +kernel
theorem dX9_isDay_8 : decode cX9_isDay 8 = .ok (.lconst 0, 1) := by decide +kernel
theorem dX9_isDay_9 : decode cX9_isDay 9 = .ok (.aload_n 0, 1) := by decide +kernel
theorem dX9_isDay_10 : decode cX9_isDay 10 = .ok (.invokevirtual 93, 3) := by decide +kernel
theorem dX9_isDay_13 : decode cX9_isDay 13 = .ok (.i2l, 1) := by decide +kernel
theorem dX9_isDay_14 : decode cX9_isDay 14 = .ok (.invokestatic 85, 3) := by decide +kernel
theorem dX9_isDay_17 : decode cX9_isDay 17 = .ok (.ifCond .eq 7, 3) := by decide +kernel
theorem dX9_isDay_20 : decode cX9_isDay 20 = .ok (.iconst 1, 1) := by decide +kernel
theorem dX9_isDay_21 : decode cX9_isDay 21 = .ok (.goto 4, 3) := by decide +kernel
theorem dX9_isDay_24 : decode cX9_isDay 24 = .ok (.iconst 0, 1) := by decide +kernel
theorem dX9_isDay_25 : decode cX9_isDay 25 = .ok (.ireturn, 1) := by decide +kernel
theorem dX9_isFirstHigh_0 : decode cX9_isFirstHigh 0 = .ok (.iload_n 2, 1) := by decide +kernel
theorem dX9_isFirstHigh_1 : decode cX9_isFirstHigh 1 = .ok (.ifCond .eq 20, 3) := by decide +kernel
theorem dX9_isFirstHigh_4 : decode cX9_isFirstHigh 4 = .ok (.aload_n 0, 1) := by decide +kernel
theorem dX9_isFirstHigh_5 : decode cX9_isFirstHigh 5 = .ok (.iload_n 1, 1) := by decide +kernel
theorem dX9_isFirstHigh_6 : decode cX9_isFirstHigh 6 = .ok (.iload_n 2, 1) := by decide +kernel
theorem dX9_isFirstHigh_7 : decode cX9_isFirstHigh 7 = .ok (.invokevirtual 210, 3) := by decide +kernel
theorem dX9_isFirstHigh_10 : decode cX9_isFirstHigh 10 = .ok (.aload_n 0, 1) := by decide +kernel
theorem dX9_isFirstHigh_11 : decode cX9_isFirstHigh 11 = .ok (.iload_n 1, 1) := by decide +kernel
theorem dX9_isFirstHigh_12 : decode cX9_isFirstHigh 12 = .ok (.iload_n 2, 1) := by decide +kernel
theorem dX9_isFirstHigh_13 : decode cX9_isFirstHigh 13 = .ok (.iconst 1, 1) := by decide +kernel
theorem dX9_isFirstHigh_14 : decode cX9_isFirstHigh 14 = .ok (.isub, 1) := by decide +kernel
theorem dX9_isFirstHigh_15 : decode cX9_isFirstHigh 15 = .ok (.invokevirtual 210, 3) := by decide +kernel
theorem dX9_isFirstHigh_18 : decode cX9_isFirstHigh 18 = .ok (.if_icmp .eq 7, 3) := by decide +kernel
theorem dX9_isFirstHigh_21 : decode cX9_isFirstHigh 21 = .ok (.iconst 1, 1) := by decide +kernel
theorem dX9_isFirstHigh_22 : decode cX9_isFirstHigh 22 = .ok (.goto 4, 3) := by decide +kernel
theorem dX9_isFirstHigh_25 : decode cX9_isFirstHigh 25 = .ok (.iconst 0, 1) := by decide +kernel
theorem dX9_isFirstHigh_26 : decode cX9_isFirstHigh 26 = .ok (.ireturn, 1) := by decide +kernel
theorem dX9_isHeap_0 : decode cX9_isHeap 0 = .ok (.iload_n 1, 1) := by decide +kernel
theorem dX9_isHeap_1 : decode cX9_isHeap 1 = .ok (.i2l, 1) := by decide +kernel
theorem dX9_isHeap_2 : decode cX9_isHeap 2 = .ok (.lconst 0, 1) := by decide +kernel
theorem dX9_isHeap_3 : decode cX9_isHeap 3 = .ok (.aload_n 0, 1) := by decide +kernel
theorem dX9_isHeap_4 : decode cX9_isHeap 4 = .ok (.getfield 9, 3) := by decide +kernel
theorem dX9_isHeap_7 : decode cX9_isHeap 7 = .ok (.iconst 3, 1) := by decide +kernel
theorem dX9_isHeap_8 : decode cX9_isHeap 8 = .ok (.iaload, 1) := by decide +kernel
theorem dX9_isHeap_9 : decode cX9_isHeap 9 = .ok (.iconst 1, 1) := by decide +kernel
theorem dX9_isHeap_10 : decode cX9_isHeap 10 = .ok (.isub, 1) := by decide +kernel
theorem dX9_isHeap_11 : decode cX9_isHeap 11 = .ok (.i2l, 1) := by decide +kernel
theorem dX9_isHeap_12 : decode cX9_isHeap 12 = .ok (.invokestatic 85, 3) := by decide +kernel
theorem dX9_isHeap_15 : decode cX9_isHeap 15 = .ok (.ireturn, 1) := by decide +kernel
theorem dX9_isMoor_0 : decode cX9_isMoor 0 = .ok (.aload_n 0, 1) := by decide +kernel
theorem dX9_isMoor_1 : decode cX9_isMoor 1 = .ok (.getfield 9, 3) := by decide +kernel
theorem dX9_isMoor_4 : decode cX9_isMoor 4 = .ok (.bipush 6, 2) := by decide +kernel
theorem dX9_isMoor_6 : decode cX9_isMoor 6 = .ok (.iaload, 1) := by decide +kernel
theorem dX9_isMoor_7 : decode cX9_isMoor 7 = .ok (.ifCond .le 7, 3) := by decide +kernel
theorem dX9_isMoor_10 : decode cX9_isMoor 10 = .ok (.iconst 1, 1) := by decide +kernel
theorem dX9_isMoor_11 : decode cX9_isMoor 11 = .ok (.goto 4, 3) := by decide +kernel
theorem dX9_isMoor_14 : decode cX9_isMoor 14 = .ok (.iconst 0, 1) := by decide +kernel
theorem dX9_isMoor_15 : decode cX9_isMoor 15 = .ok (.ireturn, 1) := by decide +kernel
theorem dX9_isMove_0 : decode cX9_isMove 0 = .ok (.aload_n 0, 1) := by decide +kernel
theorem dX9_isMove_1 : decode cX9_isMove 1 = .ok (.iload_n 1, 1) := by decide +kernel
theorem dX9_isMove_2 : decode cX9_isMove 2 = .ok (.iload_n 3, 1) := by decide +kernel
theorem dX9_isMove_3 : decode cX9_isMove 3 = .ok (.invokevirtual 210, 3) := by decide +kernel
theorem dX9_isMove_6 : decode cX9_isMove 6 = .ok (.istore 5, 2) := by decide +kernel
theorem dX9_isMove_8 : decode cX9_isMove 8 = .ok (.aload_n 0, 1) := by decide +kernel
theorem dX9_isMove_9 : decode cX9_isMove 9 = .ok (.iload_n 1, 1) := by decide +kernel
theorem dX9_isMove_10 : decode cX9_isMove 10 = .ok (.iload_n 2, 1) := by decide +kernel
theorem dX9_isMove_11 : decode cX9_isMove 11 = .ok (.invokevirtual 419, 3) := by decide +kernel
theorem dX9_isMove_14 : decode cX9_isMove 14 = .ok (.iload 5, 2) := by decide +kernel
theorem dX9_isMove_16 : decode cX9_isMove 16 = .ok (.iload_n 2, 1) := by decide +kernel
theorem dX9_isMove_17 : decode cX9_isMove 17 = .ok (.iconst 1, 1) := by decide +kernel
theorem dX9_isMove_18 : decode cX9_isMove 18 = .ok (.iadd, 1) := by decide +kernel
theorem dX9_isMove_19 : decode cX9_isMove 19 = .ok (.irem, 1) := by decide +kernel
theorem dX9_isMove_20 : decode cX9_isMove 20 = .ok (.ixor, 1) := by decide +kernel
theorem dX9_isMove_21 : decode cX9_isMove 21 = .ok (.iload 5, 2) := by decide +kernel
theorem dX9_isMove_23 : decode cX9_isMove 23 = .ok (.iload 4, 2) := by decide +kernel
theorem dX9_isMove_25 : decode cX9_isMove 25 = .ok (.isub, 1) := by decide +kernel
theorem dX9_isMove_26 : decode cX9_isMove 26 = .ok (.iload_n 2, 1) := by decide +kernel
theorem dX9_isMove_27 : decode cX9_isMove 27 = .ok (.iconst 1, 1) := by decide +kernel
theorem dX9_isMove_28 : decode cX9_isMove 28 = .ok (.iadd, 1) := by decide +kernel
theorem dX9_isMove_29 : decode cX9_isMove 29 = .ok (.irem, 1) := by decide +kernel
theorem dX9_isMove_30 : decode cX9_isMove 30 = .ok (.ixor, 1) := by decide +kernel
theorem dX9_isMove_31 : decode cX9_isMove 31 = .ok (.ifCond .ne 7, 3) := by decide +kernel
theorem dX9_isMove_34 : decode cX9_isMove 34 = .ok (.iconst 1, 1) := by decide +kernel
theorem dX9_isMove_35 : decode cX9_isMove 35 = .ok (.goto 4, 3) := by decide +kernel
theorem dX9_isMove_38 : decode cX9_isMove 38 = .ok (.iconst 0, 1) := by decide +kernel
theorem dX9_isMove_39 : decode cX9_isMove 39 = .ok (.ireturn, 1) := by decide +kernel
theorem dX9_isRinged_0 : decode cX9_isRinged 0 = .ok (.aload_n 0, 1) := by decide +kernel
theorem dX9_isRinged_1 : decode cX9_isRinged 1 = .ok (.getfield 52, 3) := by decide +kernel
theorem dX9_isRinged_4 : decode cX9_isRinged 4 = .ok (.iload_n 1, 1) := by decide +kernel
theorem dX9_isRinged_5 : decode cX9_isRinged 5 = .ok (.iaload, 1) := by decide +kernel
theorem dX9_isRinged_6 : decode cX9_isRinged 6 = .ok (.istore_n 2, 1) := by decide +kernel
theorem dX9_isRinged_7 : decode cX9_isRinged 7 = .ok (.iconst 0, 1) := by decide +kernel
theorem dX9_isRinged_8 : decode cX9_isRinged 8 = .ok (.istore_n 3, 1) := by decide +kernel
theorem dX9_isRinged_9 : decode cX9_isRinged 9 = .ok (.iload_n 3, 1) := by decide +kernel
theorem dX9_isRinged_10 : decode cX9_isRinged 10 = .ok (.aload_n 0, 1) := by decide +kernel
theorem dX9_isRinged_11 : decode cX9_isRinged 11 = .ok (.getfield 316, 3) := by decide +kernel
theorem dX9_isRinged_14 : decode cX9_isRinged 14 = .ok (.if_icmp .ge 21, 3) := by decide +kernel
theorem dX9_isRinged_17 : decode cX9_isRinged 17 = .ok (.iload_n 2, 1) := by decide +kernel
theorem dX9_isRinged_18 : decode cX9_isRinged 18 = .ok (.iload_n 1, 1) := by decide +kernel
theorem dX9_isRinged_19 : decode cX9_isRinged 19 = .ok (.if_icmp .eq 16, 3) := by decide +kernel
theorem dX9_isRinged_22 : decode cX9_isRinged 22 = .ok (.aload_n 0, 1) := by decide +kernel
theorem dX9_isRinged_23 : decode cX9_isRinged 23 = .ok (.getfield 52, 3) := by decide +kernel
theorem dX9_isRinged_26 : decode cX9_isRinged 26 = .ok (.iload_n 2, 1) := by decide +kernel
theorem dX9_isRinged_27 : decode cX9_isRinged 27 = .ok (.iaload, 1) := by decide +kernel
theorem dX9_isRinged_28 : decode cX9_isRinged 28 = .ok (.istore_n 2, 1) := by decide +kernel
theorem dX9_isRinged_29 : decode cX9_isRinged 29 = .ok (.iinc 3 1, 3) := by decide +kernel
theorem dX9_isRinged_32 : decode cX9_isRinged 32 = .ok (.goto (-23), 3) := by decide +kernel
theorem dX9_isRinged_35 : decode cX9_isRinged 35 = .ok (.iload_n 2, 1) := by decide +kernel
theorem dX9_isRinged_36 : decode cX9_isRinged 36 = .ok (.iload_n 1, 1) := by decide +kernel
theorem dX9_isRinged_37 : decode cX9_isRinged 37 = .ok (.if_icmp .ne 7, 3) := by decide +kernel
theorem dX9_isRinged_40 : decode cX9_isRinged 40 = .ok (.iconst 1, 1) := by decide +kernel
theorem dX9_isRinged_41 : decode cX9_isRinged 41 = .ok (.goto 4, 3) := by decide +kernel
theorem dX9_isRinged_44 : decode cX9_isRinged 44 = .ok (.iconst 0, 1) := by decide +kernel
theorem dX9_isRinged_45 : decode cX9_isRinged 45 = .ok (.ireturn, 1) := by decide +kernel
theorem dX9_isSeed_0 : decode cX9_isSeed 0 = .ok (.iload_n 0, 1) := by decide +kernel
theorem dX9_isSeed_1 : decode cX9_isSeed 1 = .ok (.i2l, 1) := by decide +kernel
theorem dX9_isSeed_2 : decode cX9_isSeed 2 = .ok (.lconst 0, 1) := by decide +kernel
theorem dX9_isSeed_3 : decode cX9_isSeed 3 = .ok (.ldc2_w 469, 3) := by decide +kernel
theorem dX9_isSeed_6 : decode cX9_isSeed 6 = .ok (.invokestatic 85, 3) := by decide +kernel
theorem dX9_isSeed_9 : decode cX9_isSeed 9 = .ok (.ireturn, 1) := by decide +kernel
theorem dX9_isSeen_0 : decode cX9_isSeen 0 = .ok (.aload_n 0, 1) := by decide +kernel
theorem dX9_isSeen_1 : decode cX9_isSeen 1 = .ok (.invokevirtual 262, 3) := by decide +kernel
theorem dX9_isSeen_4 : decode cX9_isSeen 4 = .ok (.iconst 0, 1) := by decide +kernel
theorem dX9_isSeen_5 : decode cX9_isSeen 5 = .ok (.istore_n 2, 1) := by decide +kernel
theorem dX9_isSeen_6 : decode cX9_isSeen 6 = .ok (.iload_n 2, 1) := by decide +kernel
theorem dX9_isSeen_7 : decode cX9_isSeen 7 = .ok (.aload_n 0, 1) := by decide +kernel
theorem dX9_isSeen_8 : decode cX9_isSeen 8 = .ok (.getfield 67, 3) := by decide +kernel
theorem dX9_isSeen_11 : decode cX9_isSeen 11 = .ok (.iload_n 1, 1) := by decide +kernel
theorem dX9_isSeen_12 : decode cX9_isSeen 12 = .ok (.iaload, 1) := by decide +kernel
theorem dX9_isSeen_13 : decode cX9_isSeen 13 = .ok (.if_icmp .ge 55, 3) := by decide +kernel
theorem dX9_isSeen_16 : decode cX9_isSeen 16 = .ok (.aload_n 0, 1) := by decide +kernel
theorem dX9_isSeen_17 : decode cX9_isSeen 17 = .ok (.iload_n 1, 1) := by decide +kernel
theorem dX9_isSeen_18 : decode cX9_isSeen 18 = .ok (.iload_n 2, 1) := by decide +kernel
theorem dX9_isSeen_19 : decode cX9_isSeen 19 = .ok (.invokevirtual 351, 3) := by decide +kernel
theorem dX9_isSeen_22 : decode cX9_isSeen 22 = .ok (.l2i, 1) := by decide +kernel
theorem dX9_isSeen_23 : decode cX9_isSeen 23 = .ok (.istore_n 3, 1) := by decide +kernel
theorem dX9_isSeen_24 : decode cX9_isSeen 24 = .ok (.aload_n 0, 1) := by decide +kernel
theorem dX9_isSeen_25 : decode cX9_isSeen 25 = .ok (.iload_n 3, 1) := by decide +kernel
theorem dX9_isSeen_26 : decode cX9_isSeen 26 = .ok (.invokevirtual 207, 3) := by decide +kernel
theorem dX9_isSeen_29 : decode cX9_isSeen 29 = .ok (.i2l, 1) := by decide +kernel
theorem dX9_isSeen_30 : decode cX9_isSeen 30 = .ok (.aload_n 0, 1) := by decide +kernel
theorem dX9_isSeen_31 : decode cX9_isSeen 31 = .ok (.iload_n 1, 1) := by decide +kernel
theorem dX9_isSeen_32 : decode cX9_isSeen 32 = .ok (.iload_n 2, 1) := by decide +kernel
theorem dX9_isSeen_33 : decode cX9_isSeen 33 = .ok (.iconst 1, 1) := by decide +kernel
theorem dX9_isSeen_34 : decode cX9_isSeen 34 = .ok (.iadd, 1) := by decide +kernel
theorem dX9_isSeen_35 : decode cX9_isSeen 35 = .ok (.invokevirtual 351, 3) := by decide +kernel
theorem dX9_isSeen_38 : decode cX9_isSeen 38 = .ok (.lcmp, 1) := by decide +kernel
theorem dX9_isSeen_39 : decode cX9_isSeen 39 = .ok (.ifCond .ne 21, 3) := by decide +kernel
theorem dX9_isSeen_42 : decode cX9_isSeen 42 = .ok (.aload_n 0, 1) := by decide +kernel
theorem dX9_isSeen_43 : decode cX9_isSeen 43 = .ok (.iload_n 3, 1) := by decide +kernel
theorem dX9_isSeen_44 : decode cX9_isSeen 44 = .ok (.invokevirtual 286, 3) := by decide +kernel
theorem dX9_isSeen_47 : decode cX9_isSeen 47 = .ok (.i2l, 1) := by decide +kernel
theorem dX9_isSeen_48 : decode cX9_isSeen 48 = .ok (.aload_n 0, 1) := by decide +kernel
theorem dX9_isSeen_49 : decode cX9_isSeen 49 = .ok (.iload_n 1, 1) := by decide +kernel
theorem dX9_isSeen_50 : decode cX9_isSeen 50 = .ok (.iload_n 2, 1) := by decide +kernel
theorem dX9_isSeen_51 : decode cX9_isSeen 51 = .ok (.iconst 2, 1) := by decide +kernel
theorem dX9_isSeen_52 : decode cX9_isSeen 52 = .ok (.iadd, 1) := by decide +kernel
theorem dX9_isSeen_53 : decode cX9_isSeen 53 = .ok (.invokevirtual 351, 3) := by decide +kernel
theorem dX9_isSeen_56 : decode cX9_isSeen 56 = .ok (.lcmp, 1) := by decide +kernel
theorem dX9_isSeen_57 : decode cX9_isSeen 57 = .ok (.ifCond .eq 5, 3) := by decide +kernel
theorem dX9_isSeen_60 : decode cX9_isSeen 60 = .ok (.iconst 0, 1) := by decide +kernel
theorem dX9_isSeen_61 : decode cX9_isSeen 61 = .ok (.ireturn, 1) := by decide +kernel
theorem dX9_isSeen_62 : decode cX9_isSeen 62 = .ok (.iinc 2 3, 3) := by decide +kernel
theorem dX9_isSeen_65 : decode cX9_isSeen 65 = .ok (.goto (-59), 3) := by decide +kernel
theorem dX9_isSeen_68 : decode cX9_isSeen 68 = .ok (.iconst 1, 1) := by decide +kernel
theorem dX9_isSeen_69 : decode cX9_isSeen 69 = .ok (.ireturn, 1) := by decide +kernel
theorem dX9_isSlot_0 : decode cX9_isSlot 0 = .ok (.iload_n 0, 1) := by decide +kernel
theorem dX9_isSlot_1 : decode cX9_isSlot 1 = .ok (.i2l, 1) := by decide +kernel
theorem dX9_isSlot_2 : decode cX9_isSlot 2 = .ok (.lconst 0, 1) := by decide +kernel
theorem dX9_isSlot_3 : decode cX9_isSlot 3 = .ok (.ldc2_w 390, 3) := by decide +kernel
theorem dX9_isSlot_6 : decode cX9_isSlot 6 = .ok (.invokestatic 85, 3) := by decide +kernel
theorem dX9_isSlot_9 : decode cX9_isSlot 9 = .ok (.ireturn, 1) := by decide +kernel
theorem dX9_isStair_0 : decode cX9_isStair 0 = .ok (.aload_n 0, 1) := by decide +kernel
theorem dX9_isStair_1 : decode cX9_isStair 1 = .ok (.iload_n 1, 1) := by decide +kernel
theorem dX9_isStair_2 : decode cX9_isStair 2 = .ok (.invokevirtual 207, 3) := by decide +kernel
theorem dX9_isStair_5 : decode cX9_isStair 5 = .ok (.istore_n 2, 1) := by decide +kernel
theorem dX9_isStair_6 : decode cX9_isStair 6 = .ok (.iload_n 2, 1) := by decide +kernel
theorem dX9_isStair_7 : decode cX9_isStair 7 = .ok (.ifCond .le 7, 3) := by decide +kernel
theorem dX9_isStair_10 : decode cX9_isStair 10 = .ok (.iconst 1, 1) := by decide +kernel
theorem dX9_isStair_11 : decode cX9_isStair 11 = .ok (.goto 4, 3) := by decide +kernel
theorem dX9_isStair_14 : decode cX9_isStair 14 = .ok (.iconst 0, 1) := by decide +kernel
theorem dX9_isStair_15 : decode cX9_isStair 15 = .ok (.istore_n 3, 1) := by decide +kernel
theorem dX9_isStair_16 : decode cX9_isStair 16 = .ok (.iconst 0, 1) := by decide +kernel
theorem dX9_isStair_17 : decode cX9_isStair 17 = .ok (.istore 4, 2) := by decide +kernel
theorem dX9_isStair_19 : decode cX9_isStair 19 = .ok (.iload 4, 2) := by decide +kernel
theorem dX9_isStair_21 : decode cX9_isStair 21 = .ok (.iload_n 2, 1) := by decide +kernel
theorem dX9_isStair_22 : decode cX9_isStair 22 = .ok (.if_icmp .ge 33, 3) := by decide +kernel
theorem dX9_isStair_25 : decode cX9_isStair 25 = .ok (.iload_n 3, 1) := by decide +kernel
theorem dX9_isStair_26 : decode cX9_isStair 26 = .ok (.ifCond .eq 29, 3) := by decide +kernel
theorem dX9_isStair_29 : decode cX9_isStair 29 = .ok (.aload_n 0, 1) := by decide +kernel
theorem dX9_isStair_30 : decode cX9_isStair 30 = .ok (.iload_n 1, 1) := by decide +kernel
theorem dX9_isStair_31 : decode cX9_isStair 31 = .ok (.iload 4, 2) := by decide +kernel
theorem dX9_isStair_33 : decode cX9_isStair 33 = .ok (.invokevirtual 210, 3) := by decide +kernel
theorem dX9_isStair_36 : decode cX9_isStair 36 = .ok (.iload_n 2, 1) := by decide +kernel
theorem dX9_isStair_37 : decode cX9_isStair 37 = .ok (.iload 4, 2) := by decide +kernel
theorem dX9_isStair_39 : decode cX9_isStair 39 = .ok (.isub, 1) := by decide +kernel
theorem dX9_isStair_40 : decode cX9_isStair 40 = .ok (.if_icmp .ne 7, 3) := by decide +kernel
theorem dX9_isStair_43 : decode cX9_isStair 43 = .ok (.iconst 1, 1) := by decide +kernel
theorem dX9_isStair_44 : decode cX9_isStair 44 = .ok (.goto 4, 3) := by decide +kernel
theorem dX9_isStair_47 : decode cX9_isStair 47 = .ok (.iconst 0, 1) := by decide +kernel
theorem dX9_isStair_48 : decode cX9_isStair 48 = .ok (.istore_n 3, 1) := by decide +kernel
theorem dX9_isStair_49 : decode cX9_isStair 49 = .ok (.iinc 4 1, 3) := by decide +kernel
theorem dX9_isStair_52 : decode cX9_isStair 52 = .ok (.goto (-33), 3) := by decide +kernel
theorem dX9_isStair_55 : decode cX9_isStair 55 = .ok (.iload_n 3, 1) := by decide +kernel
theorem dX9_isStair_56 : decode cX9_isStair 56 = .ok (.ireturn, 1) := by decide +kernel
theorem dX9_isWet_0 : decode cX9_isWet 0 = .ok (.aload_n 0, 1) := by decide +kernel
theorem dX9_isWet_1 : decode cX9_isWet 1 = .ok (.iload_n 1, 1) := by decide +kernel
theorem dX9_isWet_2 : decode cX9_isWet 2 = .ok (.i2l, 1) := by decide +kernel
theorem dX9_isWet_3 : decode cX9_isWet 3 = .ok (.invokevirtual 280, 3) := by decide +kernel
theorem dX9_isWet_6 : decode cX9_isWet 6 = .ok (.ifCond .eq 23, 3) := by decide +kernel
theorem dX9_isWet_9 : decode cX9_isWet 9 = .ok (.iload_n 1, 1) := by decide +kernel
theorem dX9_isWet_10 : decode cX9_isWet 10 = .ok (.bipush 7, 2) := by decide +kernel
theorem dX9_isWet_12 : decode cX9_isWet 12 = .ok (.if_icmp .gt 17, 3) := by decide +kernel
theorem dX9_isWet_15 : decode cX9_isWet 15 = .ok (.iload_n 2, 1) := by decide +kernel
theorem dX9_isWet_16 : decode cX9_isWet 16 = .ok (.i2l, 1) := by decide +kernel
theorem dX9_isWet_17 : decode cX9_isWet 17 = .ok (.lconst 0, 1) := by decide +kernel
theorem dX9_isWet_18 : decode cX9_isWet 18 = .ok (.lconst 1, 1) := by decide +kernel
theorem dX9_isWet_19 : decode cX9_isWet 19 = .ok (.invokestatic 85, 3) := by decide +kernel
theorem dX9_isWet_22 : decode cX9_isWet 22 = .ok (.ifCond .eq 7, 3) := by decide +kernel
theorem dX9_isWet_25 : decode cX9_isWet 25 = .ok (.iconst 1, 1) := by decide +kernel
theorem dX9_isWet_26 : decode cX9_isWet 26 = .ok (.goto 4, 3) := by decide +kernel
theorem dX9_isWet_29 : decode cX9_isWet 29 = .ok (.iconst 0, 1) := by decide +kernel
theorem dX9_isWet_30 : decode cX9_isWet 30 = .ok (.ireturn, 1) := by decide +kernel
theorem dX9_keepAct_0 : decode cX9_keepAct 0 = .ok (.aload_n 0, 1) := by decide +kernel
theorem dX9_keepAct_1 : decode cX9_keepAct 1 = .ok (.getfield 9, 3) := by decide +kernel
theorem dX9_keepAct_4 : decode cX9_keepAct 4 = .ok (.iconst 5, 1) := by decide +kernel
theorem dX9_keepAct_5 : decode cX9_keepAct 5 = .ok (.iaload, 1) := by decide +kernel
theorem dX9_keepAct_6 : decode cX9_keepAct 6 = .ok (.bipush 20, 2) := by decide +kernel
theorem dX9_keepAct_8 : decode cX9_keepAct 8 = .ok (.if_icmp .ne 6, 3) := by decide +kernel
theorem dX9_keepAct_11 : decode cX9_keepAct 11 = .ok (.bipush (-5), 2) := by decide +kernel
theorem dX9_keepAct_13 : decode cX9_keepAct 13 = .ok (.ireturn, 1) := by decide +kernel
theorem dX9_keepAct_14 : decode cX9_keepAct 14 = .ok (.aload_n 0, 1) := by decide +kernel
theorem dX9_keepAct_15 : decode cX9_keepAct 15 = .ok (.getfield 9, 3) := by decide +kernel
theorem dX9_keepAct_18 : decode cX9_keepAct 18 = .ok (.bipush 27, 2) := by decide +kernel
theorem dX9_keepAct_20 : decode cX9_keepAct 20 = .ok (.aload_n 0, 1) := by decide +kernel
theorem dX9_keepAct_21 : decode cX9_keepAct 21 = .ok (.getfield 9, 3) := by decide +kernel
theorem dX9_keepAct_24 : decode cX9_keepAct 24 = .ok (.iconst 5, 1) := by decide +kernel
theorem dX9_keepAct_25 : decode cX9_keepAct 25 = .ok (.iaload, 1) := by decide +kernel
theorem dX9_keepAct_26 : decode cX9_keepAct 26 = .ok (.iadd, 1) := by decide +kernel
theorem dX9_keepAct_27 : decode cX9_keepAct 27 = .ok (.iload_n 1, 1) := by decide +kernel
theorem dX9_keepAct_28 : decode cX9_keepAct 28 = .ok (.iastore, 1) := by decide +kernel
theorem dX9_keepAct_29 : decode cX9_keepAct 29 = .ok (.aload_n 0, 1) := by decide +kernel
theorem dX9_keepAct_30 : decode cX9_keepAct 30 = .ok (.getfield 9, 3) := by decide +kernel
theorem dX9_keepAct_33 : decode cX9_keepAct 33 = .ok (.iconst 5, 1) := by decide +kernel
theorem dX9_keepAct_34 : decode cX9_keepAct 34 = .ok (.dup2, 1) := by decide +kernel
theorem dX9_keepAct_35 : decode cX9_keepAct 35 = .ok (.iaload, 1) := by decide +kernel
theorem dX9_keepAct_36 : decode cX9_keepAct 36 = .ok (.iconst 1, 1) := by decide +kernel
theorem dX9_keepAct_37 : decode cX9_keepAct 37 = .ok (.iadd, 1) := by decide +kernel
theorem dX9_keepAct_38 : decode cX9_keepAct 38 = .ok (.iastore, 1) := by decide +kernel
theorem dX9_keepAct_39 : decode cX9_keepAct 39 = .ok (.aload_n 0, 1) := by decide +kernel
theorem dX9_keepAct_40 : decode cX9_keepAct 40 = .ok (.invokevirtual 265, 3) := by decide +kernel
theorem dX9_keepAct_43 : decode cX9_keepAct 43 = .ok (.pop, 1) := by decide +kernel
theorem dX9_keepAct_44 : decode cX9_keepAct 44 = .ok (.aload_n 0, 1) := by decide +kernel
theorem dX9_keepAct_45 : decode cX9_keepAct 45 = .ok (.invokevirtual 361, 3) := by decide +kernel
theorem dX9_keepAct_48 : decode cX9_keepAct 48 = .ok (.ireturn, 1) := by decide +kernel
theorem dX9_keepListed_0 : decode cX9_keepListed 0 = .ok (.bipush 15, 2) := by decide +kernel
theorem dX9_keepListed_2 : decode cX9_keepListed 2 = .ok (.aload_n 0, 1) := by decide +kernel
theorem dX9_keepListed_3 : decode cX9_keepListed 3 = .ok (.getfield 316, 3) := by decide +kernel
theorem dX9_keepListed_6 : decode cX9_keepListed 6 = .ok (.imul, 1) := by decide +kernel
theorem dX9_keepListed_7 : decode cX9_keepListed 7 = .ok (.istore_n 1, 1) := by decide +kernel
theorem dX9_keepListed_8 : decode cX9_keepListed 8 = .ok (.iconst 0, 1) := by decide +kernel
theorem dX9_keepListed_9 : decode cX9_keepListed 9 = .ok (.istore_n 2, 1) := by decide +kernel
theorem dX9_keepListed_10 : decode cX9_keepListed 10 = .ok (.iload_n 2, 1) := by decide +kernel
theorem dX9_keepListed_11 : decode cX9_keepListed 11 = .ok (.aload_n 0, 1) := by decide +kernel
theorem dX9_keepListed_12 : decode cX9_keepListed 12 = .ok (.bipush 18, 2) := by decide +kernel
theorem dX9_keepListed_14 : decode cX9_keepListed 14 = .ok (.invokevirtual 207, 3) := by decide +kernel
theorem dX9_keepListed_17 : decode cX9_keepListed 17 = .ok (.if_icmp .gt 27, 3) := by decide +kernel
theorem dX9_keepListed_20 : decode cX9_keepListed 20 = .ok (.aload_n 0, 1) := by decide +kernel
theorem dX9_keepListed_21 : decode cX9_keepListed 21 = .ok (.getfield 49, 3) := by decide +kernel
theorem dX9_keepListed_24 : decode cX9_keepListed 24 = .ok (.iload_n 1, 1) := by decide +kernel
theorem dX9_keepListed_25 : decode cX9_keepListed 25 = .ok (.iload_n 2, 1) := by decide +kernel
theorem dX9_keepListed_26 : decode cX9_keepListed 26 = .ok (.iadd, 1) := by decide +kernel
theorem dX9_keepListed_27 : decode cX9_keepListed 27 = .ok (.aload_n 0, 1) := by decide +kernel
theorem dX9_keepListed_28 : decode cX9_keepListed 28 = .ok (.getfield 34, 3) := by decide +kernel
theorem dX9_keepListed_31 : decode cX9_keepListed 31 = .ok (.sipush 12618, 3) := by decide +kernel
theorem dX9_keepListed_34 : decode cX9_keepListed 34 = .ok (.iload_n 2, 1) := by decide +kernel
theorem dX9_keepListed_35 : decode cX9_keepListed 35 = .ok (.iadd, 1) := by decide +kernel
theorem dX9_keepListed_36 : decode cX9_keepListed 36 = .ok (.iaload, 1) := by decide +kernel
theorem dX9_keepListed_37 : decode cX9_keepListed 37 = .ok (.iastore, 1) := by decide +kernel
theorem dX9_keepListed_38 : decode cX9_keepListed 38 = .ok (.iinc 2 1, 3) := by decide +kernel
theorem dX9_keepListed_41 : decode cX9_keepListed 41 = .ok (.goto (-31), 3) := by decide +kernel
theorem dX9_keepListed_44 : decode cX9_keepListed 44 = .ok (.aload_n 0, 1) := by decide +kernel
theorem dX9_keepListed_45 : decode cX9_keepListed 45 = .ok (.dup, 1) := by decide +kernel
theorem dX9_keepListed_46 : decode cX9_keepListed 46 = .ok (.getfield 316, 3) := by decide +kernel
theorem dX9_keepListed_49 : decode cX9_keepListed 49 = .ok (.iconst 1, 1) := by decide +kernel
theorem dX9_keepListed_50 : decode cX9_keepListed 50 = .ok (.iadd, 1) := by decide +kernel
theorem dX9_keepListed_51 : decode cX9_keepListed 51 = .ok (.putfield 316, 3) := by decide +kernel
theorem dX9_keepListed_54 : decode cX9_keepListed 54 = .ok (.return_, 1) := by decide +kernel
theorem dX9_lastBy_0 : decode cX9_lastBy 0 = .ok (.aload_n 0, 1) := by decide +kernel
theorem dX9_lastBy_1 : decode cX9_lastBy 1 = .ok (.iload_n 1, 1) := by decide +kernel
theorem dX9_lastBy_2 : decode cX9_lastBy 2 = .ok (.putfield 241, 3) := by decide +kernel
theorem dX9_lastBy_5 : decode cX9_lastBy 5 = .ok (.aload_n 0, 1) := by decide +kernel
theorem dX9_lastBy_6 : decode cX9_lastBy 6 = .ok (.iload_n 2, 1) := by decide +kernel
theorem dX9_lastBy_7 : decode cX9_lastBy 7 = .ok (.putfield 247, 3) := by decide +kernel
theorem dX9_lastBy_10 : decode cX9_lastBy 10 = .ok (.aload_n 0, 1) := by decide +kernel
theorem dX9_lastBy_11 : decode cX9_lastBy 11 = .ok (.invokevirtual 262, 3) := by decide +kernel
theorem dX9_lastBy_14 : decode cX9_lastBy 14 = .ok (.aload_n 0, 1) := by decide +kernel
theorem dX9_lastBy_15 : decode cX9_lastBy 15 = .ok (.invokevirtual 361, 3) := by decide +kernel
theorem dX9_lastBy_18 : decode cX9_lastBy 18 = .ok (.ireturn, 1) := by decide +kernel
theorem dX9_lastByLaw_0 : decode cX9_lastByLaw 0 = .ok (.aload_n 0, 1) := by decide +kernel
theorem dX9_lastByLaw_1 : decode cX9_lastByLaw 1 = .ok (.iload_n 1, 1) := by decide +kernel
theorem dX9_lastByLaw_2 : decode cX9_lastByLaw 2 = .ok (.putfield 213, 3) := by decide +kernel
theorem dX9_lastByLaw_5 : decode cX9_lastByLaw 5 = .ok (.aload_n 0, 1) := by decide +kernel
theorem dX9_lastByLaw_6 : decode cX9_lastByLaw 6 = .ok (.invokevirtual 262, 3) := by decide +kernel
theorem dX9_lastByLaw_9 : decode cX9_lastByLaw 9 = .ok (.aload_n 0, 1) := by decide +kernel
theorem dX9_lastByLaw_10 : decode cX9_lastByLaw 10 = .ok (.invokevirtual 361, 3) := by decide +kernel
theorem dX9_lastByLaw_13 : decode cX9_lastByLaw 13 = .ok (.ireturn, 1) := by decide +kernel
theorem dX9_lastMany_0 : decode cX9_lastMany 0 = .ok (.aload_n 0, 1) := by decide +kernel
theorem dX9_lastMany_1 : decode cX9_lastMany 1 = .ok (.aload_n 0, 1) := by decide +kernel
theorem dX9_lastMany_2 : decode cX9_lastMany 2 = .ok (.invokevirtual 93, 3) := by decide +kernel
theorem dX9_lastMany_5 : decode cX9_lastMany 5 = .ok (.invokevirtual 207, 3) := by decide +kernel
theorem dX9_lastMany_8 : decode cX9_lastMany 8 = .ok (.ireturn, 1) := by decide +kernel
theorem dX9_later_0 : decode cX9_later 0 = .ok (.aload_n 0, 1) := by decide +kernel
theorem dX9_later_1 : decode cX9_later 1 = .ok (.iload_n 1, 1) := by decide +kernel
theorem dX9_later_2 : decode cX9_later 2 = .ok (.invokevirtual 272, 3) := by decide +kernel
theorem dX9_later_5 : decode cX9_later 5 = .ok (.ifCond .eq 19, 3) := by decide +kernel
theorem dX9_later_8 : decode cX9_later 8 = .ok (.iload_n 2, 1) := by decide +kernel
theorem dX9_later_9 : decode cX9_later 9 = .ok (.i2l, 1) := by decide +kernel
theorem dX9_later_10 : decode cX9_later 10 = .ok (.lconst 0, 1) := by decide +kernel
theorem dX9_later_11 : decode cX9_later 11 = .ok (.ldc2_w 314, 3) := by decide +kernel
theorem dX9_later_14 : decode cX9_later 14 = .ok (.invokestatic 85, 3) := by decide +kernel
theorem dX9_later_17 : decode cX9_later 17 = .ok (.ifCond .eq 7, 3) := by decide +kernel
theorem dX9_later_20 : decode cX9_later 20 = .ok (.iload_n 3, 1) := by decide +kernel
theorem dX9_later_21 : decode cX9_later 21 = .ok (.ifCond .ge 6, 3) := by decide +kernel
theorem dX9_later_24 : decode cX9_later 24 = .ok (.bipush (-2), 2) := by decide +kernel
theorem dX9_later_26 : decode cX9_later 26 = .ok (.ireturn, 1) := by decide +kernel
theorem dX9_later_27 : decode cX9_later 27 = .ok (.aload_n 0, 1) := by decide +kernel
theorem dX9_later_28 : decode cX9_later 28 = .ok (.iload_n 1, 1) := by decide +kernel
theorem dX9_later_29 : decode cX9_later 29 = .ok (.bipush 18, 2) := by decide +kernel
theorem dX9_later_31 : decode cX9_later 31 = .ok (.invokevirtual 225, 3) := by decide +kernel
theorem dX9_later_34 : decode cX9_later 34 = .ok (.iconst 0, 1) := by decide +kernel
theorem dX9_later_35 : decode cX9_later 35 = .ok (.istore 4, 2) := by decide +kernel
theorem dX9_later_37 : decode cX9_later 37 = .ok (.iload 4, 2) := by decide +kernel
theorem dX9_later_39 : decode cX9_later 39 = .ok (.iload_n 2, 1) := by decide +kernel
theorem dX9_later_40 : decode cX9_later 40 = .ok (.if_icmp .ge 15, 3) := by decide +kernel
theorem dX9_later_43 : decode cX9_later 43 = .ok (.aload_n 0, 1) := by decide +kernel
theorem dX9_later_44 : decode cX9_later 44 = .ok (.bipush 18, 2) := by decide +kernel
theorem dX9_later_46 : decode cX9_later 46 = .ok (.invokevirtual 256, 3) := by decide +kernel
theorem dX9_later_49 : decode cX9_later 49 = .ok (.iinc 4 1, 3) := by decide +kernel
theorem dX9_later_52 : decode cX9_later 52 = .ok (.goto (-15), 3) := by decide +kernel
theorem dX9_later_55 : decode cX9_later 55 = .ok (.iload_n 3, 1) := by decide +kernel
theorem dX9_later_56 : decode cX9_later 56 = .ok (.aload_n 0, 1) := by decide +kernel
theorem dX9_later_57 : decode cX9_later 57 = .ok (.bipush 18, 2) := by decide +kernel
theorem dX9_later_59 : decode cX9_later 59 = .ok (.invokevirtual 207, 3) := by decide +kernel
theorem dX9_later_62 : decode cX9_later 62 = .ok (.if_icmp .ge 13, 3) := by decide +kernel
theorem dX9_later_65 : decode cX9_later 65 = .ok (.aload_n 0, 1) := by decide +kernel
theorem dX9_later_66 : decode cX9_later 66 = .ok (.bipush 18, 2) := by decide +kernel
theorem dX9_later_68 : decode cX9_later 68 = .ok (.iload_n 3, 1) := by decide +kernel
theorem dX9_later_69 : decode cX9_later 69 = .ok (.invokevirtual 210, 3) := by decide +kernel
theorem dX9_later_72 : decode cX9_later 72 = .ok (.goto 4, 3) := by decide +kernel
theorem dX9_later_75 : decode cX9_later 75 = .ok (.iconst (-1), 1) := by decide +kernel
theorem dX9_later_76 : decode cX9_later 76 = .ok (.ireturn, 1) := by decide +kernel
theorem dX9_latest_0 : decode cX9_latest 0 = .ok (.aload_n 0, 1) := by decide +kernel
theorem dX9_latest_1 : decode cX9_latest 1 = .ok (.invokevirtual 265, 3) := by decide +kernel
theorem dX9_latest_4 : decode cX9_latest 4 = .ok (.ifCond .eq 15, 3) := by decide +kernel
theorem dX9_latest_7 : decode cX9_latest 7 = .ok (.iload_n 1, 1) := by decide +kernel
theorem dX9_latest_8 : decode cX9_latest 8 = .ok (.i2l, 1) := by decide +kernel
theorem dX9_latest_9 : decode cX9_latest 9 = .ok (.lconst 0, 1) := by decide +kernel
theorem dX9_latest_10 : decode cX9_latest 10 = .ok (.ldc2_w 364, 3) := by decide +kernel
theorem dX9_latest_13 : decode cX9_latest 13 = .ok (.invokestatic 85, 3) := by decide +kernel
theorem dX9_latest_16 : decode cX9_latest 16 = .ok (.ifCond .ne 6, 3) := by decide +kernel
theorem dX9_latest_19 : decode cX9_latest 19 = .ok (.bipush (-2), 2) := by decide +kernel
theorem dX9_latest_21 : decode cX9_latest 21 = .ok (.ireturn, 1) := by decide +kernel
theorem dX9_latest_22 : decode cX9_latest 22 = .ok (.aload_n 0, 1) := by decide +kernel
theorem dX9_latest_23 : decode cX9_latest 23 = .ok (.invokevirtual 361, 3) := by decide +kernel
theorem dX9_latest_26 : decode cX9_latest 26 = .ok (.iload_n 1, 1) := by decide +kernel
theorem dX9_latest_27 : decode cX9_latest 27 = .ok (.if_icmp .lt 5, 3) := by decide +kernel
theorem dX9_latest_30 : decode cX9_latest 30 = .ok (.iconst (-1), 1) := by decide +kernel
theorem dX9_latest_31 : decode cX9_latest 31 = .ok (.ireturn, 1) := by decide +kernel
theorem dX9_latest_32 : decode cX9_latest 32 = .ok (.aload_n 0, 1) := by decide +kernel
theorem dX9_latest_33 : decode cX9_latest 33 = .ok (.invokevirtual 93, 3) := by decide +kernel
theorem dX9_latest_36 : decode cX9_latest 36 = .ok (.iconst 1, 1) := by decide +kernel
theorem dX9_latest_37 : decode cX9_latest 37 = .ok (.isub, 1) := by decide +kernel
theorem dX9_latest_38 : decode cX9_latest 38 = .ok (.istore_n 2, 1) := by decide +kernel
theorem dX9_latest_39 : decode cX9_latest 39 = .ok (.iload_n 2, 1) := by decide +kernel
theorem dX9_latest_40 : decode cX9_latest 40 = .ok (.ifCond .lt 20, 3) := by decide +kernel
theorem dX9_latest_43 : decode cX9_latest 43 = .ok (.aload_n 0, 1) := by decide +kernel
theorem dX9_latest_44 : decode cX9_latest 44 = .ok (.iload_n 2, 1) := by decide +kernel
theorem dX9_latest_45 : decode cX9_latest 45 = .ok (.bipush 20, 2) := by decide +kernel
theorem dX9_latest_47 : decode cX9_latest 47 = .ok (.invokevirtual 366, 3) := by decide +kernel
theorem dX9_latest_50 : decode cX9_latest 50 = .ok (.iload_n 1, 1) := by decide +kernel
theorem dX9_latest_51 : decode cX9_latest 51 = .ok (.if_icmp .ge 9, 3) := by decide +kernel
theorem dX9_latest_54 : decode cX9_latest 54 = .ok (.iinc 2 (-1), 3) := by decide +kernel
theorem dX9_latest_57 : decode cX9_latest 57 = .ok (.goto (-18), 3) := by decide +kernel
theorem dX9_latest_60 : decode cX9_latest 60 = .ok (.iload_n 2, 1) := by decide +kernel
theorem dX9_latest_61 : decode cX9_latest 61 = .ok (.ireturn, 1) := by decide +kernel
theorem dX9_law_0 : decode cX9_law 0 = .ok (.aload_n 0, 1) := by decide +kernel
theorem dX9_law_1 : decode cX9_law 1 = .ok (.invokevirtual 265, 3) := by decide +kernel
theorem dX9_law_4 : decode cX9_law 4 = .ok (.ifCond .ne 6, 3) := by decide +kernel
theorem dX9_law_7 : decode cX9_law 7 = .ok (.bipush (-2), 2) := by decide +kernel
theorem dX9_law_9 : decode cX9_law 9 = .ok (.ireturn, 1) := by decide +kernel
theorem dX9_law_10 : decode cX9_law 10 = .ok (.iconst 0, 1) := by decide +kernel
theorem dX9_law_11 : decode cX9_law 11 = .ok (.istore_n 1, 1) := by decide +kernel
theorem dX9_law_12 : decode cX9_law 12 = .ok (.iconst 1, 1) := by decide +kernel
theorem dX9_law_13 : decode cX9_law 13 = .ok (.istore_n 2, 1) := by decide +kernel
theorem dX9_law_14 : decode cX9_law 14 = .ok (.iload_n 2, 1) := by decide +kernel
theorem dX9_law_15 : decode cX9_law 15 = .ok (.iconst 4, 1) := by decide +kernel
theorem dX9_law_16 : decode cX9_law 16 = .ok (.if_icmp .ge 28, 3) := by decide +kernel
theorem dX9_law_19 : decode cX9_law 19 = .ok (.aload_n 0, 1) := by decide +kernel
theorem dX9_law_20 : decode cX9_law 20 = .ok (.iload_n 2, 1) := by decide +kernel
theorem dX9_law_21 : decode cX9_law 21 = .ok (.invokevirtual 392, 3) := by decide +kernel
theorem dX9_law_24 : decode cX9_law 24 = .ok (.aload_n 0, 1) := by decide +kernel
theorem dX9_law_25 : decode cX9_law 25 = .ok (.iload_n 1, 1) := by decide +kernel
theorem dX9_law_26 : decode cX9_law 26 = .ok (.invokevirtual 392, 3) := by decide +kernel
theorem dX9_law_29 : decode cX9_law 29 = .ok (.if_icmp .le 7, 3) := by decide +kernel
theorem dX9_law_32 : decode cX9_law 32 = .ok (.iload_n 2, 1) := by decide +kernel
theorem dX9_law_33 : decode cX9_law 33 = .ok (.goto 4, 3) := by decide +kernel
theorem dX9_law_36 : decode cX9_law 36 = .ok (.iload_n 1, 1) := by decide +kernel
theorem dX9_law_37 : decode cX9_law 37 = .ok (.istore_n 1, 1) := by decide +kernel
theorem dX9_law_38 : decode cX9_law 38 = .ok (.iinc 2 1, 3) := by decide +kernel
theorem dX9_law_41 : decode cX9_law 41 = .ok (.goto (-27), 3) := by decide +kernel
theorem dX9_law_44 : decode cX9_law 44 = .ok (.iload_n 1, 1) := by decide +kernel
theorem dX9_law_45 : decode cX9_law 45 = .ok (.ireturn, 1) := by decide +kernel
theorem dX9_laws_0 : decode cX9_laws 0 = .ok (.aload_n 0, 1) := by decide +kernel
theorem dX9_laws_1 : decode cX9_laws 1 = .ok (.iload_n 1, 1) := by decide +kernel
theorem dX9_laws_2 : decode cX9_laws 2 = .ok (.invokevirtual 369, 3) := by decide +kernel
theorem dX9_laws_5 : decode cX9_laws 5 = .ok (.istore_n 2, 1) := by decide +kernel
theorem dX9_laws_6 : decode cX9_laws 6 = .ok (.iload_n 2, 1) := by decide +kernel
theorem dX9_laws_7 : decode cX9_laws 7 = .ok (.ifCond .ge 5, 3) := by decide +kernel
theorem dX9_laws_10 : decode cX9_laws 10 = .ok (.iload_n 2, 1) := by decide +kernel
theorem dX9_laws_11 : decode cX9_laws 11 = .ok (.ireturn, 1) := by decide +kernel
theorem dX9_laws_12 : decode cX9_laws 12 = .ok (.iconst 0, 1) := by decide +kernel
theorem dX9_laws_13 : decode cX9_laws 13 = .ok (.istore_n 3, 1) := by decide +kernel
theorem dX9_laws_14 : decode cX9_laws 14 = .ok (.aload_n 0, 1) := by decide +kernel
theorem dX9_laws_15 : decode cX9_laws 15 = .ok (.iconst 0, 1) := by decide +kernel
theorem dX9_laws_16 : decode cX9_laws 16 = .ok (.putfield 213, 3) := by decide +kernel
theorem dX9_laws_19 : decode cX9_laws 19 = .ok (.aload_n 0, 1) := by decide +kernel
theorem dX9_laws_20 : decode cX9_laws 20 = .ok (.getfield 213, 3) := by decide +kernel
theorem dX9_laws_23 : decode cX9_laws 23 = .ok (.iconst 4, 1) := by decide +kernel
theorem dX9_laws_24 : decode cX9_laws 24 = .ok (.if_icmp .ge 37, 3) := by decide +kernel
theorem dX9_laws_27 : decode cX9_laws 27 = .ok (.iload_n 3, 1) := by decide +kernel
theorem dX9_laws_28 : decode cX9_laws 28 = .ok (.aload_n 0, 1) := by decide +kernel
theorem dX9_laws_29 : decode cX9_laws 29 = .ok (.iload_n 1, 1) := by decide +kernel
theorem dX9_laws_30 : decode cX9_laws 30 = .ok (.invokevirtual 375, 3) := by decide +kernel
theorem dX9_laws_33 : decode cX9_laws 33 = .ok (.ifCond .eq 12, 3) := by decide +kernel
theorem dX9_laws_36 : decode cX9_laws 36 = .ok (.iconst 1, 1) := by decide +kernel
theorem dX9_laws_37 : decode cX9_laws 37 = .ok (.aload_n 0, 1) := by decide +kernel
theorem dX9_laws_38 : decode cX9_laws 38 = .ok (.getfield 213, 3) := by decide +kernel
theorem dX9_laws_41 : decode cX9_laws 41 = .ok (.ishl, 1) := by decide +kernel
theorem dX9_laws_42 : decode cX9_laws 42 = .ok (.goto 4, 3) := by decide +kernel
theorem dX9_laws_45 : decode cX9_laws 45 = .ok (.iconst 0, 1) := by decide +kernel
theorem dX9_laws_46 : decode cX9_laws 46 = .ok (.ior, 1) := by decide +kernel
theorem dX9_laws_47 : decode cX9_laws 47 = .ok (.istore_n 3, 1) := by decide +kernel
theorem dX9_laws_48 : decode cX9_laws 48 = .ok (.aload_n 0, 1) := by decide +kernel
theorem dX9_laws_49 : decode cX9_laws 49 = .ok (.dup, 1) := by decide +kernel
theorem dX9_laws_50 : decode cX9_laws 50 = .ok (.getfield 213, 3) := by decide +kernel
theorem dX9_laws_53 : decode cX9_laws 53 = .ok (.iconst 1, 1) := by decide +kernel
theorem dX9_laws_54 : decode cX9_laws 54 = .ok (.iadd, 1) := by decide +kernel
theorem dX9_laws_55 : decode cX9_laws 55 = .ok (.putfield 213, 3) := by decide +kernel
theorem dX9_laws_58 : decode cX9_laws 58 = .ok (.goto (-39), 3) := by decide +kernel
theorem dX9_laws_61 : decode cX9_laws 61 = .ok (.iload_n 3, 1) := by decide +kernel
theorem dX9_laws_62 : decode cX9_laws 62 = .ok (.ireturn, 1) := by decide +kernel
theorem dX9_lay_0 : decode cX9_lay 0 = .ok (.iload_n 2, 1) := by decide +kernel
theorem dX9_lay_1 : decode cX9_lay 1 = .ok (.ifCond .ne 4, 3) := by decide +kernel
theorem dX9_lay_4 : decode cX9_lay 4 = .ok (.return_, 1) := by decide +kernel
theorem dX9_lay_5 : decode cX9_lay 5 = .ok (.aload_n 0, 1) := by decide +kernel
theorem dX9_lay_6 : decode cX9_lay 6 = .ok (.iload_n 1, 1) := by decide +kernel
theorem dX9_lay_7 : decode cX9_lay 7 = .ok (.invokevirtual 207, 3) := by decide +kernel
theorem dX9_lay_10 : decode cX9_lay 10 = .ok (.istore_n 3, 1) := by decide +kernel
theorem dX9_lay_11 : decode cX9_lay 11 = .ok (.iload_n 3, 1) := by decide +kernel
theorem dX9_lay_12 : decode cX9_lay 12 = .ok (.ifCond .le 43, 3) := by decide +kernel
theorem dX9_lay_15 : decode cX9_lay 15 = .ok (.aload_n 0, 1) := by decide +kernel
theorem dX9_lay_16 : decode cX9_lay 16 = .ok (.iload_n 1, 1) := by decide +kernel
theorem dX9_lay_17 : decode cX9_lay 17 = .ok (.iload_n 3, 1) := by decide +kernel
theorem dX9_lay_18 : decode cX9_lay 18 = .ok (.iconst 1, 1) := by decide +kernel
theorem dX9_lay_19 : decode cX9_lay 19 = .ok (.isub, 1) := by decide +kernel
theorem dX9_lay_20 : decode cX9_lay 20 = .ok (.invokevirtual 210, 3) := by decide +kernel
theorem dX9_lay_23 : decode cX9_lay 23 = .ok (.iload_n 2, 1) := by decide +kernel
theorem dX9_lay_24 : decode cX9_lay 24 = .ok (.if_icmp .ge 31, 3) := by decide +kernel
theorem dX9_lay_27 : decode cX9_lay 27 = .ok (.aload_n 0, 1) := by decide +kernel
theorem dX9_lay_28 : decode cX9_lay 28 = .ok (.getfield 34, 3) := by decide +kernel
theorem dX9_lay_31 : decode cX9_lay 31 = .ok (.sipush 701, 3) := by decide +kernel
theorem dX9_lay_34 : decode cX9_lay 34 = .ok (.iload_n 1, 1) := by decide +kernel
theorem dX9_lay_35 : decode cX9_lay 35 = .ok (.imul, 1) := by decide +kernel
theorem dX9_lay_36 : decode cX9_lay 36 = .ok (.iconst 1, 1) := by decide +kernel
theorem dX9_lay_37 : decode cX9_lay 37 = .ok (.iadd, 1) := by decide +kernel
theorem dX9_lay_38 : decode cX9_lay 38 = .ok (.iload_n 3, 1) := by decide +kernel
theorem dX9_lay_39 : decode cX9_lay 39 = .ok (.iadd, 1) := by decide +kernel
theorem dX9_lay_40 : decode cX9_lay 40 = .ok (.aload_n 0, 1) := by decide +kernel
theorem dX9_lay_41 : decode cX9_lay 41 = .ok (.iload_n 1, 1) := by decide +kernel
theorem dX9_lay_42 : decode cX9_lay 42 = .ok (.iload_n 3, 1) := by decide +kernel
theorem dX9_lay_43 : decode cX9_lay 43 = .ok (.iconst 1, 1) := by decide +kernel
theorem dX9_lay_44 : decode cX9_lay 44 = .ok (.isub, 1) := by decide +kernel
theorem dX9_lay_45 : decode cX9_lay 45 = .ok (.invokevirtual 210, 3) := by decide +kernel
theorem dX9_lay_48 : decode cX9_lay 48 = .ok (.iastore, 1) := by decide +kernel
theorem dX9_lay_49 : decode cX9_lay 49 = .ok (.iinc 3 (-1), 3) := by decide +kernel
theorem dX9_lay_52 : decode cX9_lay 52 = .ok (.goto (-41), 3) := by decide +kernel
theorem dX9_lay_55 : decode cX9_lay 55 = .ok (.aload_n 0, 1) := by decide +kernel
theorem dX9_lay_56 : decode cX9_lay 56 = .ok (.getfield 34, 3) := by decide +kernel
theorem dX9_lay_59 : decode cX9_lay 59 = .ok (.sipush 701, 3) := by decide +kernel
theorem dX9_lay_62 : decode cX9_lay 62 = .ok (.iload_n 1, 1) := by decide +kernel
theorem dX9_lay_63 : decode cX9_lay 63 = .ok (.imul, 1) := by decide +kernel
theorem dX9_lay_64 : decode cX9_lay 64 = .ok (.iconst 1, 1) := by decide +kernel
theorem dX9_lay_65 : decode cX9_lay 65 = .ok (.iadd, 1) := by decide +kernel
theorem dX9_lay_66 : decode cX9_lay 66 = .ok (.iload_n 3, 1) := by decide +kernel
theorem dX9_lay_67 : decode cX9_lay 67 = .ok (.iadd, 1) := by decide +kernel
theorem dX9_lay_68 : decode cX9_lay 68 = .ok (.iload_n 2, 1) := by decide +kernel
theorem dX9_lay_69 : decode cX9_lay 69 = .ok (.iastore, 1) := by decide +kernel
theorem dX9_lay_70 : decode cX9_lay 70 = .ok (.aload_n 0, 1) := by decide +kernel
theorem dX9_lay_71 : decode cX9_lay 71 = .ok (.getfield 34, 3) := by decide +kernel
theorem dX9_lay_74 : decode cX9_lay 74 = .ok (.sipush 701, 3) := by decide +kernel
theorem dX9_lay_77 : decode cX9_lay 77 = .ok (.iload_n 1, 1) := by decide +kernel
theorem dX9_lay_78 : decode cX9_lay 78 = .ok (.imul, 1) := by decide +kernel
theorem dX9_lay_79 : decode cX9_lay 79 = .ok (.dup2, 1) := by decide +kernel
theorem dX9_lay_80 : decode cX9_lay 80 = .ok (.iaload, 1) := by decide +kernel
theorem dX9_lay_81 : decode cX9_lay 81 = .ok (.iconst 1, 1) := by decide +kernel
theorem dX9_lay_82 : decode cX9_lay 82 = .ok (.iadd, 1) := by decide +kernel
theorem dX9_lay_83 : decode cX9_lay 83 = .ok (.iastore, 1) := by decide +kernel
theorem dX9_lay_84 : decode cX9_lay 84 = .ok (.return_, 1) := by decide +kernel
theorem dX9_layFits_0 : decode cX9_layFits 0 = .ok (.aload_n 0, 1) := by decide +kernel
theorem dX9_layFits_1 : decode cX9_layFits 1 = .ok (.iload_n 2, 1) := by decide +kernel
theorem dX9_layFits_2 : decode cX9_layFits 2 = .ok (.invokevirtual 200, 3) := by decide +kernel
theorem dX9_layFits_5 : decode cX9_layFits 5 = .ok (.ifCond .ne 6, 3) := by decide +kernel
theorem dX9_layFits_8 : decode cX9_layFits 8 = .ok (.bipush (-2), 2) := by decide +kernel
theorem dX9_layFits_10 : decode cX9_layFits 10 = .ok (.ireturn, 1) := by decide +kernel
theorem dX9_layFits_11 : decode cX9_layFits 11 = .ok (.aload_n 0, 1) := by decide +kernel
theorem dX9_layFits_12 : decode cX9_layFits 12 = .ok (.iload_n 1, 1) := by decide +kernel
theorem dX9_layFits_13 : decode cX9_layFits 13 = .ok (.invokevirtual 369, 3) := by decide +kernel
theorem dX9_layFits_16 : decode cX9_layFits 16 = .ok (.istore_n 3, 1) := by decide +kernel
theorem dX9_layFits_17 : decode cX9_layFits 17 = .ok (.iload_n 3, 1) := by decide +kernel
theorem dX9_layFits_18 : decode cX9_layFits 18 = .ok (.ifCond .ge 5, 3) := by decide +kernel
theorem dX9_layFits_21 : decode cX9_layFits 21 = .ok (.iload_n 3, 1) := by decide +kernel
theorem dX9_layFits_22 : decode cX9_layFits 22 = .ok (.ireturn, 1) := by decide +kernel
theorem dX9_layFits_23 : decode cX9_layFits 23 = .ok (.aload_n 0, 1) := by decide +kernel
theorem dX9_layFits_24 : decode cX9_layFits 24 = .ok (.iconst 0, 1) := by decide +kernel
theorem dX9_layFits_25 : decode cX9_layFits 25 = .ok (.putfield 372, 3) := by decide +kernel
theorem dX9_layFits_28 : decode cX9_layFits 28 = .ok (.iconst 1, 1) := by decide +kernel
theorem dX9_layFits_29 : decode cX9_layFits 29 = .ok (.istore 4, 2) := by decide +kernel
theorem dX9_layFits_31 : decode cX9_layFits 31 = .ok (.iload 4, 2) := by decide +kernel
theorem dX9_layFits_33 : decode cX9_layFits 33 = .ok (.bipush 20, 2) := by decide +kernel
theorem dX9_layFits_35 : decode cX9_layFits 35 = .ok (.if_icmp .gt 88, 3) := by decide +kernel
theorem dX9_layFits_38 : decode cX9_layFits 38 = .ok (.aload_n 0, 1) := by decide +kernel
theorem dX9_layFits_39 : decode cX9_layFits 39 = .ok (.getfield 37, 3) := by decide +kernel
theorem dX9_layFits_42 : decode cX9_layFits 42 = .ok (.iload_n 2, 1) := by decide +kernel
theorem dX9_layFits_43 : decode cX9_layFits 43 = .ok (.iload 4, 2) := by decide +kernel
theorem dX9_layFits_45 : decode cX9_layFits 45 = .ok (.iastore, 1) := by decide +kernel
theorem dX9_layFits_46 : decode cX9_layFits 46 = .ok (.aload_n 0, 1) := by decide +kernel
theorem dX9_layFits_47 : decode cX9_layFits 47 = .ok (.iload_n 1, 1) := by decide +kernel
theorem dX9_layFits_48 : decode cX9_layFits 48 = .ok (.invokevirtual 375, 3) := by decide +kernel
theorem dX9_layFits_51 : decode cX9_layFits 51 = .ok (.ifCond .ne 6, 3) := by decide +kernel
theorem dX9_layFits_54 : decode cX9_layFits 54 = .ok (.goto 63, 3) := by decide +kernel
theorem dX9_layFits_57 : decode cX9_layFits 57 = .ok (.aload_n 0, 1) := by decide +kernel
theorem dX9_layFits_58 : decode cX9_layFits 58 = .ok (.getfield 58, 3) := by decide +kernel
theorem dX9_layFits_61 : decode cX9_layFits 61 = .ok (.aload_n 0, 1) := by decide +kernel
theorem dX9_layFits_62 : decode cX9_layFits 62 = .ok (.getfield 372, 3) := by decide +kernel
theorem dX9_layFits_65 : decode cX9_layFits 65 = .ok (.iload 4, 2) := by decide +kernel
theorem dX9_layFits_67 : decode cX9_layFits 67 = .ok (.iastore, 1) := by decide +kernel
theorem dX9_layFits_68 : decode cX9_layFits 68 = .ok (.iconst 0, 1) := by decide +kernel
theorem dX9_layFits_69 : decode cX9_layFits 69 = .ok (.istore 5, 2) := by decide +kernel
theorem dX9_layFits_71 : decode cX9_layFits 71 = .ok (.iload 5, 2) := by decide +kernel
theorem dX9_layFits_73 : decode cX9_layFits 73 = .ok (.aload_n 0, 1) := by decide +kernel
theorem dX9_layFits_74 : decode cX9_layFits 74 = .ok (.invokevirtual 93, 3) := by decide +kernel
theorem dX9_layFits_77 : decode cX9_layFits 77 = .ok (.if_icmp .gt 30, 3) := by decide +kernel
theorem dX9_layFits_80 : decode cX9_layFits 80 = .ok (.aload_n 0, 1) := by decide +kernel
theorem dX9_layFits_81 : decode cX9_layFits 81 = .ok (.getfield 61, 3) := by decide +kernel
theorem dX9_layFits_84 : decode cX9_layFits 84 = .ok (.bipush 17, 2) := by decide +kernel
theorem dX9_layFits_86 : decode cX9_layFits 86 = .ok (.aload_n 0, 1) := by decide +kernel
theorem dX9_layFits_87 : decode cX9_layFits 87 = .ok (.getfield 372, 3) := by decide +kernel
theorem dX9_layFits_90 : decode cX9_layFits 90 = .ok (.imul, 1) := by decide +kernel
theorem dX9_layFits_91 : decode cX9_layFits 91 = .ok (.iload 5, 2) := by decide +kernel
theorem dX9_layFits_93 : decode cX9_layFits 93 = .ok (.iadd, 1) := by decide +kernel
theorem dX9_layFits_94 : decode cX9_layFits 94 = .ok (.aload_n 0, 1) := by decide +kernel
theorem dX9_layFits_95 : decode cX9_layFits 95 = .ok (.iload 5, 2) := by decide +kernel
theorem dX9_layFits_97 : decode cX9_layFits 97 = .ok (.invokevirtual 207, 3) := by decide +kernel
theorem dX9_layFits_100 : decode cX9_layFits 100 = .ok (.iastore, 1) := by decide +kernel
theorem dX9_layFits_101 : decode cX9_layFits 101 = .ok (.iinc 5 1, 3) := by decide +kernel
theorem dX9_layFits_104 : decode cX9_layFits 104 = .ok (.goto (-33), 3) := by decide +kernel
theorem dX9_layFits_107 : decode cX9_layFits 107 = .ok (.aload_n 0, 1) := by decide +kernel
theorem dX9_layFits_108 : decode cX9_layFits 108 = .ok (.dup, 1) := by decide +kernel
theorem dX9_layFits_109 : decode cX9_layFits 109 = .ok (.getfield 372, 3) := by decide +kernel
theorem dX9_layFits_112 : decode cX9_layFits 112 = .ok (.iconst 1, 1) := by decide +kernel
theorem dX9_layFits_113 : decode cX9_layFits 113 = .ok (.iadd, 1) := by decide +kernel
theorem dX9_layFits_114 : decode cX9_layFits 114 = .ok (.putfield 372, 3) := by decide +kernel
theorem dX9_layFits_117 : decode cX9_layFits 117 = .ok (.iinc 4 1, 3) := by decide +kernel
theorem dX9_layFits_120 : decode cX9_layFits 120 = .ok (.goto (-89), 3) := by decide +kernel
theorem dX9_layFits_123 : decode cX9_layFits 123 = .ok (.iconst 0, 1) := by decide +kernel
theorem dX9_layFits_124 : decode cX9_layFits 124 = .ok (.ireturn, 1) := by decide +kernel
theorem dX9_layWet_0 : decode cX9_layWet 0 = .ok (.aload_n 0, 1) := by decide +kernel
theorem dX9_layWet_1 : decode cX9_layWet 1 = .ok (.lconst 0, 1) := by decide +kernel
theorem dX9_layWet_2 : decode cX9_layWet 2 = .ok (.putfield 436, 3) := by decide +kernel
theorem dX9_layWet_5 : decode cX9_layWet 5 = .ok (.aload_n 0, 1) := by decide +kernel
theorem dX9_layWet_6 : decode cX9_layWet 6 = .ok (.lconst 0, 1) := by decide +kernel
theorem dX9_layWet_7 : decode cX9_layWet 7 = .ok (.putfield 440, 3) := by decide +kernel
theorem dX9_layWet_10 : decode cX9_layWet 10 = .ok (.aload_n 0, 1) := by decide +kernel
theorem dX9_layWet_11 : decode cX9_layWet 11 = .ok (.lconst 0, 1) := by decide +kernel
theorem dX9_layWet_12 : decode cX9_layWet 12 = .ok (.putfield 443, 3) := by decide +kernel
theorem dX9_layWet_15 : decode cX9_layWet 15 = .ok (.aload_n 0, 1) := by decide +kernel
theorem dX9_layWet_16 : decode cX9_layWet 16 = .ok (.invokevirtual 259, 3) := by decide +kernel
theorem dX9_layWet_19 : decode cX9_layWet 19 = .ok (.iconst 0, 1) := by decide +kernel
theorem dX9_layWet_20 : decode cX9_layWet 20 = .ok (.istore_n 3, 1) := by decide +kernel
theorem dX9_layWet_21 : decode cX9_layWet 21 = .ok (.iload_n 3, 1) := by decide +kernel
theorem dX9_layWet_22 : decode cX9_layWet 22 = .ok (.iconst 2, 1) := by decide +kernel
theorem dX9_layWet_23 : decode cX9_layWet 23 = .ok (.iload_n 1, 1) := by decide +kernel
theorem dX9_layWet_24 : decode cX9_layWet 24 = .ok (.ishl, 1) := by decide +kernel
theorem dX9_layWet_25 : decode cX9_layWet 25 = .ok (.if_icmp .ge 138, 3) := by decide +kernel
theorem dX9_layWet_28 : decode cX9_layWet 28 = .ok (.lconst 1, 1) := by decide +kernel
theorem dX9_layWet_29 : decode cX9_layWet 29 = .ok (.lstore 4, 2) := by decide +kernel
theorem dX9_layWet_31 : decode cX9_layWet 31 = .ok (.iconst 0, 1) := by decide +kernel
theorem dX9_layWet_32 : decode cX9_layWet 32 = .ok (.istore 6, 2) := by decide +kernel
theorem dX9_layWet_34 : decode cX9_layWet 34 = .ok (.iload 6, 2) := by decide +kernel
theorem dX9_layWet_36 : decode cX9_layWet 36 = .ok (.iload_n 1, 1) := by decide +kernel
theorem dX9_layWet_37 : decode cX9_layWet 37 = .ok (.if_icmp .gt 44, 3) := by decide +kernel
theorem dX9_layWet_40 : decode cX9_layWet 40 = .ok (.lload 4, 2) := by decide +kernel
theorem dX9_layWet_42 : decode cX9_layWet 42 = .ok (.iload_n 3, 1) := by decide +kernel
theorem dX9_layWet_43 : decode cX9_layWet 43 = .ok (.iload 6, 2) := by decide +kernel
theorem dX9_layWet_45 : decode cX9_layWet 45 = .ok (.invokestatic 244, 3) := by decide +kernel
theorem dX9_layWet_48 : decode cX9_layWet 48 = .ok (.iconst 1, 1) := by decide +kernel
theorem dX9_layWet_49 : decode cX9_layWet 49 = .ok (.if_icmp .ne 13, 3) := by decide +kernel
theorem dX9_layWet_52 : decode cX9_layWet 52 = .ok (.aload_n 0, 1) := by decide +kernel
theorem dX9_layWet_53 : decode cX9_layWet 53 = .ok (.getfield 9, 3) := by decide +kernel
theorem dX9_layWet_56 : decode cX9_layWet 56 = .ok (.iconst 2, 1) := by decide +kernel
theorem dX9_layWet_57 : decode cX9_layWet 57 = .ok (.iaload, 1) := by decide +kernel
theorem dX9_layWet_58 : decode cX9_layWet 58 = .ok (.i2l, 1) := by decide +kernel
theorem dX9_layWet_59 : decode cX9_layWet 59 = .ok (.goto 13, 3) := by decide +kernel
theorem dX9_layWet_62 : decode cX9_layWet 62 = .ok (.bipush 10, 2) := by decide +kernel
theorem dX9_layWet_64 : decode cX9_layWet 64 = .ok (.aload_n 0, 1) := by decide +kernel
theorem dX9_layWet_65 : decode cX9_layWet 65 = .ok (.getfield 9, 3) := by decide +kernel
theorem dX9_layWet_68 : decode cX9_layWet 68 = .ok (.iconst 2, 1) := by decide +kernel
theorem dX9_layWet_69 : decode cX9_layWet 69 = .ok (.iaload, 1) := by decide +kernel
theorem dX9_layWet_70 : decode cX9_layWet 70 = .ok (.isub, 1) := by decide +kernel
theorem dX9_layWet_71 : decode cX9_layWet 71 = .ok (.i2l, 1) := by decide +kernel
theorem dX9_layWet_72 : decode cX9_layWet 72 = .ok (.lmul, 1) := by decide +kernel
theorem dX9_layWet_73 : decode cX9_layWet 73 = .ok (.lstore 4, 2) := by decide +kernel
theorem dX9_layWet_75 : decode cX9_layWet 75 = .ok (.iinc 6 1, 3) := by decide +kernel
theorem dX9_layWet_78 : decode cX9_layWet 78 = .ok (.goto (-44), 3) := by decide +kernel
theorem dX9_layWet_81 : decode cX9_layWet 81 = .ok (.lload 4, 2) := by decide +kernel
theorem dX9_layWet_83 : decode cX9_layWet 83 = .ok (.lconst 0, 1) := by decide +kernel
theorem dX9_layWet_84 : decode cX9_layWet 84 = .ok (.lcmp, 1) := by decide +kernel
theorem dX9_layWet_85 : decode cX9_layWet 85 = .ok (.ifCond .ne 6, 3) := by decide +kernel
theorem dX9_layWet_88 : decode cX9_layWet 88 = .ok (.goto 69, 3) := by decide +kernel
theorem dX9_layWet_91 : decode cX9_layWet 91 = .ok (.aload_n 0, 1) := by decide +kernel
theorem dX9_layWet_92 : decode cX9_layWet 92 = .ok (.iload_n 3, 1) := by decide +kernel
theorem dX9_layWet_93 : decode cX9_layWet 93 = .ok (.putfield 235, 3) := by decide +kernel
theorem dX9_layWet_96 : decode cX9_layWet 96 = .ok (.aload_n 0, 1) := by decide +kernel
theorem dX9_layWet_97 : decode cX9_layWet 97 = .ok (.invokevirtual 262, 3) := by decide +kernel
theorem dX9_layWet_100 : decode cX9_layWet 100 = .ok (.aload_n 0, 1) := by decide +kernel
theorem dX9_layWet_101 : decode cX9_layWet 101 = .ok (.dup, 1) := by decide +kernel
theorem dX9_layWet_102 : decode cX9_layWet 102 = .ok (.getfield 436, 3) := by decide +kernel
theorem dX9_layWet_105 : decode cX9_layWet 105 = .ok (.lload 4, 2) := by decide +kernel
theorem dX9_layWet_107 : decode cX9_layWet 107 = .ok (.ladd, 1) := by decide +kernel
theorem dX9_layWet_108 : decode cX9_layWet 108 = .ok (.putfield 436, 3) := by decide +kernel
theorem dX9_layWet_111 : decode cX9_layWet 111 = .ok (.aload_n 0, 1) := by decide +kernel
theorem dX9_layWet_112 : decode cX9_layWet 112 = .ok (.dup, 1) := by decide +kernel
theorem dX9_layWet_113 : decode cX9_layWet 113 = .ok (.getfield 440, 3) := by decide +kernel
theorem dX9_layWet_116 : decode cX9_layWet 116 = .ok (.aload_n 0, 1) := by decide +kernel
theorem dX9_layWet_117 : decode cX9_layWet 117 = .ok (.iload_n 1, 1) := by decide +kernel
theorem dX9_layWet_118 : decode cX9_layWet 118 = .ok (.iconst 1, 1) := by decide +kernel
theorem dX9_layWet_119 : decode cX9_layWet 119 = .ok (.iadd, 1) := by decide +kernel
theorem dX9_layWet_120 : decode cX9_layWet 120 = .ok (.invokevirtual 207, 3) := by decide +kernel
theorem dX9_layWet_123 : decode cX9_layWet 123 = .ok (.iload_n 2, 1) := by decide +kernel
theorem dX9_layWet_124 : decode cX9_layWet 124 = .ok (.if_icmp .lt 8, 3) := by decide +kernel
theorem dX9_layWet_127 : decode cX9_layWet 127 = .ok (.lload 4, 2) := by decide +kernel
theorem dX9_layWet_129 : decode cX9_layWet 129 = .ok (.goto 4, 3) := by decide +kernel
theorem dX9_layWet_132 : decode cX9_layWet 132 = .ok (.lconst 0, 1) := by decide +kernel
theorem dX9_layWet_133 : decode cX9_layWet 133 = .ok (.ladd, 1) := by decide +kernel
theorem dX9_layWet_134 : decode cX9_layWet 134 = .ok (.putfield 440, 3) := by decide +kernel
theorem dX9_layWet_137 : decode cX9_layWet 137 = .ok (.aload_n 0, 1) := by decide +kernel
theorem dX9_layWet_138 : decode cX9_layWet 138 = .ok (.dup, 1) := by decide +kernel
theorem dX9_layWet_139 : decode cX9_layWet 139 = .ok (.getfield 443, 3) := by decide +kernel
theorem dX9_layWet_142 : decode cX9_layWet 142 = .ok (.lload 4, 2) := by decide +kernel
theorem dX9_layWet_144 : decode cX9_layWet 144 = .ok (.aload_n 0, 1) := by decide +kernel
theorem dX9_layWet_145 : decode cX9_layWet 145 = .ok (.iload_n 1, 1) := by decide +kernel
theorem dX9_layWet_146 : decode cX9_layWet 146 = .ok (.iconst 1, 1) := by decide +kernel
theorem dX9_layWet_147 : decode cX9_layWet 147 = .ok (.iadd, 1) := by decide +kernel
theorem dX9_layWet_148 : decode cX9_layWet 148 = .ok (.invokevirtual 207, 3) := by decide +kernel
theorem dX9_layWet_151 : decode cX9_layWet 151 = .ok (.i2l, 1) := by decide +kernel
theorem dX9_layWet_152 : decode cX9_layWet 152 = .ok (.lmul, 1) := by decide +kernel
theorem dX9_layWet_153 : decode cX9_layWet 153 = .ok (.ladd, 1) := by decide +kernel
theorem dX9_layWet_154 : decode cX9_layWet 154 = .ok (.putfield 443, 3) := by decide +kernel
theorem dX9_layWet_157 : decode cX9_layWet 157 = .ok (.iinc 3 1, 3) := by decide +kernel
theorem dX9_layWet_160 : decode cX9_layWet 160 = .ok (.goto (-139), 3) := by decide +kernel
theorem dX9_layWet_163 : decode cX9_layWet 163 = .ok (.return_, 1) := by decide +kernel
theorem dX9_least_0 : decode cX9_least 0 = .ok (.aload_n 0, 1) := by decide +kernel
theorem dX9_least_1 : decode cX9_least 1 = .ok (.iload_n 1, 1) := by decide +kernel
theorem dX9_least_2 : decode cX9_least 2 = .ok (.iload_n 2, 1) := by decide +kernel
theorem dX9_least_3 : decode cX9_least 3 = .ok (.invokevirtual 378, 3) := by decide +kernel
theorem dX9_least_6 : decode cX9_least 6 = .ok (.istore_n 3, 1) := by decide +kernel
theorem dX9_least_7 : decode cX9_least 7 = .ok (.iload_n 3, 1) := by decide +kernel
theorem dX9_least_8 : decode cX9_least 8 = .ok (.ifCond .ge 7, 3) := by decide +kernel
theorem dX9_least_11 : decode cX9_least 11 = .ok (.iload_n 3, 1) := by decide +kernel
theorem dX9_least_12 : decode cX9_least 12 = .ok (.goto 20, 3) := by decide +kernel
theorem dX9_least_15 : decode cX9_least 15 = .ok (.aload_n 0, 1) := by decide +kernel
theorem dX9_least_16 : decode cX9_least 16 = .ok (.getfield 372, 3) := by decide +kernel
theorem dX9_least_19 : decode cX9_least 19 = .ok (.ifCond .ne 7, 3) := by decide +kernel
theorem dX9_least_22 : decode cX9_least 22 = .ok (.iconst (-1), 1) := by decide +kernel
theorem dX9_least_23 : decode cX9_least 23 = .ok (.goto 9, 3) := by decide +kernel
theorem dX9_least_26 : decode cX9_least 26 = .ok (.aload_n 0, 1) := by decide +kernel
theorem dX9_least_27 : decode cX9_least 27 = .ok (.getfield 58, 3) := by decide +kernel
theorem dX9_least_30 : decode cX9_least 30 = .ok (.iconst 0, 1) := by decide +kernel
theorem dX9_least_31 : decode cX9_least 31 = .ok (.iaload, 1) := by decide +kernel
theorem dX9_least_32 : decode cX9_least 32 = .ok (.ireturn, 1) := by decide +kernel
theorem dX9_leaves_0 : decode cX9_leaves 0 = .ok (.aload_n 0, 1) := by decide +kernel
theorem dX9_leaves_1 : decode cX9_leaves 1 = .ok (.iload_n 1, 1) := by decide +kernel
theorem dX9_leaves_2 : decode cX9_leaves 2 = .ok (.iload_n 2, 1) := by decide +kernel
theorem dX9_leaves_3 : decode cX9_leaves 3 = .ok (.invokevirtual 378, 3) := by decide +kernel
theorem dX9_leaves_6 : decode cX9_leaves 6 = .ok (.istore_n 3, 1) := by decide +kernel
theorem dX9_leaves_7 : decode cX9_leaves 7 = .ok (.iload_n 3, 1) := by decide +kernel
theorem dX9_leaves_8 : decode cX9_leaves 8 = .ok (.ifCond .ge 5, 3) := by decide +kernel
theorem dX9_leaves_11 : decode cX9_leaves 11 = .ok (.iload_n 3, 1) := by decide +kernel
theorem dX9_leaves_12 : decode cX9_leaves 12 = .ok (.ireturn, 1) := by decide +kernel
theorem dX9_leaves_13 : decode cX9_leaves 13 = .ok (.aload_n 0, 1) := by decide +kernel
theorem dX9_leaves_14 : decode cX9_leaves 14 = .ok (.invokevirtual 387, 3) := by decide +kernel
theorem dX9_leaves_17 : decode cX9_leaves 17 = .ok (.pop, 1) := by decide +kernel
theorem dX9_leaves_18 : decode cX9_leaves 18 = .ok (.aload_n 0, 1) := by decide +kernel
theorem dX9_leaves_19 : decode cX9_leaves 19 = .ok (.getfield 381, 3) := by decide +kernel
theorem dX9_leaves_22 : decode cX9_leaves 22 = .ok (.ireturn, 1) := by decide +kernel
theorem dX9_length_0 : decode cX9_length 0 = .ok (.aload_n 0, 1) := by decide +kernel
theorem dX9_length_1 : decode cX9_length 1 = .ok (.iload_n 1, 1) := by decide +kernel
theorem dX9_length_2 : decode cX9_length 2 = .ok (.invokevirtual 272, 3) := by decide +kernel
theorem dX9_length_5 : decode cX9_length 5 = .ok (.ifCond .ne 6, 3) := by decide +kernel
theorem dX9_length_8 : decode cX9_length 8 = .ok (.bipush (-2), 2) := by decide +kernel
theorem dX9_length_10 : decode cX9_length 10 = .ok (.ireturn, 1) := by decide +kernel
theorem dX9_length_11 : decode cX9_length 11 = .ok (.aload_n 0, 1) := by decide +kernel
theorem dX9_length_12 : decode cX9_length 12 = .ok (.iload_n 1, 1) := by decide +kernel
theorem dX9_length_13 : decode cX9_length 13 = .ok (.invokevirtual 311, 3) := by decide +kernel
theorem dX9_length_16 : decode cX9_length 16 = .ok (.ifCond .eq 10, 3) := by decide +kernel
theorem dX9_length_19 : decode cX9_length 19 = .ok (.aload_n 0, 1) := by decide +kernel
theorem dX9_length_20 : decode cX9_length 20 = .ok (.getfield 305, 3) := by decide +kernel
theorem dX9_length_23 : decode cX9_length 23 = .ok (.goto 4, 3) := by decide +kernel
theorem dX9_length_26 : decode cX9_length 26 = .ok (.iconst (-1), 1) := by decide +kernel
theorem dX9_length_27 : decode cX9_length 27 = .ok (.ireturn, 1) := by decide +kernel
theorem dX9_listAll_0 : decode cX9_listAll 0 = .ok (.aload_n 0, 1) := by decide +kernel
theorem dX9_listAll_1 : decode cX9_listAll 1 = .ok (.iconst 0, 1) := by decide +kernel
theorem dX9_listAll_2 : decode cX9_listAll 2 = .ok (.putfield 316, 3) := by decide +kernel
theorem dX9_listAll_5 : decode cX9_listAll 5 = .ok (.aload_n 0, 1) := by decide +kernel
theorem dX9_listAll_6 : decode cX9_listAll 6 = .ok (.bipush 18, 2) := by decide +kernel
theorem dX9_listAll_8 : decode cX9_listAll 8 = .ok (.invokevirtual 229, 3) := by decide +kernel
theorem dX9_listAll_11 : decode cX9_listAll 11 = .ok (.aload_n 0, 1) := by decide +kernel
theorem dX9_listAll_12 : decode cX9_listAll 12 = .ok (.bipush 18, 2) := by decide +kernel
theorem dX9_listAll_14 : decode cX9_listAll 14 = .ok (.iload_n 1, 1) := by decide +kernel
theorem dX9_listAll_15 : decode cX9_listAll 15 = .ok (.invokevirtual 232, 3) := by decide +kernel
theorem dX9_listAll_18 : decode cX9_listAll 18 = .ok (.iconst 1, 1) := by decide +kernel
theorem dX9_listAll_19 : decode cX9_listAll 19 = .ok (.istore_n 2, 1) := by decide +kernel
theorem dX9_listAll_20 : decode cX9_listAll 20 = .ok (.iload_n 2, 1) := by decide +kernel
theorem dX9_listAll_21 : decode cX9_listAll 21 = .ok (.ifCond .eq 15, 3) := by decide +kernel
theorem dX9_listAll_24 : decode cX9_listAll 24 = .ok (.aload_n 0, 1) := by decide +kernel
theorem dX9_listAll_25 : decode cX9_listAll 25 = .ok (.invokevirtual 322, 3) := by decide +kernel
theorem dX9_listAll_28 : decode cX9_listAll 28 = .ok (.aload_n 0, 1) := by decide +kernel
theorem dX9_listAll_29 : decode cX9_listAll 29 = .ok (.invokevirtual 325, 3) := by decide +kernel
theorem dX9_listAll_32 : decode cX9_listAll 32 = .ok (.istore_n 2, 1) := by decide +kernel
theorem dX9_listAll_33 : decode cX9_listAll 33 = .ok (.goto (-13), 3) := by decide +kernel
theorem dX9_listAll_36 : decode cX9_listAll 36 = .ok (.iconst 0, 1) := by decide +kernel
theorem dX9_listAll_37 : decode cX9_listAll 37 = .ok (.istore_n 3, 1) := by decide +kernel
theorem dX9_listAll_38 : decode cX9_listAll 38 = .ok (.iload_n 3, 1) := by decide +kernel
theorem dX9_listAll_39 : decode cX9_listAll 39 = .ok (.aload_n 0, 1) := by decide +kernel
theorem dX9_listAll_40 : decode cX9_listAll 40 = .ok (.getfield 316, 3) := by decide +kernel
theorem dX9_listAll_43 : decode cX9_listAll 43 = .ok (.if_icmp .ge 34, 3) := by decide +kernel
theorem dX9_listAll_46 : decode cX9_listAll 46 = .ok (.aload_n 0, 1) := by decide +kernel
theorem dX9_listAll_47 : decode cX9_listAll 47 = .ok (.iload_n 3, 1) := by decide +kernel
theorem dX9_listAll_48 : decode cX9_listAll 48 = .ok (.bipush 19, 2) := by decide +kernel
theorem dX9_listAll_50 : decode cX9_listAll 50 = .ok (.invokevirtual 319, 3) := by decide +kernel
theorem dX9_listAll_53 : decode cX9_listAll 53 = .ok (.aload_n 0, 1) := by decide +kernel
theorem dX9_listAll_54 : decode cX9_listAll 54 = .ok (.bipush 19, 2) := by decide +kernel
theorem dX9_listAll_56 : decode cX9_listAll 56 = .ok (.invokevirtual 256, 3) := by decide +kernel
theorem dX9_listAll_59 : decode cX9_listAll 59 = .ok (.aload_n 0, 1) := by decide +kernel
theorem dX9_listAll_60 : decode cX9_listAll 60 = .ok (.getfield 52, 3) := by decide +kernel
theorem dX9_listAll_63 : decode cX9_listAll 63 = .ok (.iload_n 3, 1) := by decide +kernel
theorem dX9_listAll_64 : decode cX9_listAll 64 = .ok (.aload_n 0, 1) := by decide +kernel
theorem dX9_listAll_65 : decode cX9_listAll 65 = .ok (.bipush 19, 2) := by decide +kernel
theorem dX9_listAll_67 : decode cX9_listAll 67 = .ok (.invokevirtual 328, 3) := by decide +kernel
theorem dX9_listAll_70 : decode cX9_listAll 70 = .ok (.iastore, 1) := by decide +kernel
theorem dX9_listAll_71 : decode cX9_listAll 71 = .ok (.iinc 3 1, 3) := by decide +kernel
theorem dX9_listAll_74 : decode cX9_listAll 74 = .ok (.goto (-36), 3) := by decide +kernel
theorem dX9_listAll_77 : decode cX9_listAll 77 = .ok (.iconst 0, 1) := by decide +kernel
theorem dX9_listAll_78 : decode cX9_listAll 78 = .ok (.istore_n 3, 1) := by decide +kernel
theorem dX9_listAll_79 : decode cX9_listAll 79 = .ok (.iload_n 3, 1) := by decide +kernel
theorem dX9_listAll_80 : decode cX9_listAll 80 = .ok (.aload_n 0, 1) := by decide +kernel
theorem dX9_listAll_81 : decode cX9_listAll 81 = .ok (.getfield 316, 3) := by decide +kernel
theorem dX9_listAll_84 : decode cX9_listAll 84 = .ok (.if_icmp .ge 20, 3) := by decide +kernel
theorem dX9_listAll_87 : decode cX9_listAll 87 = .ok (.aload_n 0, 1) := by decide +kernel
theorem dX9_listAll_88 : decode cX9_listAll 88 = .ok (.getfield 55, 3) := by decide +kernel
theorem dX9_listAll_91 : decode cX9_listAll 91 = .ok (.iload_n 3, 1) := by decide +kernel
theorem dX9_listAll_92 : decode cX9_listAll 92 = .ok (.aload_n 0, 1) := by decide +kernel
theorem dX9_listAll_93 : decode cX9_listAll 93 = .ok (.iload_n 3, 1) := by decide +kernel
theorem dX9_listAll_94 : decode cX9_listAll 94 = .ok (.invokevirtual 331, 3) := by decide +kernel
theorem dX9_listAll_97 : decode cX9_listAll 97 = .ok (.iastore, 1) := by decide +kernel
theorem dX9_listAll_98 : decode cX9_listAll 98 = .ok (.iinc 3 1, 3) := by decide +kernel
theorem dX9_listAll_101 : decode cX9_listAll 101 = .ok (.goto (-22), 3) := by decide +kernel
theorem dX9_listAll_104 : decode cX9_listAll 104 = .ok (.return_, 1) := by decide +kernel
theorem dX9_longest_0 : decode cX9_longest 0 = .ok (.aload_n 0, 1) := by decide +kernel
theorem dX9_longest_1 : decode cX9_longest 1 = .ok (.iload_n 1, 1) := by decide +kernel
theorem dX9_longest_2 : decode cX9_longest 2 = .ok (.invokevirtual 342, 3) := by decide +kernel
theorem dX9_longest_5 : decode cX9_longest 5 = .ok (.ifCond .ne 6, 3) := by decide +kernel
theorem dX9_longest_8 : decode cX9_longest 8 = .ok (.bipush (-2), 2) := by decide +kernel
theorem dX9_longest_10 : decode cX9_longest 10 = .ok (.ireturn, 1) := by decide +kernel
theorem dX9_longest_11 : decode cX9_longest 11 = .ok (.iconst 0, 1) := by decide +kernel
theorem dX9_longest_12 : decode cX9_longest 12 = .ok (.istore_n 2, 1) := by decide +kernel
theorem dX9_longest_13 : decode cX9_longest 13 = .ok (.iconst 0, 1) := by decide +kernel
theorem dX9_longest_14 : decode cX9_longest 14 = .ok (.istore_n 3, 1) := by decide +kernel
theorem dX9_longest_15 : decode cX9_longest 15 = .ok (.iload_n 3, 1) := by decide +kernel
theorem dX9_longest_16 : decode cX9_longest 16 = .ok (.aload_n 0, 1) := by decide +kernel
theorem dX9_longest_17 : decode cX9_longest 17 = .ok (.getfield 316, 3) := by decide +kernel
theorem dX9_longest_20 : decode cX9_longest 20 = .ok (.if_icmp .ge 20, 3) := by decide +kernel
theorem dX9_longest_23 : decode cX9_longest 23 = .ok (.iload_n 2, 1) := by decide +kernel
theorem dX9_longest_24 : decode cX9_longest 24 = .ok (.aload_n 0, 1) := by decide +kernel
theorem dX9_longest_25 : decode cX9_longest 25 = .ok (.getfield 55, 3) := by decide +kernel
theorem dX9_longest_28 : decode cX9_longest 28 = .ok (.iload_n 3, 1) := by decide +kernel
theorem dX9_longest_29 : decode cX9_longest 29 = .ok (.iaload, 1) := by decide +kernel
theorem dX9_longest_30 : decode cX9_longest 30 = .ok (.invokestatic 283, 3) := by decide +kernel
theorem dX9_longest_33 : decode cX9_longest 33 = .ok (.istore_n 2, 1) := by decide +kernel
theorem dX9_longest_34 : decode cX9_longest 34 = .ok (.iinc 3 1, 3) := by decide +kernel
theorem dX9_longest_37 : decode cX9_longest 37 = .ok (.goto (-22), 3) := by decide +kernel
theorem dX9_longest_40 : decode cX9_longest 40 = .ok (.iload_n 2, 1) := by decide +kernel
theorem dX9_longest_41 : decode cX9_longest 41 = .ok (.ireturn, 1) := by decide +kernel
theorem dX9_luck_0 : decode cX9_luck 0 = .ok (.aload_n 0, 1) := by decide +kernel
theorem dX9_luck_1 : decode cX9_luck 1 = .ok (.invokevirtual 89, 3) := by decide +kernel
theorem dX9_luck_4 : decode cX9_luck 4 = .ok (.ifCond .eq 34, 3) := by decide +kernel
theorem dX9_luck_7 : decode cX9_luck 7 = .ok (.iload_n 1, 1) := by decide +kernel
theorem dX9_luck_8 : decode cX9_luck 8 = .ok (.invokestatic 471, 3) := by decide +kernel
theorem dX9_luck_11 : decode cX9_luck 11 = .ok (.ifCond .eq 27, 3) := by decide +kernel
theorem dX9_luck_14 : decode cX9_luck 14 = .ok (.iload_n 2, 1) := by decide +kernel
theorem dX9_luck_15 : decode cX9_luck 15 = .ok (.i2l, 1) := by decide +kernel
theorem dX9_luck_16 : decode cX9_luck 16 = .ok (.lconst 1, 1) := by decide +kernel
theorem dX9_luck_17 : decode cX9_luck 17 = .ok (.ldc2_w 454, 3) := by decide +kernel
theorem dX9_luck_20 : decode cX9_luck 20 = .ok (.invokestatic 85, 3) := by decide +kernel
theorem dX9_luck_23 : decode cX9_luck 23 = .ok (.ifCond .eq 15, 3) := by decide +kernel
theorem dX9_luck_26 : decode cX9_luck 26 = .ok (.iload_n 3, 1) := by decide +kernel
theorem dX9_luck_27 : decode cX9_luck 27 = .ok (.i2l, 1) := by decide +kernel
theorem dX9_luck_28 : decode cX9_luck 28 = .ok (.lconst 0, 1) := by decide +kernel
theorem dX9_luck_29 : decode cX9_luck 29 = .ok (.ldc2_w 278, 3) := by decide +kernel
theorem dX9_luck_32 : decode cX9_luck 32 = .ok (.invokestatic 85, 3) := by decide +kernel
theorem dX9_luck_35 : decode cX9_luck 35 = .ok (.ifCond .ne 6, 3) := by decide +kernel
theorem dX9_luck_38 : decode cX9_luck 38 = .ok (.bipush (-2), 2) := by decide +kernel
theorem dX9_luck_40 : decode cX9_luck 40 = .ok (.ireturn, 1) := by decide +kernel
theorem dX9_luck_41 : decode cX9_luck 41 = .ok (.iconst 0, 1) := by decide +kernel
theorem dX9_luck_42 : decode cX9_luck 42 = .ok (.istore 4, 2) := by decide +kernel
theorem dX9_luck_44 : decode cX9_luck 44 = .ok (.iconst 0, 1) := by decide +kernel
theorem dX9_luck_45 : decode cX9_luck 45 = .ok (.istore 5, 2) := by decide +kernel
theorem dX9_luck_47 : decode cX9_luck 47 = .ok (.iload 5, 2) := by decide +kernel
theorem dX9_luck_49 : decode cX9_luck 49 = .ok (.iload_n 2, 1) := by decide +kernel
theorem dX9_luck_50 : decode cX9_luck 50 = .ok (.if_icmp .ge 37, 3) := by decide +kernel
theorem dX9_luck_53 : decode cX9_luck 53 = .ok (.aload_n 0, 1) := by decide +kernel
theorem dX9_luck_54 : decode cX9_luck 54 = .ok (.iload_n 1, 1) := by decide +kernel
theorem dX9_luck_55 : decode cX9_luck 55 = .ok (.i2l, 1) := by decide +kernel
theorem dX9_luck_56 : decode cX9_luck 56 = .ok (.iload 5, 2) := by decide +kernel
theorem dX9_luck_58 : decode cX9_luck 58 = .ok (.i2l, 1) := by decide +kernel
theorem dX9_luck_59 : decode cX9_luck 59 = .ok (.ladd, 1) := by decide +kernel
theorem dX9_luck_60 : decode cX9_luck 60 = .ok (.invokevirtual 474, 3) := by decide +kernel
theorem dX9_luck_63 : decode cX9_luck 63 = .ok (.iload 4, 2) := by decide +kernel
theorem dX9_luck_65 : decode cX9_luck 65 = .ok (.aload_n 0, 1) := by decide +kernel
theorem dX9_luck_66 : decode cX9_luck 66 = .ok (.invokevirtual 361, 3) := by decide +kernel
theorem dX9_luck_69 : decode cX9_luck 69 = .ok (.iload_n 3, 1) := by decide +kernel
theorem dX9_luck_70 : decode cX9_luck 70 = .ok (.if_icmp .lt 7, 3) := by decide +kernel
theorem dX9_luck_73 : decode cX9_luck 73 = .ok (.iconst 1, 1) := by decide +kernel
theorem dX9_luck_74 : decode cX9_luck 74 = .ok (.goto 4, 3) := by decide +kernel
theorem dX9_luck_77 : decode cX9_luck 77 = .ok (.iconst 0, 1) := by decide +kernel
theorem dX9_luck_78 : decode cX9_luck 78 = .ok (.iadd, 1) := by decide +kernel
theorem dX9_luck_79 : decode cX9_luck 79 = .ok (.istore 4, 2) := by decide +kernel
theorem dX9_luck_81 : decode cX9_luck 81 = .ok (.iinc 5 1, 3) := by decide +kernel
theorem dX9_luck_84 : decode cX9_luck 84 = .ok (.goto (-37), 3) := by decide +kernel
theorem dX9_luck_87 : decode cX9_luck 87 = .ok (.iload 4, 2) := by decide +kernel
theorem dX9_luck_89 : decode cX9_luck 89 = .ok (.ireturn, 1) := by decide +kernel
theorem dX9_many_0 : decode cX9_many 0 = .ok (.aload_n 0, 1) := by decide +kernel
theorem dX9_many_1 : decode cX9_many 1 = .ok (.iload_n 1, 1) := by decide +kernel
theorem dX9_many_2 : decode cX9_many 2 = .ok (.invokevirtual 272, 3) := by decide +kernel
theorem dX9_many_5 : decode cX9_many 5 = .ok (.ifCond .eq 15, 3) := by decide +kernel
theorem dX9_many_8 : decode cX9_many 8 = .ok (.iload_n 2, 1) := by decide +kernel
theorem dX9_many_9 : decode cX9_many 9 = .ok (.i2l, 1) := by decide +kernel
theorem dX9_many_10 : decode cX9_many 10 = .ok (.lconst 1, 1) := by decide +kernel
theorem dX9_many_11 : decode cX9_many 11 = .ok (.ldc2_w 278, 3) := by decide +kernel
theorem dX9_many_14 : decode cX9_many 14 = .ok (.invokestatic 85, 3) := by decide +kernel
theorem dX9_many_17 : decode cX9_many 17 = .ok (.ifCond .ne 6, 3) := by decide +kernel
theorem dX9_many_20 : decode cX9_many 20 = .ok (.bipush (-2), 2) := by decide +kernel
theorem dX9_many_22 : decode cX9_many 22 = .ok (.ireturn, 1) := by decide +kernel
theorem dX9_many_23 : decode cX9_many 23 = .ok (.iconst 0, 1) := by decide +kernel
theorem dX9_many_24 : decode cX9_many 24 = .ok (.istore_n 3, 1) := by decide +kernel
theorem dX9_many_25 : decode cX9_many 25 = .ok (.iconst 0, 1) := by decide +kernel
theorem dX9_many_26 : decode cX9_many 26 = .ok (.istore 4, 2) := by decide +kernel
theorem dX9_many_28 : decode cX9_many 28 = .ok (.iload 4, 2) := by decide +kernel
theorem dX9_many_30 : decode cX9_many 30 = .ok (.aload_n 0, 1) := by decide +kernel
theorem dX9_many_31 : decode cX9_many 31 = .ok (.iload_n 1, 1) := by decide +kernel
theorem dX9_many_32 : decode cX9_many 32 = .ok (.invokevirtual 207, 3) := by decide +kernel
theorem dX9_many_35 : decode cX9_many 35 = .ok (.if_icmp .ge 28, 3) := by decide +kernel
theorem dX9_many_38 : decode cX9_many 38 = .ok (.iload_n 3, 1) := by decide +kernel
theorem dX9_many_39 : decode cX9_many 39 = .ok (.aload_n 0, 1) := by decide +kernel
theorem dX9_many_40 : decode cX9_many 40 = .ok (.iload_n 1, 1) := by decide +kernel
theorem dX9_many_41 : decode cX9_many 41 = .ok (.iload 4, 2) := by decide +kernel
theorem dX9_many_43 : decode cX9_many 43 = .ok (.invokevirtual 210, 3) := by decide +kernel
theorem dX9_many_46 : decode cX9_many 46 = .ok (.iload_n 2, 1) := by decide +kernel
theorem dX9_many_47 : decode cX9_many 47 = .ok (.if_icmp .ne 7, 3) := by decide +kernel
theorem dX9_many_50 : decode cX9_many 50 = .ok (.iconst 1, 1) := by decide +kernel
theorem dX9_many_51 : decode cX9_many 51 = .ok (.goto 4, 3) := by decide +kernel
theorem dX9_many_54 : decode cX9_many 54 = .ok (.iconst 0, 1) := by decide +kernel
theorem dX9_many_55 : decode cX9_many 55 = .ok (.iadd, 1) := by decide +kernel
theorem dX9_many_56 : decode cX9_many 56 = .ok (.istore_n 3, 1) := by decide +kernel
theorem dX9_many_57 : decode cX9_many 57 = .ok (.iinc 4 1, 3) := by decide +kernel
theorem dX9_many_60 : decode cX9_many 60 = .ok (.goto (-32), 3) := by decide +kernel
theorem dX9_many_63 : decode cX9_many 63 = .ok (.iload_n 3, 1) := by decide +kernel
theorem dX9_many_64 : decode cX9_many 64 = .ok (.ireturn, 1) := by decide +kernel
theorem dX9_manyOf_0 : decode cX9_manyOf 0 = .ok (.aload_n 0, 1) := by decide +kernel
theorem dX9_manyOf_1 : decode cX9_manyOf 1 = .ok (.getfield 34, 3) := by decide +kernel
theorem dX9_manyOf_4 : decode cX9_manyOf 4 = .ok (.sipush 701, 3) := by decide +kernel
theorem dX9_manyOf_7 : decode cX9_manyOf 7 = .ok (.iload_n 1, 1) := by decide +kernel
theorem dX9_manyOf_8 : decode cX9_manyOf 8 = .ok (.imul, 1) := by decide +kernel
theorem dX9_manyOf_9 : decode cX9_manyOf 9 = .ok (.iaload, 1) := by decide +kernel
theorem dX9_manyOf_10 : decode cX9_manyOf 10 = .ok (.ireturn, 1) := by decide +kernel
theorem dX9_mean_0 : decode cX9_mean 0 = .ok (.aload_n 0, 1) := by decide +kernel
theorem dX9_mean_1 : decode cX9_mean 1 = .ok (.iload_n 1, 1) := by decide +kernel
theorem dX9_mean_2 : decode cX9_mean 2 = .ok (.iload_n 2, 1) := by decide +kernel
theorem dX9_mean_3 : decode cX9_mean 3 = .ok (.invokevirtual 446, 3) := by decide +kernel
theorem dX9_mean_6 : decode cX9_mean 6 = .ok (.ifCond .ne 7, 3) := by decide +kernel
theorem dX9_mean_9 : decode cX9_mean 9 = .ok (.ldc2_w 449, 3) := by decide +kernel
theorem dX9_mean_12 : decode cX9_mean 12 = .ok (.lreturn, 1) := by decide +kernel
theorem dX9_mean_13 : decode cX9_mean 13 = .ok (.aload_n 0, 1) := by decide +kernel
theorem dX9_mean_14 : decode cX9_mean 14 = .ok (.iload_n 1, 1) := by decide +kernel
theorem dX9_mean_15 : decode cX9_mean 15 = .ok (.iconst 0, 1) := by decide +kernel
theorem dX9_mean_16 : decode cX9_mean 16 = .ok (.invokevirtual 451, 3) := by decide +kernel
theorem dX9_mean_19 : decode cX9_mean 19 = .ok (.aload_n 0, 1) := by decide +kernel
theorem dX9_mean_20 : decode cX9_mean 20 = .ok (.getfield 443, 3) := by decide +kernel
theorem dX9_mean_23 : decode cX9_mean 23 = .ok (.aload_n 0, 1) := by decide +kernel
theorem dX9_mean_24 : decode cX9_mean 24 = .ok (.getfield 436, 3) := by decide +kernel
theorem dX9_mean_27 : decode cX9_mean 27 = .ok (.iload_n 2, 1) := by decide +kernel
theorem dX9_mean_28 : decode cX9_mean 28 = .ok (.invokestatic 412, 3) := by decide +kernel
theorem dX9_mean_31 : decode cX9_mean 31 = .ok (.lreturn, 1) := by decide +kernel
theorem dX9_moor_0 : decode cX9_moor 0 = .ok (.aload_n 0, 1) := by decide +kernel
theorem dX9_moor_1 : decode cX9_moor 1 = .ok (.aload_n 0, 1) := by decide +kernel
theorem dX9_moor_2 : decode cX9_moor 2 = .ok (.getfield 100, 3) := by decide +kernel
theorem dX9_moor_5 : decode cX9_moor 5 = .ok (.putfield 103, 3) := by decide +kernel
theorem dX9_moor_8 : decode cX9_moor 8 = .ok (.aload_n 0, 1) := by decide +kernel
theorem dX9_moor_9 : decode cX9_moor 9 = .ok (.iconst 0, 1) := by decide +kernel
theorem dX9_moor_10 : decode cX9_moor 10 = .ok (.putfield 100, 3) := by decide +kernel
theorem dX9_moor_13 : decode cX9_moor 13 = .ok (.aload_n 0, 1) := by decide +kernel
theorem dX9_moor_14 : decode cX9_moor 14 = .ok (.iconst 0, 1) := by decide +kernel
theorem dX9_moor_15 : decode cX9_moor 15 = .ok (.putfield 106, 3) := by decide +kernel
theorem dX9_moor_18 : decode cX9_moor 18 = .ok (.aload_n 0, 1) := by decide +kernel
theorem dX9_moor_19 : decode cX9_moor 19 = .ok (.iconst 0, 1) := by decide +kernel
theorem dX9_moor_20 : decode cX9_moor 20 = .ok (.putfield 137, 3) := by decide +kernel
theorem dX9_moor_23 : decode cX9_moor 23 = .ok (.aload_n 0, 1) := by decide +kernel
theorem dX9_moor_24 : decode cX9_moor 24 = .ok (.iconst (-1), 1) := by decide +kernel
theorem dX9_moor_25 : decode cX9_moor 25 = .ok (.putfield 27, 3) := by decide +kernel
theorem dX9_moor_28 : decode cX9_moor 28 = .ok (.iconst 0, 1) := by decide +kernel
theorem dX9_moor_29 : decode cX9_moor 29 = .ok (.istore_n 1, 1) := by decide +kernel
theorem dX9_moor_30 : decode cX9_moor 30 = .ok (.iload_n 1, 1) := by decide +kernel
theorem dX9_moor_31 : decode cX9_moor 31 = .ok (.bipush 47, 2) := by decide +kernel
theorem dX9_moor_33 : decode cX9_moor 33 = .ok (.if_icmp .ge 16, 3) := by decide +kernel
theorem dX9_moor_36 : decode cX9_moor 36 = .ok (.aload_n 0, 1) := by decide +kernel
theorem dX9_moor_37 : decode cX9_moor 37 = .ok (.getfield 31, 3) := by decide +kernel
theorem dX9_moor_40 : decode cX9_moor 40 = .ok (.iload_n 1, 1) := by decide +kernel
theorem dX9_moor_41 : decode cX9_moor 41 = .ok (.iconst 0, 1) := by decide +kernel
theorem dX9_moor_42 : decode cX9_moor 42 = .ok (.iastore, 1) := by decide +kernel
theorem dX9_moor_43 : decode cX9_moor 43 = .ok (.iinc 1 1, 3) := by decide +kernel
theorem dX9_moor_46 : decode cX9_moor 46 = .ok (.goto (-16), 3) := by decide +kernel
theorem dX9_moor_49 : decode cX9_moor 49 = .ok (.aload_n 0, 1) := by decide +kernel
theorem dX9_moor_50 : decode cX9_moor 50 = .ok (.invokevirtual 156, 3) := by decide +kernel
theorem dX9_moor_53 : decode cX9_moor 53 = .ok (.aload_n 0, 1) := by decide +kernel
theorem dX9_moor_54 : decode cX9_moor 54 = .ok (.invokevirtual 140, 3) := by decide +kernel
theorem dX9_moor_57 : decode cX9_moor 57 = .ok (.ifCond .eq 17, 3) := by decide +kernel
theorem dX9_moor_60 : decode cX9_moor 60 = .ok (.aload_n 0, 1) := by decide +kernel
theorem dX9_moor_61 : decode cX9_moor 61 = .ok (.getfield 116, 3) := by decide +kernel
theorem dX9_moor_64 : decode cX9_moor 64 = .ok (.ifCond .eq 10, 3) := by decide +kernel
theorem dX9_moor_67 : decode cX9_moor 67 = .ok (.aload_n 0, 1) := by decide +kernel
theorem dX9_moor_68 : decode cX9_moor 68 = .ok (.invokevirtual 197, 3) := by decide +kernel
theorem dX9_moor_71 : decode cX9_moor 71 = .ok (.goto (-18), 3) := by decide +kernel
theorem dX9_moor_74 : decode cX9_moor 74 = .ok (.aload_n 0, 1) := by decide +kernel
theorem dX9_moor_75 : decode cX9_moor 75 = .ok (.invokevirtual 140, 3) := by decide +kernel
theorem dX9_moor_78 : decode cX9_moor 78 = .ok (.ifCond .ne 6, 3) := by decide +kernel
theorem dX9_moor_81 : decode cX9_moor 81 = .ok (.bipush (-4), 2) := by decide +kernel
theorem dX9_moor_83 : decode cX9_moor 83 = .ok (.ireturn, 1) := by decide +kernel
theorem dX9_moor_84 : decode cX9_moor 84 = .ok (.iconst 0, 1) := by decide +kernel
theorem dX9_moor_85 : decode cX9_moor 85 = .ok (.istore_n 1, 1) := by decide +kernel
theorem dX9_moor_86 : decode cX9_moor 86 = .ok (.iload_n 1, 1) := by decide +kernel
theorem dX9_moor_87 : decode cX9_moor 87 = .ok (.bipush 47, 2) := by decide +kernel
theorem dX9_moor_89 : decode cX9_moor 89 = .ok (.if_icmp .ge 21, 3) := by decide +kernel
theorem dX9_moor_92 : decode cX9_moor 92 = .ok (.aload_n 0, 1) := by decide +kernel
theorem dX9_moor_93 : decode cX9_moor 93 = .ok (.getfield 9, 3) := by decide +kernel
theorem dX9_moor_96 : decode cX9_moor 96 = .ok (.iload_n 1, 1) := by decide +kernel
theorem dX9_moor_97 : decode cX9_moor 97 = .ok (.aload_n 0, 1) := by decide +kernel
theorem dX9_moor_98 : decode cX9_moor 98 = .ok (.getfield 31, 3) := by decide +kernel
theorem dX9_moor_101 : decode cX9_moor 101 = .ok (.iload_n 1, 1) := by decide +kernel
theorem dX9_moor_102 : decode cX9_moor 102 = .ok (.iaload, 1) := by decide +kernel
theorem dX9_moor_103 : decode cX9_moor 103 = .ok (.iastore, 1) := by decide +kernel
theorem dX9_moor_104 : decode cX9_moor 104 = .ok (.iinc 1 1, 3) := by decide +kernel
theorem dX9_moor_107 : decode cX9_moor 107 = .ok (.goto (-21), 3) := by decide +kernel
theorem dX9_moor_110 : decode cX9_moor 110 = .ok (.aload_n 0, 1) := by decide +kernel
theorem dX9_moor_111 : decode cX9_moor 111 = .ok (.getfield 9, 3) := by decide +kernel
theorem dX9_moor_114 : decode cX9_moor 114 = .ok (.bipush 6, 2) := by decide +kernel
theorem dX9_moor_116 : decode cX9_moor 116 = .ok (.iaload, 1) := by decide +kernel
theorem dX9_moor_117 : decode cX9_moor 117 = .ok (.ireturn, 1) := by decide +kernel
theorem dX9_most_0 : decode cX9_most 0 = .ok (.aload_n 0, 1) := by decide +kernel
theorem dX9_most_1 : decode cX9_most 1 = .ok (.invokevirtual 265, 3) := by decide +kernel
theorem dX9_most_4 : decode cX9_most 4 = .ok (.ifCond .ne 6, 3) := by decide +kernel
theorem dX9_most_7 : decode cX9_most 7 = .ok (.bipush (-2), 2) := by decide +kernel
theorem dX9_most_9 : decode cX9_most 9 = .ok (.ireturn, 1) := by decide +kernel
theorem dX9_most_10 : decode cX9_most 10 = .ok (.iconst 0, 1) := by decide +kernel
theorem dX9_most_11 : decode cX9_most 11 = .ok (.istore_n 1, 1) := by decide +kernel
theorem dX9_most_12 : decode cX9_most 12 = .ok (.iconst 0, 1) := by decide +kernel
theorem dX9_most_13 : decode cX9_most 13 = .ok (.istore_n 2, 1) := by decide +kernel
theorem dX9_most_14 : decode cX9_most 14 = .ok (.iload_n 2, 1) := by decide +kernel
theorem dX9_most_15 : decode cX9_most 15 = .ok (.aload_n 0, 1) := by decide +kernel
theorem dX9_most_16 : decode cX9_most 16 = .ok (.invokevirtual 93, 3) := by decide +kernel
theorem dX9_most_19 : decode cX9_most 19 = .ok (.if_icmp .gt 19, 3) := by decide +kernel
theorem dX9_most_22 : decode cX9_most 22 = .ok (.iload_n 1, 1) := by decide +kernel
theorem dX9_most_23 : decode cX9_most 23 = .ok (.aload_n 0, 1) := by decide +kernel
theorem dX9_most_24 : decode cX9_most 24 = .ok (.iload_n 2, 1) := by decide +kernel
theorem dX9_most_25 : decode cX9_most 25 = .ok (.invokevirtual 207, 3) := by decide +kernel
theorem dX9_most_28 : decode cX9_most 28 = .ok (.invokestatic 283, 3) := by decide +kernel
theorem dX9_most_31 : decode cX9_most 31 = .ok (.istore_n 1, 1) := by decide +kernel
theorem dX9_most_32 : decode cX9_most 32 = .ok (.iinc 2 1, 3) := by decide +kernel
theorem dX9_most_35 : decode cX9_most 35 = .ok (.goto (-21), 3) := by decide +kernel
theorem dX9_most_38 : decode cX9_most 38 = .ok (.iload_n 1, 1) := by decide +kernel
theorem dX9_most_39 : decode cX9_most 39 = .ok (.ireturn, 1) := by decide +kernel
theorem dX9_move_0 : decode cX9_move 0 = .ok (.aload_n 0, 1) := by decide +kernel
theorem dX9_move_1 : decode cX9_move 1 = .ok (.iload_n 1, 1) := by decide +kernel
theorem dX9_move_2 : decode cX9_move 2 = .ok (.iload_n 2, 1) := by decide +kernel
theorem dX9_move_3 : decode cX9_move 3 = .ok (.invokevirtual 416, 3) := by decide +kernel
theorem dX9_move_6 : decode cX9_move 6 = .ok (.ifCond .ne 6, 3) := by decide +kernel
theorem dX9_move_9 : decode cX9_move 9 = .ok (.bipush (-2), 2) := by decide +kernel
theorem dX9_move_11 : decode cX9_move 11 = .ok (.ireturn, 1) := by decide +kernel
theorem dX9_move_12 : decode cX9_move 12 = .ok (.iconst 0, 1) := by decide +kernel
theorem dX9_move_13 : decode cX9_move 13 = .ok (.istore_n 3, 1) := by decide +kernel
theorem dX9_move_14 : decode cX9_move 14 = .ok (.iload_n 3, 1) := by decide +kernel
theorem dX9_move_15 : decode cX9_move 15 = .ok (.aload_n 0, 1) := by decide +kernel
theorem dX9_move_16 : decode cX9_move 16 = .ok (.iload_n 1, 1) := by decide +kernel
theorem dX9_move_17 : decode cX9_move 17 = .ok (.invokevirtual 207, 3) := by decide +kernel
theorem dX9_move_20 : decode cX9_move 20 = .ok (.if_icmp .ge 71, 3) := by decide +kernel
theorem dX9_move_23 : decode cX9_move 23 = .ok (.aload_n 0, 1) := by decide +kernel
theorem dX9_move_24 : decode cX9_move 24 = .ok (.iload_n 1, 1) := by decide +kernel
theorem dX9_move_25 : decode cX9_move 25 = .ok (.iload_n 3, 1) := by decide +kernel
theorem dX9_move_26 : decode cX9_move 26 = .ok (.invokevirtual 422, 3) := by decide +kernel
theorem dX9_move_29 : decode cX9_move 29 = .ok (.ifCond .ne 6, 3) := by decide +kernel
theorem dX9_move_32 : decode cX9_move 32 = .ok (.goto 53, 3) := by decide +kernel
theorem dX9_move_35 : decode cX9_move 35 = .ok (.iconst 1, 1) := by decide +kernel
theorem dX9_move_36 : decode cX9_move 36 = .ok (.istore 4, 2) := by decide +kernel
theorem dX9_move_38 : decode cX9_move 38 = .ok (.iload 4, 2) := by decide +kernel
theorem dX9_move_40 : decode cX9_move 40 = .ok (.iload_n 2, 1) := by decide +kernel
theorem dX9_move_41 : decode cX9_move 41 = .ok (.aload_n 0, 1) := by decide +kernel
theorem dX9_move_42 : decode cX9_move 42 = .ok (.iload_n 1, 1) := by decide +kernel
theorem dX9_move_43 : decode cX9_move 43 = .ok (.iload_n 3, 1) := by decide +kernel
theorem dX9_move_44 : decode cX9_move 44 = .ok (.invokevirtual 210, 3) := by decide +kernel
theorem dX9_move_47 : decode cX9_move 47 = .ok (.invokestatic 131, 3) := by decide +kernel
theorem dX9_move_50 : decode cX9_move 50 = .ok (.if_icmp .gt 35, 3) := by decide +kernel
theorem dX9_move_53 : decode cX9_move 53 = .ok (.aload_n 0, 1) := by decide +kernel
theorem dX9_move_54 : decode cX9_move 54 = .ok (.iload_n 1, 1) := by decide +kernel
theorem dX9_move_55 : decode cX9_move 55 = .ok (.iload_n 2, 1) := by decide +kernel
theorem dX9_move_56 : decode cX9_move 56 = .ok (.iload_n 3, 1) := by decide +kernel
theorem dX9_move_57 : decode cX9_move 57 = .ok (.iload 4, 2) := by decide +kernel
theorem dX9_move_59 : decode cX9_move 59 = .ok (.invokevirtual 425, 3) := by decide +kernel
theorem dX9_move_62 : decode cX9_move 62 = .ok (.ifCond .eq 17, 3) := by decide +kernel
theorem dX9_move_65 : decode cX9_move 65 = .ok (.sipush 1000, 3) := by decide +kernel
theorem dX9_move_68 : decode cX9_move 68 = .ok (.aload_n 0, 1) := by decide +kernel
theorem dX9_move_69 : decode cX9_move 69 = .ok (.iload_n 1, 1) := by decide +kernel
theorem dX9_move_70 : decode cX9_move 70 = .ok (.iload_n 3, 1) := by decide +kernel
theorem dX9_move_71 : decode cX9_move 71 = .ok (.invokevirtual 210, 3) := by decide +kernel
theorem dX9_move_74 : decode cX9_move 74 = .ok (.imul, 1) := by decide +kernel
theorem dX9_move_75 : decode cX9_move 75 = .ok (.iload 4, 2) := by decide +kernel
theorem dX9_move_77 : decode cX9_move 77 = .ok (.iadd, 1) := by decide +kernel
theorem dX9_move_78 : decode cX9_move 78 = .ok (.ireturn, 1) := by decide +kernel
theorem dX9_move_79 : decode cX9_move 79 = .ok (.iinc 4 1, 3) := by decide +kernel
theorem dX9_move_82 : decode cX9_move 82 = .ok (.goto (-44), 3) := by decide +kernel
theorem dX9_move_85 : decode cX9_move 85 = .ok (.iinc 3 1, 3) := by decide +kernel
theorem dX9_move_88 : decode cX9_move 88 = .ok (.goto (-74), 3) := by decide +kernel
theorem dX9_move_91 : decode cX9_move 91 = .ok (.iconst (-1), 1) := by decide +kernel
theorem dX9_move_92 : decode cX9_move 92 = .ok (.ireturn, 1) := by decide +kernel
theorem dX9_moves_0 : decode cX9_moves 0 = .ok (.aload_n 0, 1) := by decide +kernel
theorem dX9_moves_1 : decode cX9_moves 1 = .ok (.iload_n 1, 1) := by decide +kernel
theorem dX9_moves_2 : decode cX9_moves 2 = .ok (.iload_n 2, 1) := by decide +kernel
theorem dX9_moves_3 : decode cX9_moves 3 = .ok (.invokevirtual 416, 3) := by decide +kernel
theorem dX9_moves_6 : decode cX9_moves 6 = .ok (.ifCond .ne 6, 3) := by decide +kernel
theorem dX9_moves_9 : decode cX9_moves 9 = .ok (.bipush (-2), 2) := by decide +kernel
theorem dX9_moves_11 : decode cX9_moves 11 = .ok (.ireturn, 1) := by decide +kernel
theorem dX9_moves_12 : decode cX9_moves 12 = .ok (.iconst 0, 1) := by decide +kernel
theorem dX9_moves_13 : decode cX9_moves 13 = .ok (.istore_n 3, 1) := by decide +kernel
theorem dX9_moves_14 : decode cX9_moves 14 = .ok (.iconst 0, 1) := by decide +kernel
theorem dX9_moves_15 : decode cX9_moves 15 = .ok (.istore 4, 2) := by decide +kernel
theorem dX9_moves_17 : decode cX9_moves 17 = .ok (.iload 4, 2) := by decide +kernel
theorem dX9_moves_19 : decode cX9_moves 19 = .ok (.aload_n 0, 1) := by decide +kernel
theorem dX9_moves_20 : decode cX9_moves 20 = .ok (.iload_n 1, 1) := by decide +kernel
theorem dX9_moves_21 : decode cX9_moves 21 = .ok (.invokevirtual 207, 3) := by decide +kernel
theorem dX9_moves_24 : decode cX9_moves 24 = .ok (.if_icmp .ge 68, 3) := by decide +kernel
theorem dX9_moves_27 : decode cX9_moves 27 = .ok (.aload_n 0, 1) := by decide +kernel
theorem dX9_moves_28 : decode cX9_moves 28 = .ok (.iload_n 1, 1) := by decide +kernel
theorem dX9_moves_29 : decode cX9_moves 29 = .ok (.iload 4, 2) := by decide +kernel
theorem dX9_moves_31 : decode cX9_moves 31 = .ok (.invokevirtual 422, 3) := by decide +kernel
theorem dX9_moves_34 : decode cX9_moves 34 = .ok (.ifCond .ne 6, 3) := by decide +kernel
theorem dX9_moves_37 : decode cX9_moves 37 = .ok (.goto 49, 3) := by decide +kernel
theorem dX9_moves_40 : decode cX9_moves 40 = .ok (.iconst 1, 1) := by decide +kernel
theorem dX9_moves_41 : decode cX9_moves 41 = .ok (.istore 5, 2) := by decide +kernel
theorem dX9_moves_43 : decode cX9_moves 43 = .ok (.iload 5, 2) := by decide +kernel
theorem dX9_moves_45 : decode cX9_moves 45 = .ok (.iload_n 2, 1) := by decide +kernel
theorem dX9_moves_46 : decode cX9_moves 46 = .ok (.aload_n 0, 1) := by decide +kernel
theorem dX9_moves_47 : decode cX9_moves 47 = .ok (.iload_n 1, 1) := by decide +kernel
theorem dX9_moves_48 : decode cX9_moves 48 = .ok (.iload 4, 2) := by decide +kernel
theorem dX9_moves_50 : decode cX9_moves 50 = .ok (.invokevirtual 210, 3) := by decide +kernel
theorem dX9_moves_53 : decode cX9_moves 53 = .ok (.invokestatic 131, 3) := by decide +kernel
theorem dX9_moves_56 : decode cX9_moves 56 = .ok (.if_icmp .gt 30, 3) := by decide +kernel
theorem dX9_moves_59 : decode cX9_moves 59 = .ok (.iload_n 3, 1) := by decide +kernel
theorem dX9_moves_60 : decode cX9_moves 60 = .ok (.aload_n 0, 1) := by decide +kernel
theorem dX9_moves_61 : decode cX9_moves 61 = .ok (.iload_n 1, 1) := by decide +kernel
theorem dX9_moves_62 : decode cX9_moves 62 = .ok (.iload_n 2, 1) := by decide +kernel
theorem dX9_moves_63 : decode cX9_moves 63 = .ok (.iload 4, 2) := by decide +kernel
theorem dX9_moves_65 : decode cX9_moves 65 = .ok (.iload 5, 2) := by decide +kernel
theorem dX9_moves_67 : decode cX9_moves 67 = .ok (.invokevirtual 425, 3) := by decide +kernel
theorem dX9_moves_70 : decode cX9_moves 70 = .ok (.ifCond .eq 7, 3) := by decide +kernel
theorem dX9_moves_73 : decode cX9_moves 73 = .ok (.iconst 1, 1) := by decide +kernel
theorem dX9_moves_74 : decode cX9_moves 74 = .ok (.goto 4, 3) := by decide +kernel
theorem dX9_moves_77 : decode cX9_moves 77 = .ok (.iconst 0, 1) := by decide +kernel
theorem dX9_moves_78 : decode cX9_moves 78 = .ok (.iadd, 1) := by decide +kernel
theorem dX9_moves_79 : decode cX9_moves 79 = .ok (.istore_n 3, 1) := by decide +kernel
theorem dX9_moves_80 : decode cX9_moves 80 = .ok (.iinc 5 1, 3) := by decide +kernel
theorem dX9_moves_83 : decode cX9_moves 83 = .ok (.goto (-40), 3) := by decide +kernel
theorem dX9_moves_86 : decode cX9_moves 86 = .ok (.iinc 4 1, 3) := by decide +kernel
theorem dX9_moves_89 : decode cX9_moves 89 = .ok (.goto (-72), 3) := by decide +kernel
theorem dX9_moves_92 : decode cX9_moves 92 = .ok (.iload_n 3, 1) := by decide +kernel
theorem dX9_moves_93 : decode cX9_moves 93 = .ok (.ireturn, 1) := by decide +kernel
theorem dX9_nextRow_0 : decode cX9_nextRow 0 = .ok (.aload_n 0, 1) := by decide +kernel
theorem dX9_nextRow_1 : decode cX9_nextRow 1 = .ok (.bipush 18, 2) := by decide +kernel
theorem dX9_nextRow_3 : decode cX9_nextRow 3 = .ok (.invokevirtual 207, 3) := by decide +kernel
theorem dX9_nextRow_6 : decode cX9_nextRow 6 = .ok (.istore_n 1, 1) := by decide +kernel
theorem dX9_nextRow_7 : decode cX9_nextRow 7 = .ok (.iload_n 1, 1) := by decide +kernel
theorem dX9_nextRow_8 : decode cX9_nextRow 8 = .ok (.iconst 1, 1) := by decide +kernel
theorem dX9_nextRow_9 : decode cX9_nextRow 9 = .ok (.isub, 1) := by decide +kernel
theorem dX9_nextRow_10 : decode cX9_nextRow 10 = .ok (.istore_n 2, 1) := by decide +kernel
theorem dX9_nextRow_11 : decode cX9_nextRow 11 = .ok (.iload_n 2, 1) := by decide +kernel
theorem dX9_nextRow_12 : decode cX9_nextRow 12 = .ok (.ifCond .lt 20, 3) := by decide +kernel
theorem dX9_nextRow_15 : decode cX9_nextRow 15 = .ok (.aload_n 0, 1) := by decide +kernel
theorem dX9_nextRow_16 : decode cX9_nextRow 16 = .ok (.bipush 18, 2) := by decide +kernel
theorem dX9_nextRow_18 : decode cX9_nextRow 18 = .ok (.iload_n 2, 1) := by decide +kernel
theorem dX9_nextRow_19 : decode cX9_nextRow 19 = .ok (.invokevirtual 210, 3) := by decide +kernel
theorem dX9_nextRow_22 : decode cX9_nextRow 22 = .ok (.iconst 1, 1) := by decide +kernel
theorem dX9_nextRow_23 : decode cX9_nextRow 23 = .ok (.if_icmp .ne 9, 3) := by decide +kernel
theorem dX9_nextRow_26 : decode cX9_nextRow 26 = .ok (.iinc 2 (-1), 3) := by decide +kernel
theorem dX9_nextRow_29 : decode cX9_nextRow 29 = .ok (.goto (-18), 3) := by decide +kernel
theorem dX9_nextRow_32 : decode cX9_nextRow 32 = .ok (.iload_n 2, 1) := by decide +kernel
theorem dX9_nextRow_33 : decode cX9_nextRow 33 = .ok (.ifCond .ge 5, 3) := by decide +kernel
theorem dX9_nextRow_36 : decode cX9_nextRow 36 = .ok (.iconst 0, 1) := by decide +kernel
theorem dX9_nextRow_37 : decode cX9_nextRow 37 = .ok (.ireturn, 1) := by decide +kernel
theorem dX9_nextRow_38 : decode cX9_nextRow 38 = .ok (.aload_n 0, 1) := by decide +kernel
theorem dX9_nextRow_39 : decode cX9_nextRow 39 = .ok (.bipush 18, 2) := by decide +kernel
theorem dX9_nextRow_41 : decode cX9_nextRow 41 = .ok (.iload_n 2, 1) := by decide +kernel
theorem dX9_nextRow_42 : decode cX9_nextRow 42 = .ok (.invokevirtual 210, 3) := by decide +kernel
theorem dX9_nextRow_45 : decode cX9_nextRow 45 = .ok (.iconst 1, 1) := by decide +kernel
theorem dX9_nextRow_46 : decode cX9_nextRow 46 = .ok (.isub, 1) := by decide +kernel
theorem dX9_nextRow_47 : decode cX9_nextRow 47 = .ok (.istore_n 3, 1) := by decide +kernel
theorem dX9_nextRow_48 : decode cX9_nextRow 48 = .ok (.iload_n 1, 1) := by decide +kernel
theorem dX9_nextRow_49 : decode cX9_nextRow 49 = .ok (.iload_n 2, 1) := by decide +kernel
theorem dX9_nextRow_50 : decode cX9_nextRow 50 = .ok (.isub, 1) := by decide +kernel
theorem dX9_nextRow_51 : decode cX9_nextRow 51 = .ok (.istore 4, 2) := by decide +kernel
theorem dX9_nextRow_53 : decode cX9_nextRow 53 = .ok (.aload_n 0, 1) := by decide +kernel
theorem dX9_nextRow_54 : decode cX9_nextRow 54 = .ok (.getfield 34, 3) := by decide +kernel
theorem dX9_nextRow_57 : decode cX9_nextRow 57 = .ok (.sipush 12618, 3) := by decide +kernel
theorem dX9_nextRow_60 : decode cX9_nextRow 60 = .ok (.iload_n 2, 1) := by decide +kernel
theorem dX9_nextRow_61 : decode cX9_nextRow 61 = .ok (.iastore, 1) := by decide +kernel
theorem dX9_nextRow_62 : decode cX9_nextRow 62 = .ok (.aload_n 0, 1) := by decide +kernel
theorem dX9_nextRow_63 : decode cX9_nextRow 63 = .ok (.bipush 18, 2) := by decide +kernel
theorem dX9_nextRow_65 : decode cX9_nextRow 65 = .ok (.iload_n 3, 1) := by decide +kernel
theorem dX9_nextRow_66 : decode cX9_nextRow 66 = .ok (.invokevirtual 232, 3) := by decide +kernel
theorem dX9_nextRow_69 : decode cX9_nextRow 69 = .ok (.iload 4, 2) := by decide +kernel
theorem dX9_nextRow_71 : decode cX9_nextRow 71 = .ok (.ifCond .le 29, 3) := by decide +kernel
theorem dX9_nextRow_74 : decode cX9_nextRow 74 = .ok (.iload 4, 2) := by decide +kernel
theorem dX9_nextRow_76 : decode cX9_nextRow 76 = .ok (.iload_n 3, 1) := by decide +kernel
theorem dX9_nextRow_77 : decode cX9_nextRow 77 = .ok (.invokestatic 131, 3) := by decide +kernel
theorem dX9_nextRow_80 : decode cX9_nextRow 80 = .ok (.istore 5, 2) := by decide +kernel
theorem dX9_nextRow_82 : decode cX9_nextRow 82 = .ok (.aload_n 0, 1) := by decide +kernel
theorem dX9_nextRow_83 : decode cX9_nextRow 83 = .ok (.bipush 18, 2) := by decide +kernel
theorem dX9_nextRow_85 : decode cX9_nextRow 85 = .ok (.iload 5, 2) := by decide +kernel
theorem dX9_nextRow_87 : decode cX9_nextRow 87 = .ok (.invokevirtual 232, 3) := by decide +kernel
theorem dX9_nextRow_90 : decode cX9_nextRow 90 = .ok (.iload 4, 2) := by decide +kernel
theorem dX9_nextRow_92 : decode cX9_nextRow 92 = .ok (.iload 5, 2) := by decide +kernel
theorem dX9_nextRow_94 : decode cX9_nextRow 94 = .ok (.isub, 1) := by decide +kernel
theorem dX9_nextRow_95 : decode cX9_nextRow 95 = .ok (.istore 4, 2) := by decide +kernel
theorem dX9_nextRow_97 : decode cX9_nextRow 97 = .ok (.goto (-28), 3) := by decide +kernel
theorem dX9_nextRow_100 : decode cX9_nextRow 100 = .ok (.iconst 1, 1) := by decide +kernel
theorem dX9_nextRow_101 : decode cX9_nextRow 101 = .ok (.ireturn, 1) := by decide +kernel
theorem dX9_number_0 : decode cX9_number 0 = .ok (.aload_n 0, 1) := by decide +kernel
theorem dX9_number_1 : decode cX9_number 1 = .ok (.invokevirtual 140, 3) := by decide +kernel
theorem dX9_number_4 : decode cX9_number 4 = .ok (.ifCond .eq 16, 3) := by decide +kernel
theorem dX9_number_7 : decode cX9_number 7 = .ok (.aload_n 0, 1) := by decide +kernel
theorem dX9_number_8 : decode cX9_number 8 = .ok (.getfield 116, 3) := by decide +kernel
theorem dX9_number_11 : decode cX9_number 11 = .ok (.iconst 2, 1) := by decide +kernel
theorem dX9_number_12 : decode cX9_number 12 = .ok (.if_icmp .eq 8, 3) := by decide +kernel
theorem dX9_number_15 : decode cX9_number 15 = .ok (.aload_n 0, 1) := by decide +kernel
theorem dX9_number_16 : decode cX9_number 16 = .ok (.iconst 1, 1) := by decide +kernel
theorem dX9_number_17 : decode cX9_number 17 = .ok (.invokevirtual 162, 3) := by decide +kernel
theorem dX9_number_20 : decode cX9_number 20 = .ok (.aload_n 0, 1) := by decide +kernel
theorem dX9_number_21 : decode cX9_number 21 = .ok (.invokevirtual 140, 3) := by decide +kernel
theorem dX9_number_24 : decode cX9_number 24 = .ok (.ifCond .eq 23, 3) := by decide +kernel
theorem dX9_number_27 : decode cX9_number 27 = .ok (.aload_n 0, 1) := by decide +kernel
theorem dX9_number_28 : decode cX9_number 28 = .ok (.getfield 127, 3) := by decide +kernel
theorem dX9_number_31 : decode cX9_number 31 = .ok (.i2l, 1) := by decide +kernel
theorem dX9_number_32 : decode cX9_number 32 = .ok (.iload_n 1, 1) := by decide +kernel
theorem dX9_number_33 : decode cX9_number 33 = .ok (.i2l, 1) := by decide +kernel
theorem dX9_number_34 : decode cX9_number 34 = .ok (.iload_n 2, 1) := by decide +kernel
theorem dX9_number_35 : decode cX9_number 35 = .ok (.i2l, 1) := by decide +kernel
theorem dX9_number_36 : decode cX9_number 36 = .ok (.invokestatic 85, 3) := by decide +kernel
theorem dX9_number_39 : decode cX9_number 39 = .ok (.ifCond .ne 8, 3) := by decide +kernel
theorem dX9_number_42 : decode cX9_number 42 = .ok (.aload_n 0, 1) := by decide +kernel
theorem dX9_number_43 : decode cX9_number 43 = .ok (.iconst 2, 1) := by decide +kernel
theorem dX9_number_44 : decode cX9_number 44 = .ok (.invokevirtual 162, 3) := by decide +kernel
theorem dX9_number_47 : decode cX9_number 47 = .ok (.aload_n 0, 1) := by decide +kernel
theorem dX9_number_48 : decode cX9_number 48 = .ok (.invokevirtual 140, 3) := by decide +kernel
theorem dX9_number_51 : decode cX9_number 51 = .ok (.ifCond .ne 5, 3) := by decide +kernel
theorem dX9_number_54 : decode cX9_number 54 = .ok (.iconst 0, 1) := by decide +kernel
theorem dX9_number_55 : decode cX9_number 55 = .ok (.ireturn, 1) := by decide +kernel
theorem dX9_number_56 : decode cX9_number 56 = .ok (.aload_n 0, 1) := by decide +kernel
theorem dX9_number_57 : decode cX9_number 57 = .ok (.getfield 127, 3) := by decide +kernel
theorem dX9_number_60 : decode cX9_number 60 = .ok (.istore_n 3, 1) := by decide +kernel
theorem dX9_number_61 : decode cX9_number 61 = .ok (.aload_n 0, 1) := by decide +kernel
theorem dX9_number_62 : decode cX9_number 62 = .ok (.invokevirtual 156, 3) := by decide +kernel
theorem dX9_number_65 : decode cX9_number 65 = .ok (.iload_n 3, 1) := by decide +kernel
theorem dX9_number_66 : decode cX9_number 66 = .ok (.ireturn, 1) := by decide +kernel
theorem dX9_numberAt_0 : decode cX9_numberAt 0 = .ok (.aload_n 0, 1) := by decide +kernel
theorem dX9_numberAt_1 : decode cX9_numberAt 1 = .ok (.getfield 73, 3) := by decide +kernel
theorem dX9_numberAt_4 : decode cX9_numberAt 4 = .ok (.bipush 60, 2) := by decide +kernel
theorem dX9_numberAt_6 : decode cX9_numberAt 6 = .ok (.iload_n 1, 1) := by decide +kernel
theorem dX9_numberAt_7 : decode cX9_numberAt 7 = .ok (.imul, 1) := by decide +kernel
theorem dX9_numberAt_8 : decode cX9_numberAt 8 = .ok (.iload_n 2, 1) := by decide +kernel
theorem dX9_numberAt_9 : decode cX9_numberAt 9 = .ok (.iadd, 1) := by decide +kernel
theorem dX9_numberAt_10 : decode cX9_numberAt 10 = .ok (.laload, 1) := by decide +kernel
theorem dX9_numberAt_11 : decode cX9_numberAt 11 = .ok (.lreturn, 1) := by decide +kernel
theorem dX9_odd_0 : decode cX9_odd 0 = .ok (.aload_n 0, 1) := by decide +kernel
theorem dX9_odd_1 : decode cX9_odd 1 = .ok (.iload_n 1, 1) := by decide +kernel
theorem dX9_odd_2 : decode cX9_odd 2 = .ok (.invokevirtual 272, 3) := by decide +kernel
theorem dX9_odd_5 : decode cX9_odd 5 = .ok (.ifCond .ne 6, 3) := by decide +kernel
theorem dX9_odd_8 : decode cX9_odd 8 = .ok (.bipush (-2), 2) := by decide +kernel
theorem dX9_odd_10 : decode cX9_odd 10 = .ok (.ireturn, 1) := by decide +kernel
theorem dX9_odd_11 : decode cX9_odd 11 = .ok (.iconst 0, 1) := by decide +kernel
theorem dX9_odd_12 : decode cX9_odd 12 = .ok (.istore_n 2, 1) := by decide +kernel
theorem dX9_odd_13 : decode cX9_odd 13 = .ok (.iconst 0, 1) := by decide +kernel
theorem dX9_odd_14 : decode cX9_odd 14 = .ok (.istore_n 3, 1) := by decide +kernel
theorem dX9_odd_15 : decode cX9_odd 15 = .ok (.iload_n 3, 1) := by decide +kernel
theorem dX9_odd_16 : decode cX9_odd 16 = .ok (.aload_n 0, 1) := by decide +kernel
theorem dX9_odd_17 : decode cX9_odd 17 = .ok (.iload_n 1, 1) := by decide +kernel
theorem dX9_odd_18 : decode cX9_odd 18 = .ok (.invokevirtual 207, 3) := by decide +kernel
theorem dX9_odd_21 : decode cX9_odd 21 = .ok (.if_icmp .ge 20, 3) := by decide +kernel
theorem dX9_odd_24 : decode cX9_odd 24 = .ok (.iload_n 2, 1) := by decide +kernel
theorem dX9_odd_25 : decode cX9_odd 25 = .ok (.aload_n 0, 1) := by decide +kernel
theorem dX9_odd_26 : decode cX9_odd 26 = .ok (.iload_n 1, 1) := by decide +kernel
theorem dX9_odd_27 : decode cX9_odd 27 = .ok (.iload_n 3, 1) := by decide +kernel
theorem dX9_odd_28 : decode cX9_odd 28 = .ok (.invokevirtual 210, 3) := by decide +kernel
theorem dX9_odd_31 : decode cX9_odd 31 = .ok (.iconst 2, 1) := by decide +kernel
theorem dX9_odd_32 : decode cX9_odd 32 = .ok (.irem, 1) := by decide +kernel
theorem dX9_odd_33 : decode cX9_odd 33 = .ok (.iadd, 1) := by decide +kernel
theorem dX9_odd_34 : decode cX9_odd 34 = .ok (.istore_n 2, 1) := by decide +kernel
theorem dX9_odd_35 : decode cX9_odd 35 = .ok (.iinc 3 1, 3) := by decide +kernel
theorem dX9_odd_38 : decode cX9_odd 38 = .ok (.goto (-23), 3) := by decide +kernel
theorem dX9_odd_41 : decode cX9_odd 41 = .ok (.iload_n 2, 1) := by decide +kernel
theorem dX9_odd_42 : decode cX9_odd 42 = .ok (.ireturn, 1) := by decide +kernel
theorem dX9_offHeap_0 : decode cX9_offHeap 0 = .ok (.aload_n 0, 1) := by decide +kernel
theorem dX9_offHeap_1 : decode cX9_offHeap 1 = .ok (.iload_n 1, 1) := by decide +kernel
theorem dX9_offHeap_2 : decode cX9_offHeap 2 = .ok (.iload_n 2, 1) := by decide +kernel
theorem dX9_offHeap_3 : decode cX9_offHeap 3 = .ok (.invokevirtual 210, 3) := by decide +kernel
theorem dX9_offHeap_6 : decode cX9_offHeap 6 = .ok (.istore_n 3, 1) := by decide +kernel
theorem dX9_offHeap_7 : decode cX9_offHeap 7 = .ok (.aload_n 0, 1) := by decide +kernel
theorem dX9_offHeap_8 : decode cX9_offHeap 8 = .ok (.getfield 213, 3) := by decide +kernel
theorem dX9_offHeap_11 : decode cX9_offHeap 11 = .ok (.iconst 1, 1) := by decide +kernel
theorem dX9_offHeap_12 : decode cX9_offHeap 12 = .ok (.if_icmp .ne 7, 3) := by decide +kernel
theorem dX9_offHeap_15 : decode cX9_offHeap 15 = .ok (.iload_n 2, 1) := by decide +kernel
theorem dX9_offHeap_16 : decode cX9_offHeap 16 = .ok (.ifCond .eq 16, 3) := by decide +kernel
theorem dX9_offHeap_19 : decode cX9_offHeap 19 = .ok (.aload_n 0, 1) := by decide +kernel
theorem dX9_offHeap_20 : decode cX9_offHeap 20 = .ok (.getfield 213, 3) := by decide +kernel
theorem dX9_offHeap_23 : decode cX9_offHeap 23 = .ok (.iconst 2, 1) := by decide +kernel
theorem dX9_offHeap_24 : decode cX9_offHeap 24 = .ok (.if_icmp .ne 10, 3) := by decide +kernel
theorem dX9_offHeap_27 : decode cX9_offHeap 27 = .ok (.iload_n 3, 1) := by decide +kernel
theorem dX9_offHeap_28 : decode cX9_offHeap 28 = .ok (.iconst 1, 1) := by decide +kernel
theorem dX9_offHeap_29 : decode cX9_offHeap 29 = .ok (.if_icmp .ne 5, 3) := by decide +kernel
theorem dX9_offHeap_32 : decode cX9_offHeap 32 = .ok (.iconst 0, 1) := by decide +kernel
theorem dX9_offHeap_33 : decode cX9_offHeap 33 = .ok (.ireturn, 1) := by decide +kernel
theorem dX9_offHeap_34 : decode cX9_offHeap 34 = .ok (.aload_n 0, 1) := by decide +kernel
theorem dX9_offHeap_35 : decode cX9_offHeap 35 = .ok (.getfield 213, 3) := by decide +kernel
theorem dX9_offHeap_38 : decode cX9_offHeap 38 = .ok (.iconst 3, 1) := by decide +kernel
theorem dX9_offHeap_39 : decode cX9_offHeap 39 = .ok (.if_icmp .ne 12, 3) := by decide +kernel
theorem dX9_offHeap_42 : decode cX9_offHeap 42 = .ok (.iload_n 3, 1) := by decide +kernel
theorem dX9_offHeap_43 : decode cX9_offHeap 43 = .ok (.iconst 1, 1) := by decide +kernel
theorem dX9_offHeap_44 : decode cX9_offHeap 44 = .ok (.if_icmp .le 7, 3) := by decide +kernel
theorem dX9_offHeap_47 : decode cX9_offHeap 47 = .ok (.iconst 2, 1) := by decide +kernel
theorem dX9_offHeap_48 : decode cX9_offHeap 48 = .ok (.goto 4, 3) := by decide +kernel
theorem dX9_offHeap_51 : decode cX9_offHeap 51 = .ok (.iconst 1, 1) := by decide +kernel
theorem dX9_offHeap_52 : decode cX9_offHeap 52 = .ok (.ireturn, 1) := by decide +kernel
theorem dX9_part_0 : decode cX9_part 0 = .ok (.iload 4, 2) := by decide +kernel
theorem dX9_part_2 : decode cX9_part 2 = .ok (.ifCond .ne 7, 3) := by decide +kernel
theorem dX9_part_5 : decode cX9_part 5 = .ok (.lload_n 0, 1) := by decide +kernel
theorem dX9_part_6 : decode cX9_part 6 = .ok (.goto 4, 3) := by decide +kernel
theorem dX9_part_9 : decode cX9_part 9 = .ok (.lload_n 2, 1) := by decide +kernel
theorem dX9_part_10 : decode cX9_part 10 = .ok (.lload_n 0, 1) := by decide +kernel
theorem dX9_part_11 : decode cX9_part 11 = .ok (.lload_n 2, 1) := by decide +kernel
theorem dX9_part_12 : decode cX9_part 12 = .ok (.invokestatic 402, 3) := by decide +kernel
theorem dX9_part_15 : decode cX9_part 15 = .ok (.ldiv, 1) := by decide +kernel
theorem dX9_part_16 : decode cX9_part 16 = .ok (.lreturn, 1) := by decide +kernel
theorem dX9_paste_0 : decode cX9_paste 0 = .ok (.iload_n 1, 1) := by decide +kernel
theorem dX9_paste_1 : decode cX9_paste 1 = .ok (.invokestatic 348, 3) := by decide +kernel
theorem dX9_paste_4 : decode cX9_paste 4 = .ok (.ifCond .eq 10, 3) := by decide +kernel
theorem dX9_paste_7 : decode cX9_paste 7 = .ok (.iload_n 3, 1) := by decide +kernel
theorem dX9_paste_8 : decode cX9_paste 8 = .ok (.invokestatic 348, 3) := by decide +kernel
theorem dX9_paste_11 : decode cX9_paste 11 = .ok (.ifCond .ne 6, 3) := by decide +kernel
theorem dX9_paste_14 : decode cX9_paste 14 = .ok (.bipush (-2), 2) := by decide +kernel
theorem dX9_paste_16 : decode cX9_paste 16 = .ok (.ireturn, 1) := by decide +kernel
theorem dX9_paste_17 : decode cX9_paste 17 = .ok (.aload_n 0, 1) := by decide +kernel
theorem dX9_paste_18 : decode cX9_paste 18 = .ok (.getfield 67, 3) := by decide +kernel
theorem dX9_paste_21 : decode cX9_paste 21 = .ok (.iload_n 1, 1) := by decide +kernel
theorem dX9_paste_22 : decode cX9_paste 22 = .ok (.iaload, 1) := by decide +kernel
theorem dX9_paste_23 : decode cX9_paste 23 = .ok (.iconst (-1), 1) := by decide +kernel
theorem dX9_paste_24 : decode cX9_paste 24 = .ok (.if_icmp .eq 13, 3) := by decide +kernel
theorem dX9_paste_27 : decode cX9_paste 27 = .ok (.aload_n 0, 1) := by decide +kernel
theorem dX9_paste_28 : decode cX9_paste 28 = .ok (.getfield 67, 3) := by decide +kernel
theorem dX9_paste_31 : decode cX9_paste 31 = .ok (.iload_n 3, 1) := by decide +kernel
theorem dX9_paste_32 : decode cX9_paste 32 = .ok (.iaload, 1) := by decide +kernel
theorem dX9_paste_33 : decode cX9_paste 33 = .ok (.iconst (-1), 1) := by decide +kernel
theorem dX9_paste_34 : decode cX9_paste 34 = .ok (.if_icmp .ne 6, 3) := by decide +kernel
theorem dX9_paste_37 : decode cX9_paste 37 = .ok (.bipush (-6), 2) := by decide +kernel
theorem dX9_paste_39 : decode cX9_paste 39 = .ok (.ireturn, 1) := by decide +kernel
theorem dX9_paste_40 : decode cX9_paste 40 = .ok (.aload_n 0, 1) := by decide +kernel
theorem dX9_paste_41 : decode cX9_paste 41 = .ok (.getfield 70, 3) := by decide +kernel
theorem dX9_paste_44 : decode cX9_paste 44 = .ok (.iload_n 1, 1) := by decide +kernel
theorem dX9_paste_45 : decode cX9_paste 45 = .ok (.iaload, 1) := by decide +kernel
theorem dX9_paste_46 : decode cX9_paste 46 = .ok (.aload_n 0, 1) := by decide +kernel
theorem dX9_paste_47 : decode cX9_paste 47 = .ok (.getfield 70, 3) := by decide +kernel
theorem dX9_paste_50 : decode cX9_paste 50 = .ok (.iload_n 3, 1) := by decide +kernel
theorem dX9_paste_51 : decode cX9_paste 51 = .ok (.iaload, 1) := by decide +kernel
theorem dX9_paste_52 : decode cX9_paste 52 = .ok (.if_icmp .eq 6, 3) := by decide +kernel
theorem dX9_paste_55 : decode cX9_paste 55 = .ok (.bipush (-8), 2) := by decide +kernel
theorem dX9_paste_57 : decode cX9_paste 57 = .ok (.ireturn, 1) := by decide +kernel
theorem dX9_paste_58 : decode cX9_paste 58 = .ok (.iload_n 2, 1) := by decide +kernel
theorem dX9_paste_59 : decode cX9_paste 59 = .ok (.ifCond .lt 48, 3) := by decide +kernel
theorem dX9_paste_62 : decode cX9_paste 62 = .ok (.iload 4, 2) := by decide +kernel
theorem dX9_paste_64 : decode cX9_paste 64 = .ok (.ifCond .lt 43, 3) := by decide +kernel
theorem dX9_paste_67 : decode cX9_paste 67 = .ok (.iload 5, 2) := by decide +kernel
theorem dX9_paste_69 : decode cX9_paste 69 = .ok (.ifCond .lt 38, 3) := by decide +kernel
theorem dX9_paste_72 : decode cX9_paste 72 = .ok (.iload_n 2, 1) := by decide +kernel
theorem dX9_paste_73 : decode cX9_paste 73 = .ok (.i2l, 1) := by decide +kernel
theorem dX9_paste_74 : decode cX9_paste 74 = .ok (.iload 5, 2) := by decide +kernel
theorem dX9_paste_76 : decode cX9_paste 76 = .ok (.i2l, 1) := by decide +kernel
theorem dX9_paste_77 : decode cX9_paste 77 = .ok (.ladd, 1) := by decide +kernel
theorem dX9_paste_78 : decode cX9_paste 78 = .ok (.aload_n 0, 1) := by decide +kernel
theorem dX9_paste_79 : decode cX9_paste 79 = .ok (.getfield 67, 3) := by decide +kernel
theorem dX9_paste_82 : decode cX9_paste 82 = .ok (.iload_n 1, 1) := by decide +kernel
theorem dX9_paste_83 : decode cX9_paste 83 = .ok (.iaload, 1) := by decide +kernel
theorem dX9_paste_84 : decode cX9_paste 84 = .ok (.i2l, 1) := by decide +kernel
theorem dX9_paste_85 : decode cX9_paste 85 = .ok (.lcmp, 1) := by decide +kernel
theorem dX9_paste_86 : decode cX9_paste 86 = .ok (.ifCond .gt 21, 3) := by decide +kernel
theorem dX9_paste_89 : decode cX9_paste 89 = .ok (.iload 4, 2) := by decide +kernel
theorem dX9_paste_91 : decode cX9_paste 91 = .ok (.i2l, 1) := by decide +kernel
theorem dX9_paste_92 : decode cX9_paste 92 = .ok (.iload 5, 2) := by decide +kernel
theorem dX9_paste_94 : decode cX9_paste 94 = .ok (.i2l, 1) := by decide +kernel
theorem dX9_paste_95 : decode cX9_paste 95 = .ok (.ladd, 1) := by decide +kernel
theorem dX9_paste_96 : decode cX9_paste 96 = .ok (.aload_n 0, 1) := by decide +kernel
theorem dX9_paste_97 : decode cX9_paste 97 = .ok (.getfield 67, 3) := by decide +kernel
theorem dX9_paste_100 : decode cX9_paste 100 = .ok (.iload_n 3, 1) := by decide +kernel
theorem dX9_paste_101 : decode cX9_paste 101 = .ok (.iaload, 1) := by decide +kernel
theorem dX9_paste_102 : decode cX9_paste 102 = .ok (.i2l, 1) := by decide +kernel
theorem dX9_paste_103 : decode cX9_paste 103 = .ok (.lcmp, 1) := by decide +kernel
theorem dX9_paste_104 : decode cX9_paste 104 = .ok (.ifCond .le 6, 3) := by decide +kernel
theorem dX9_paste_107 : decode cX9_paste 107 = .ok (.bipush (-7), 2) := by decide +kernel
theorem dX9_paste_109 : decode cX9_paste 109 = .ok (.ireturn, 1) := by decide +kernel
theorem dX9_paste_110 : decode cX9_paste 110 = .ok (.iconst 0, 1) := by decide +kernel
theorem dX9_paste_111 : decode cX9_paste 111 = .ok (.istore 6, 2) := by decide +kernel
theorem dX9_paste_113 : decode cX9_paste 113 = .ok (.iload 6, 2) := by decide +kernel
theorem dX9_paste_115 : decode cX9_paste 115 = .ok (.iload 5, 2) := by decide +kernel
theorem dX9_paste_117 : decode cX9_paste 117 = .ok (.if_icmp .ge 30, 3) := by decide +kernel
theorem dX9_paste_120 : decode cX9_paste 120 = .ok (.aload_n 0, 1) := by decide +kernel
theorem dX9_paste_121 : decode cX9_paste 121 = .ok (.getfield 77, 3) := by decide +kernel
theorem dX9_paste_124 : decode cX9_paste 124 = .ok (.iload 6, 2) := by decide +kernel
theorem dX9_paste_126 : decode cX9_paste 126 = .ok (.aload_n 0, 1) := by decide +kernel
theorem dX9_paste_127 : decode cX9_paste 127 = .ok (.getfield 73, 3) := by decide +kernel
theorem dX9_paste_130 : decode cX9_paste 130 = .ok (.bipush 60, 2) := by decide +kernel
theorem dX9_paste_132 : decode cX9_paste 132 = .ok (.iload_n 1, 1) := by decide +kernel
theorem dX9_paste_133 : decode cX9_paste 133 = .ok (.imul, 1) := by decide +kernel
theorem dX9_paste_134 : decode cX9_paste 134 = .ok (.iload_n 2, 1) := by decide +kernel
theorem dX9_paste_135 : decode cX9_paste 135 = .ok (.iadd, 1) := by decide +kernel
theorem dX9_paste_136 : decode cX9_paste 136 = .ok (.iload 6, 2) := by decide +kernel
theorem dX9_paste_138 : decode cX9_paste 138 = .ok (.iadd, 1) := by decide +kernel
theorem dX9_paste_139 : decode cX9_paste 139 = .ok (.laload, 1) := by decide +kernel
theorem dX9_paste_140 : decode cX9_paste 140 = .ok (.lastore, 1) := by decide +kernel
theorem dX9_paste_141 : decode cX9_paste 141 = .ok (.iinc 6 1, 3) := by decide +kernel
theorem dX9_paste_144 : decode cX9_paste 144 = .ok (.goto (-31), 3) := by decide +kernel
theorem dX9_paste_147 : decode cX9_paste 147 = .ok (.iconst 0, 1) := by decide +kernel
theorem dX9_paste_148 : decode cX9_paste 148 = .ok (.istore 6, 2) := by decide +kernel
theorem dX9_paste_150 : decode cX9_paste 150 = .ok (.iload 6, 2) := by decide +kernel
theorem dX9_paste_152 : decode cX9_paste 152 = .ok (.iload 5, 2) := by decide +kernel
theorem dX9_paste_154 : decode cX9_paste 154 = .ok (.if_icmp .ge 31, 3) := by decide +kernel
theorem dX9_paste_157 : decode cX9_paste 157 = .ok (.aload_n 0, 1) := by decide +kernel
theorem dX9_paste_158 : decode cX9_paste 158 = .ok (.getfield 73, 3) := by decide +kernel
theorem dX9_paste_161 : decode cX9_paste 161 = .ok (.bipush 60, 2) := by decide +kernel
theorem dX9_paste_163 : decode cX9_paste 163 = .ok (.iload_n 3, 1) := by decide +kernel
theorem dX9_paste_164 : decode cX9_paste 164 = .ok (.imul, 1) := by decide +kernel
theorem dX9_paste_165 : decode cX9_paste 165 = .ok (.iload 4, 2) := by decide +kernel
theorem dX9_paste_167 : decode cX9_paste 167 = .ok (.iadd, 1) := by decide +kernel
theorem dX9_paste_168 : decode cX9_paste 168 = .ok (.iload 6, 2) := by decide +kernel
theorem dX9_paste_170 : decode cX9_paste 170 = .ok (.iadd, 1) := by decide +kernel
theorem dX9_paste_171 : decode cX9_paste 171 = .ok (.aload_n 0, 1) := by decide +kernel
theorem dX9_paste_172 : decode cX9_paste 172 = .ok (.getfield 77, 3) := by decide +kernel
theorem dX9_paste_175 : decode cX9_paste 175 = .ok (.iload 6, 2) := by decide +kernel
theorem dX9_paste_177 : decode cX9_paste 177 = .ok (.laload, 1) := by decide +kernel
theorem dX9_paste_178 : decode cX9_paste 178 = .ok (.lastore, 1) := by decide +kernel
theorem dX9_paste_179 : decode cX9_paste 179 = .ok (.iinc 6 1, 3) := by decide +kernel
theorem dX9_paste_182 : decode cX9_paste 182 = .ok (.goto (-32), 3) := by decide +kernel
theorem dX9_paste_185 : decode cX9_paste 185 = .ok (.iconst 0, 1) := by decide +kernel
theorem dX9_paste_186 : decode cX9_paste 186 = .ok (.ireturn, 1) := by decide +kernel
theorem dX9_peak_0 : decode cX9_peak 0 = .ok (.aload_n 0, 1) := by decide +kernel
theorem dX9_peak_1 : decode cX9_peak 1 = .ok (.invokevirtual 265, 3) := by decide +kernel
theorem dX9_peak_4 : decode cX9_peak 4 = .ok (.ifCond .ne 6, 3) := by decide +kernel
theorem dX9_peak_7 : decode cX9_peak 7 = .ok (.bipush (-2), 2) := by decide +kernel
theorem dX9_peak_9 : decode cX9_peak 9 = .ok (.ireturn, 1) := by decide +kernel
theorem dX9_peak_10 : decode cX9_peak 10 = .ok (.iconst 0, 1) := by decide +kernel
theorem dX9_peak_11 : decode cX9_peak 11 = .ok (.istore_n 1, 1) := by decide +kernel
theorem dX9_peak_12 : decode cX9_peak 12 = .ok (.iconst 1, 1) := by decide +kernel
theorem dX9_peak_13 : decode cX9_peak 13 = .ok (.istore_n 2, 1) := by decide +kernel
theorem dX9_peak_14 : decode cX9_peak 14 = .ok (.iload_n 2, 1) := by decide +kernel
theorem dX9_peak_15 : decode cX9_peak 15 = .ok (.aload_n 0, 1) := by decide +kernel
theorem dX9_peak_16 : decode cX9_peak 16 = .ok (.invokevirtual 93, 3) := by decide +kernel
theorem dX9_peak_19 : decode cX9_peak 19 = .ok (.if_icmp .gt 28, 3) := by decide +kernel
theorem dX9_peak_22 : decode cX9_peak 22 = .ok (.aload_n 0, 1) := by decide +kernel
theorem dX9_peak_23 : decode cX9_peak 23 = .ok (.iload_n 2, 1) := by decide +kernel
theorem dX9_peak_24 : decode cX9_peak 24 = .ok (.invokevirtual 286, 3) := by decide +kernel
theorem dX9_peak_27 : decode cX9_peak 27 = .ok (.aload_n 0, 1) := by decide +kernel
theorem dX9_peak_28 : decode cX9_peak 28 = .ok (.iload_n 1, 1) := by decide +kernel
theorem dX9_peak_29 : decode cX9_peak 29 = .ok (.invokevirtual 286, 3) := by decide +kernel
theorem dX9_peak_32 : decode cX9_peak 32 = .ok (.if_icmp .le 7, 3) := by decide +kernel
theorem dX9_peak_35 : decode cX9_peak 35 = .ok (.iload_n 2, 1) := by decide +kernel
theorem dX9_peak_36 : decode cX9_peak 36 = .ok (.goto 4, 3) := by decide +kernel
theorem dX9_peak_39 : decode cX9_peak 39 = .ok (.iload_n 1, 1) := by decide +kernel
theorem dX9_peak_40 : decode cX9_peak 40 = .ok (.istore_n 1, 1) := by decide +kernel
theorem dX9_peak_41 : decode cX9_peak 41 = .ok (.iinc 2 1, 3) := by decide +kernel
theorem dX9_peak_44 : decode cX9_peak 44 = .ok (.goto (-30), 3) := by decide +kernel
theorem dX9_peak_47 : decode cX9_peak 47 = .ok (.iload_n 1, 1) := by decide +kernel
theorem dX9_peak_48 : decode cX9_peak 48 = .ok (.ireturn, 1) := by decide +kernel
theorem dX9_rate_0 : decode cX9_rate 0 = .ok (.aload_n 0, 1) := by decide +kernel
theorem dX9_rate_1 : decode cX9_rate 1 = .ok (.iload_n 1, 1) := by decide +kernel
theorem dX9_rate_2 : decode cX9_rate 2 = .ok (.invokevirtual 200, 3) := by decide +kernel
theorem dX9_rate_5 : decode cX9_rate 5 = .ok (.ifCond .eq 15, 3) := by decide +kernel
theorem dX9_rate_8 : decode cX9_rate 8 = .ok (.iload_n 2, 1) := by decide +kernel
theorem dX9_rate_9 : decode cX9_rate 9 = .ok (.i2l, 1) := by decide +kernel
theorem dX9_rate_10 : decode cX9_rate 10 = .ok (.lconst 1, 1) := by decide +kernel
theorem dX9_rate_11 : decode cX9_rate 11 = .ok (.ldc2_w 454, 3) := by decide +kernel
theorem dX9_rate_14 : decode cX9_rate 14 = .ok (.invokestatic 85, 3) := by decide +kernel
theorem dX9_rate_17 : decode cX9_rate 17 = .ok (.ifCond .ne 6, 3) := by decide +kernel
theorem dX9_rate_20 : decode cX9_rate 20 = .ok (.bipush (-2), 2) := by decide +kernel
theorem dX9_rate_22 : decode cX9_rate 22 = .ok (.ireturn, 1) := by decide +kernel
theorem dX9_rate_23 : decode cX9_rate 23 = .ok (.aload_n 0, 1) := by decide +kernel
theorem dX9_rate_24 : decode cX9_rate 24 = .ok (.getfield 9, 3) := by decide +kernel
theorem dX9_rate_27 : decode cX9_rate 27 = .ok (.iconst 5, 1) := by decide +kernel
theorem dX9_rate_28 : decode cX9_rate 28 = .ok (.iaload, 1) := by decide +kernel
theorem dX9_rate_29 : decode cX9_rate 29 = .ok (.ifCond .le 6, 3) := by decide +kernel
theorem dX9_rate_32 : decode cX9_rate 32 = .ok (.bipush (-5), 2) := by decide +kernel
theorem dX9_rate_34 : decode cX9_rate 34 = .ok (.ireturn, 1) := by decide +kernel
theorem dX9_rate_35 : decode cX9_rate 35 = .ok (.aload_n 0, 1) := by decide +kernel
theorem dX9_rate_36 : decode cX9_rate 36 = .ok (.getfield 9, 3) := by decide +kernel
theorem dX9_rate_39 : decode cX9_rate 39 = .ok (.bipush 7, 2) := by decide +kernel
theorem dX9_rate_41 : decode cX9_rate 41 = .ok (.iload_n 1, 1) := by decide +kernel
theorem dX9_rate_42 : decode cX9_rate 42 = .ok (.iadd, 1) := by decide +kernel
theorem dX9_rate_43 : decode cX9_rate 43 = .ok (.iaload, 1) := by decide +kernel
theorem dX9_rate_44 : decode cX9_rate 44 = .ok (.istore_n 3, 1) := by decide +kernel
theorem dX9_rate_45 : decode cX9_rate 45 = .ok (.aload_n 0, 1) := by decide +kernel
theorem dX9_rate_46 : decode cX9_rate 46 = .ok (.getfield 9, 3) := by decide +kernel
theorem dX9_rate_49 : decode cX9_rate 49 = .ok (.bipush 7, 2) := by decide +kernel
theorem dX9_rate_51 : decode cX9_rate 51 = .ok (.iload_n 1, 1) := by decide +kernel
theorem dX9_rate_52 : decode cX9_rate 52 = .ok (.iadd, 1) := by decide +kernel
theorem dX9_rate_53 : decode cX9_rate 53 = .ok (.iload_n 2, 1) := by decide +kernel
theorem dX9_rate_54 : decode cX9_rate 54 = .ok (.iastore, 1) := by decide +kernel
theorem dX9_rate_55 : decode cX9_rate 55 = .ok (.iload_n 3, 1) := by decide +kernel
theorem dX9_rate_56 : decode cX9_rate 56 = .ok (.ireturn, 1) := by decide +kernel
theorem dX9_readFirst_0 : decode cX9_readFirst 0 = .ok (.aload_n 0, 1) := by decide +kernel
theorem dX9_readFirst_1 : decode cX9_readFirst 1 = .ok (.ldc 173, 2) := by decide +kernel
theorem dX9_readFirst_3 : decode cX9_readFirst 3 = .ok (.invokevirtual 166, 3) := by decide +kernel
theorem dX9_readFirst_6 : decode cX9_readFirst 6 = .ok (.aload_n 0, 1) := by decide +kernel
theorem dX9_readFirst_7 : decode cX9_readFirst 7 = .ok (.getfield 31, 3) := by decide +kernel
theorem dX9_readFirst_10 : decode cX9_readFirst 10 = .ok (.iconst 0, 1) := by decide +kernel
theorem dX9_readFirst_11 : decode cX9_readFirst 11 = .ok (.aload_n 0, 1) := by decide +kernel
theorem dX9_readFirst_12 : decode cX9_readFirst 12 = .ok (.ldc 175, 2) := by decide +kernel
theorem dX9_readFirst_14 : decode cX9_readFirst 14 = .ok (.iconst 1, 1) := by decide +kernel
theorem dX9_readFirst_15 : decode cX9_readFirst 15 = .ok (.bipush 16, 2) := by decide +kernel
theorem dX9_readFirst_17 : decode cX9_readFirst 17 = .ok (.invokevirtual 176, 3) := by decide +kernel
theorem dX9_readFirst_20 : decode cX9_readFirst 20 = .ok (.iastore, 1) := by decide +kernel
theorem dX9_readFirst_21 : decode cX9_readFirst 21 = .ok (.aload_n 0, 1) := by decide +kernel
theorem dX9_readFirst_22 : decode cX9_readFirst 22 = .ok (.getfield 31, 3) := by decide +kernel
theorem dX9_readFirst_25 : decode cX9_readFirst 25 = .ok (.iconst 1, 1) := by decide +kernel
theorem dX9_readFirst_26 : decode cX9_readFirst 26 = .ok (.aload_n 0, 1) := by decide +kernel
theorem dX9_readFirst_27 : decode cX9_readFirst 27 = .ok (.ldc 180, 2) := by decide +kernel
theorem dX9_readFirst_29 : decode cX9_readFirst 29 = .ok (.iconst 0, 1) := by decide +kernel
theorem dX9_readFirst_30 : decode cX9_readFirst 30 = .ok (.iconst 3, 1) := by decide +kernel
theorem dX9_readFirst_31 : decode cX9_readFirst 31 = .ok (.invokevirtual 176, 3) := by decide +kernel
theorem dX9_readFirst_34 : decode cX9_readFirst 34 = .ok (.iastore, 1) := by decide +kernel
theorem dX9_readFirst_35 : decode cX9_readFirst 35 = .ok (.aload_n 0, 1) := by decide +kernel
theorem dX9_readFirst_36 : decode cX9_readFirst 36 = .ok (.getfield 31, 3) := by decide +kernel
theorem dX9_readFirst_39 : decode cX9_readFirst 39 = .ok (.iconst 2, 1) := by decide +kernel
theorem dX9_readFirst_40 : decode cX9_readFirst 40 = .ok (.aload_n 0, 1) := by decide +kernel
theorem dX9_readFirst_41 : decode cX9_readFirst 41 = .ok (.ldc 182, 2) := by decide +kernel
theorem dX9_readFirst_43 : decode cX9_readFirst 43 = .ok (.iconst 0, 1) := by decide +kernel
theorem dX9_readFirst_44 : decode cX9_readFirst 44 = .ok (.bipush 10, 2) := by decide +kernel
theorem dX9_readFirst_46 : decode cX9_readFirst 46 = .ok (.invokevirtual 176, 3) := by decide +kernel
theorem dX9_readFirst_49 : decode cX9_readFirst 49 = .ok (.iastore, 1) := by decide +kernel
theorem dX9_readFirst_50 : decode cX9_readFirst 50 = .ok (.return_, 1) := by decide +kernel
theorem dX9_readLine_0 : decode cX9_readLine 0 = .ok (.aload_n 0, 1) := by decide +kernel
theorem dX9_readLine_1 : decode cX9_readLine 1 = .ok (.getfield 31, 3) := by decide +kernel
theorem dX9_readLine_4 : decode cX9_readLine 4 = .ok (.bipush 6, 2) := by decide +kernel
theorem dX9_readLine_6 : decode cX9_readLine 6 = .ok (.iaload, 1) := by decide +kernel
theorem dX9_readLine_7 : decode cX9_readLine 7 = .ok (.ifCond .ne 10, 3) := by decide +kernel
theorem dX9_readLine_10 : decode cX9_readLine 10 = .ok (.aload_n 0, 1) := by decide +kernel
theorem dX9_readLine_11 : decode cX9_readLine 11 = .ok (.invokevirtual 191, 3) := by decide +kernel
theorem dX9_readLine_14 : decode cX9_readLine 14 = .ok (.goto 7, 3) := by decide +kernel
theorem dX9_readLine_17 : decode cX9_readLine 17 = .ok (.aload_n 0, 1) := by decide +kernel
theorem dX9_readLine_18 : decode cX9_readLine 18 = .ok (.invokevirtual 194, 3) := by decide +kernel
theorem dX9_readLine_21 : decode cX9_readLine 21 = .ok (.aload_n 0, 1) := by decide +kernel
theorem dX9_readLine_22 : decode cX9_readLine 22 = .ok (.invokevirtual 140, 3) := by decide +kernel
theorem dX9_readLine_25 : decode cX9_readLine 25 = .ok (.ifCond .eq 16, 3) := by decide +kernel
theorem dX9_readLine_28 : decode cX9_readLine 28 = .ok (.aload_n 0, 1) := by decide +kernel
theorem dX9_readLine_29 : decode cX9_readLine 29 = .ok (.getfield 116, 3) := by decide +kernel
theorem dX9_readLine_32 : decode cX9_readLine 32 = .ok (.iconst 3, 1) := by decide +kernel
theorem dX9_readLine_33 : decode cX9_readLine 33 = .ok (.if_icmp .eq 8, 3) := by decide +kernel
theorem dX9_readLine_36 : decode cX9_readLine 36 = .ok (.aload_n 0, 1) := by decide +kernel
theorem dX9_readLine_37 : decode cX9_readLine 37 = .ok (.iconst 1, 1) := by decide +kernel
theorem dX9_readLine_38 : decode cX9_readLine 38 = .ok (.invokevirtual 162, 3) := by decide +kernel
theorem dX9_readLine_41 : decode cX9_readLine 41 = .ok (.aload_n 0, 1) := by decide +kernel
theorem dX9_readLine_42 : decode cX9_readLine 42 = .ok (.invokevirtual 140, 3) := by decide +kernel
theorem dX9_readLine_45 : decode cX9_readLine 45 = .ok (.ifCond .eq 7, 3) := by decide +kernel
theorem dX9_readLine_48 : decode cX9_readLine 48 = .ok (.aload_n 0, 1) := by decide +kernel
theorem dX9_readLine_49 : decode cX9_readLine 49 = .ok (.invokevirtual 156, 3) := by decide +kernel
theorem dX9_readLine_52 : decode cX9_readLine 52 = .ok (.aload_n 0, 1) := by decide +kernel
theorem dX9_readLine_53 : decode cX9_readLine 53 = .ok (.getfield 31, 3) := by decide +kernel
theorem dX9_readLine_56 : decode cX9_readLine 56 = .ok (.bipush 6, 2) := by decide +kernel
theorem dX9_readLine_58 : decode cX9_readLine 58 = .ok (.dup2, 1) := by decide +kernel
theorem dX9_readLine_59 : decode cX9_readLine 59 = .ok (.iaload, 1) := by decide +kernel
theorem dX9_readLine_60 : decode cX9_readLine 60 = .ok (.iconst 1, 1) := by decide +kernel
theorem dX9_readLine_61 : decode cX9_readLine 61 = .ok (.iadd, 1) := by decide +kernel
theorem dX9_readLine_62 : decode cX9_readLine 62 = .ok (.iastore, 1) := by decide +kernel
theorem dX9_readLine_63 : decode cX9_readLine 63 = .ok (.return_, 1) := by decide +kernel
theorem dX9_readNext_0 : decode cX9_readNext 0 = .ok (.aload_n 0, 1) := by decide +kernel
theorem dX9_readNext_1 : decode cX9_readNext 1 = .ok (.ldc 184, 2) := by decide +kernel
theorem dX9_readNext_3 : decode cX9_readNext 3 = .ok (.invokevirtual 152, 3) := by decide +kernel
theorem dX9_readNext_6 : decode cX9_readNext 6 = .ok (.ifCond .ne 17, 3) := by decide +kernel
theorem dX9_readNext_9 : decode cX9_readNext 9 = .ok (.aload_n 0, 1) := by decide +kernel
theorem dX9_readNext_10 : decode cX9_readNext 10 = .ok (.ldc 186, 2) := by decide +kernel
theorem dX9_readNext_12 : decode cX9_readNext 12 = .ok (.invokevirtual 152, 3) := by decide +kernel
theorem dX9_readNext_15 : decode cX9_readNext 15 = .ok (.ifCond .ne 8, 3) := by decide +kernel
theorem dX9_readNext_18 : decode cX9_readNext 18 = .ok (.aload_n 0, 1) := by decide +kernel
theorem dX9_readNext_19 : decode cX9_readNext 19 = .ok (.iconst 1, 1) := by decide +kernel
theorem dX9_readNext_20 : decode cX9_readNext 20 = .ok (.invokevirtual 162, 3) := by decide +kernel
theorem dX9_readNext_23 : decode cX9_readNext 23 = .ok (.aload_n 0, 1) := by decide +kernel
theorem dX9_readNext_24 : decode cX9_readNext 24 = .ok (.ldc 184, 2) := by decide +kernel
theorem dX9_readNext_26 : decode cX9_readNext 26 = .ok (.invokevirtual 152, 3) := by decide +kernel
theorem dX9_readNext_29 : decode cX9_readNext 29 = .ok (.ifCond .eq 14, 3) := by decide +kernel
theorem dX9_readNext_32 : decode cX9_readNext 32 = .ok (.aload_n 0, 1) := by decide +kernel
theorem dX9_readNext_33 : decode cX9_readNext 33 = .ok (.getfield 31, 3) := by decide +kernel
theorem dX9_readNext_36 : decode cX9_readNext 36 = .ok (.iconst 3, 1) := by decide +kernel
theorem dX9_readNext_37 : decode cX9_readNext 37 = .ok (.iaload, 1) := by decide +kernel
theorem dX9_readNext_38 : decode cX9_readNext 38 = .ok (.bipush 8, 2) := by decide +kernel
theorem dX9_readNext_40 : decode cX9_readNext 40 = .ok (.if_icmp .eq 23, 3) := by decide +kernel
theorem dX9_readNext_43 : decode cX9_readNext 43 = .ok (.aload_n 0, 1) := by decide +kernel
theorem dX9_readNext_44 : decode cX9_readNext 44 = .ok (.ldc 186, 2) := by decide +kernel
theorem dX9_readNext_46 : decode cX9_readNext 46 = .ok (.invokevirtual 152, 3) := by decide +kernel
theorem dX9_readNext_49 : decode cX9_readNext 49 = .ok (.ifCond .eq 19, 3) := by decide +kernel
theorem dX9_readNext_52 : decode cX9_readNext 52 = .ok (.aload_n 0, 1) := by decide +kernel
theorem dX9_readNext_53 : decode cX9_readNext 53 = .ok (.getfield 31, 3) := by decide +kernel
theorem dX9_readNext_56 : decode cX9_readNext 56 = .ok (.iconst 4, 1) := by decide +kernel
theorem dX9_readNext_57 : decode cX9_readNext 57 = .ok (.iaload, 1) := by decide +kernel
theorem dX9_readNext_58 : decode cX9_readNext 58 = .ok (.bipush 6, 2) := by decide +kernel
theorem dX9_readNext_60 : decode cX9_readNext 60 = .ok (.if_icmp .ne 8, 3) := by decide +kernel
theorem dX9_readNext_63 : decode cX9_readNext 63 = .ok (.aload_n 0, 1) := by decide +kernel
theorem dX9_readNext_64 : decode cX9_readNext 64 = .ok (.iconst 3, 1) := by decide +kernel
theorem dX9_readNext_65 : decode cX9_readNext 65 = .ok (.invokevirtual 162, 3) := by decide +kernel
theorem dX9_readNext_68 : decode cX9_readNext 68 = .ok (.aload_n 0, 1) := by decide +kernel
theorem dX9_readNext_69 : decode cX9_readNext 69 = .ok (.invokevirtual 140, 3) := by decide +kernel
theorem dX9_readNext_72 : decode cX9_readNext 72 = .ok (.ifCond .ne 4, 3) := by decide +kernel
theorem dX9_readNext_75 : decode cX9_readNext 75 = .ok (.return_, 1) := by decide +kernel
theorem dX9_readNext_76 : decode cX9_readNext 76 = .ok (.aload_n 0, 1) := by decide +kernel
theorem dX9_readNext_77 : decode cX9_readNext 77 = .ok (.ldc 184, 2) := by decide +kernel
theorem dX9_readNext_79 : decode cX9_readNext 79 = .ok (.invokevirtual 159, 3) := by decide +kernel
theorem dX9_readNext_82 : decode cX9_readNext 82 = .ok (.ifCond .eq 39, 3) := by decide +kernel
theorem dX9_readNext_85 : decode cX9_readNext 85 = .ok (.aload_n 0, 1) := by decide +kernel
theorem dX9_readNext_86 : decode cX9_readNext 86 = .ok (.getfield 31, 3) := by decide +kernel
theorem dX9_readNext_89 : decode cX9_readNext 89 = .ok (.bipush 7, 2) := by decide +kernel
theorem dX9_readNext_91 : decode cX9_readNext 91 = .ok (.aload_n 0, 1) := by decide +kernel
theorem dX9_readNext_92 : decode cX9_readNext 92 = .ok (.getfield 31, 3) := by decide +kernel
theorem dX9_readNext_95 : decode cX9_readNext 95 = .ok (.iconst 3, 1) := by decide +kernel
theorem dX9_readNext_96 : decode cX9_readNext 96 = .ok (.iaload, 1) := by decide +kernel
theorem dX9_readNext_97 : decode cX9_readNext 97 = .ok (.iadd, 1) := by decide +kernel
theorem dX9_readNext_98 : decode cX9_readNext 98 = .ok (.aload_n 0, 1) := by decide +kernel
theorem dX9_readNext_99 : decode cX9_readNext 99 = .ok (.ldc 188, 2) := by decide +kernel
theorem dX9_readNext_101 : decode cX9_readNext 101 = .ok (.iconst 1, 1) := by decide +kernel
theorem dX9_readNext_102 : decode cX9_readNext 102 = .ok (.bipush 20, 2) := by decide +kernel
theorem dX9_readNext_104 : decode cX9_readNext 104 = .ok (.invokevirtual 176, 3) := by decide +kernel
theorem dX9_readNext_107 : decode cX9_readNext 107 = .ok (.iastore, 1) := by decide +kernel
theorem dX9_readNext_108 : decode cX9_readNext 108 = .ok (.aload_n 0, 1) := by decide +kernel
theorem dX9_readNext_109 : decode cX9_readNext 109 = .ok (.getfield 31, 3) := by decide +kernel
theorem dX9_readNext_112 : decode cX9_readNext 112 = .ok (.iconst 3, 1) := by decide +kernel
theorem dX9_readNext_113 : decode cX9_readNext 113 = .ok (.dup2, 1) := by decide +kernel
theorem dX9_readNext_114 : decode cX9_readNext 114 = .ok (.iaload, 1) := by decide +kernel
theorem dX9_readNext_115 : decode cX9_readNext 115 = .ok (.iconst 1, 1) := by decide +kernel
theorem dX9_readNext_116 : decode cX9_readNext 116 = .ok (.iadd, 1) := by decide +kernel
theorem dX9_readNext_117 : decode cX9_readNext 117 = .ok (.iastore, 1) := by decide +kernel
theorem dX9_readNext_118 : decode cX9_readNext 118 = .ok (.goto 61, 3) := by decide +kernel
theorem dX9_readNext_121 : decode cX9_readNext 121 = .ok (.aload_n 0, 1) := by decide +kernel
theorem dX9_readNext_122 : decode cX9_readNext 122 = .ok (.invokevirtual 156, 3) := by decide +kernel
theorem dX9_readNext_125 : decode cX9_readNext 125 = .ok (.bipush 15, 2) := by decide +kernel
theorem dX9_readNext_127 : decode cX9_readNext 127 = .ok (.iconst 2, 1) := by decide +kernel
theorem dX9_readNext_128 : decode cX9_readNext 128 = .ok (.aload_n 0, 1) := by decide +kernel
theorem dX9_readNext_129 : decode cX9_readNext 129 = .ok (.getfield 31, 3) := by decide +kernel
theorem dX9_readNext_132 : decode cX9_readNext 132 = .ok (.iconst 4, 1) := by decide +kernel
theorem dX9_readNext_133 : decode cX9_readNext 133 = .ok (.iaload, 1) := by decide +kernel
theorem dX9_readNext_134 : decode cX9_readNext 134 = .ok (.imul, 1) := by decide +kernel
theorem dX9_readNext_135 : decode cX9_readNext 135 = .ok (.iadd, 1) := by decide +kernel
theorem dX9_readNext_136 : decode cX9_readNext 136 = .ok (.istore_n 1, 1) := by decide +kernel
theorem dX9_readNext_137 : decode cX9_readNext 137 = .ok (.aload_n 0, 1) := by decide +kernel
theorem dX9_readNext_138 : decode cX9_readNext 138 = .ok (.getfield 31, 3) := by decide +kernel
theorem dX9_readNext_141 : decode cX9_readNext 141 = .ok (.iload_n 1, 1) := by decide +kernel
theorem dX9_readNext_142 : decode cX9_readNext 142 = .ok (.aload_n 0, 1) := by decide +kernel
theorem dX9_readNext_143 : decode cX9_readNext 143 = .ok (.ldc 188, 2) := by decide +kernel
theorem dX9_readNext_145 : decode cX9_readNext 145 = .ok (.iconst 1, 1) := by decide +kernel
theorem dX9_readNext_146 : decode cX9_readNext 146 = .ok (.bipush 20, 2) := by decide +kernel
theorem dX9_readNext_148 : decode cX9_readNext 148 = .ok (.invokevirtual 176, 3) := by decide +kernel
theorem dX9_readNext_151 : decode cX9_readNext 151 = .ok (.iastore, 1) := by decide +kernel
theorem dX9_readNext_152 : decode cX9_readNext 152 = .ok (.aload_n 0, 1) := by decide +kernel
theorem dX9_readNext_153 : decode cX9_readNext 153 = .ok (.getfield 31, 3) := by decide +kernel
theorem dX9_readNext_156 : decode cX9_readNext 156 = .ok (.iload_n 1, 1) := by decide +kernel
theorem dX9_readNext_157 : decode cX9_readNext 157 = .ok (.iconst 1, 1) := by decide +kernel
theorem dX9_readNext_158 : decode cX9_readNext 158 = .ok (.iadd, 1) := by decide +kernel
theorem dX9_readNext_159 : decode cX9_readNext 159 = .ok (.aload_n 0, 1) := by decide +kernel
theorem dX9_readNext_160 : decode cX9_readNext 160 = .ok (.ldc 190, 2) := by decide +kernel
theorem dX9_readNext_162 : decode cX9_readNext 162 = .ok (.iconst 0, 1) := by decide +kernel
theorem dX9_readNext_163 : decode cX9_readNext 163 = .ok (.bipush 15, 2) := by decide +kernel
theorem dX9_readNext_165 : decode cX9_readNext 165 = .ok (.invokevirtual 176, 3) := by decide +kernel
theorem dX9_readNext_168 : decode cX9_readNext 168 = .ok (.iastore, 1) := by decide +kernel
theorem dX9_readNext_169 : decode cX9_readNext 169 = .ok (.aload_n 0, 1) := by decide +kernel
theorem dX9_readNext_170 : decode cX9_readNext 170 = .ok (.getfield 31, 3) := by decide +kernel
theorem dX9_readNext_173 : decode cX9_readNext 173 = .ok (.iconst 4, 1) := by decide +kernel
theorem dX9_readNext_174 : decode cX9_readNext 174 = .ok (.dup2, 1) := by decide +kernel
theorem dX9_readNext_175 : decode cX9_readNext 175 = .ok (.iaload, 1) := by decide +kernel
theorem dX9_readNext_176 : decode cX9_readNext 176 = .ok (.iconst 1, 1) := by decide +kernel
theorem dX9_readNext_177 : decode cX9_readNext 177 = .ok (.iadd, 1) := by decide +kernel
theorem dX9_readNext_178 : decode cX9_readNext 178 = .ok (.iastore, 1) := by decide +kernel
theorem dX9_readNext_179 : decode cX9_readNext 179 = .ok (.return_, 1) := by decide +kernel
theorem dX9_rests_0 : decode cX9_rests 0 = .ok (.aload_n 0, 1) := by decide +kernel
theorem dX9_rests_1 : decode cX9_rests 1 = .ok (.iload_n 1, 1) := by decide +kernel
theorem dX9_rests_2 : decode cX9_rests 2 = .ok (.iload_n 2, 1) := by decide +kernel
theorem dX9_rests_3 : decode cX9_rests 3 = .ok (.invokevirtual 429, 3) := by decide +kernel
theorem dX9_rests_6 : decode cX9_rests 6 = .ok (.ifCond .ne 6, 3) := by decide +kernel
theorem dX9_rests_9 : decode cX9_rests 9 = .ok (.bipush (-2), 2) := by decide +kernel
theorem dX9_rests_11 : decode cX9_rests 11 = .ok (.ireturn, 1) := by decide +kernel
theorem dX9_rests_12 : decode cX9_rests 12 = .ok (.iconst 0, 1) := by decide +kernel
theorem dX9_rests_13 : decode cX9_rests 13 = .ok (.istore_n 3, 1) := by decide +kernel
theorem dX9_rests_14 : decode cX9_rests 14 = .ok (.iconst 0, 1) := by decide +kernel
theorem dX9_rests_15 : decode cX9_rests 15 = .ok (.istore 4, 2) := by decide +kernel
theorem dX9_rests_17 : decode cX9_rests 17 = .ok (.iload 4, 2) := by decide +kernel
theorem dX9_rests_19 : decode cX9_rests 19 = .ok (.iconst 4, 1) := by decide +kernel
theorem dX9_rests_20 : decode cX9_rests 20 = .ok (.if_icmp .ge 98, 3) := by decide +kernel
theorem dX9_rests_23 : decode cX9_rests 23 = .ok (.iload 4, 2) := by decide +kernel
theorem dX9_rests_25 : decode cX9_rests 25 = .ok (.iconst 1, 1) := by decide +kernel
theorem dX9_rests_26 : decode cX9_rests 26 = .ok (.iand, 1) := by decide +kernel
theorem dX9_rests_27 : decode cX9_rests 27 = .ok (.istore 5, 2) := by decide +kernel
theorem dX9_rests_29 : decode cX9_rests 29 = .ok (.iload 4, 2) := by decide +kernel
theorem dX9_rests_31 : decode cX9_rests 31 = .ok (.iconst 1, 1) := by decide +kernel
theorem dX9_rests_32 : decode cX9_rests 32 = .ok (.ishr, 1) := by decide +kernel
theorem dX9_rests_33 : decode cX9_rests 33 = .ok (.istore 6, 2) := by decide +kernel
theorem dX9_rests_35 : decode cX9_rests 35 = .ok (.aload_n 0, 1) := by decide +kernel
theorem dX9_rests_36 : decode cX9_rests 36 = .ok (.iload_n 1, 1) := by decide +kernel
theorem dX9_rests_37 : decode cX9_rests 37 = .ok (.iload_n 2, 1) := by decide +kernel
theorem dX9_rests_38 : decode cX9_rests 38 = .ok (.iload 5, 2) := by decide +kernel
theorem dX9_rests_40 : decode cX9_rests 40 = .ok (.iload 6, 2) := by decide +kernel
theorem dX9_rests_42 : decode cX9_rests 42 = .ok (.iconst 0, 1) := by decide +kernel
theorem dX9_rests_43 : decode cX9_rests 43 = .ok (.invokevirtual 432, 3) := by decide +kernel
theorem dX9_rests_46 : decode cX9_rests 46 = .ok (.aload_n 0, 1) := by decide +kernel
theorem dX9_rests_47 : decode cX9_rests 47 = .ok (.iload_n 1, 1) := by decide +kernel
theorem dX9_rests_48 : decode cX9_rests 48 = .ok (.iload_n 2, 1) := by decide +kernel
theorem dX9_rests_49 : decode cX9_rests 49 = .ok (.iconst 1, 1) := by decide +kernel
theorem dX9_rests_50 : decode cX9_rests 50 = .ok (.iload 5, 2) := by decide +kernel
theorem dX9_rests_52 : decode cX9_rests 52 = .ok (.isub, 1) := by decide +kernel
theorem dX9_rests_53 : decode cX9_rests 53 = .ok (.iload 6, 2) := by decide +kernel
theorem dX9_rests_55 : decode cX9_rests 55 = .ok (.iconst 0, 1) := by decide +kernel
theorem dX9_rests_56 : decode cX9_rests 56 = .ok (.invokevirtual 432, 3) := by decide +kernel
theorem dX9_rests_59 : decode cX9_rests 59 = .ok (.if_icmp .lt 34, 3) := by decide +kernel
theorem dX9_rests_62 : decode cX9_rests 62 = .ok (.aload_n 0, 1) := by decide +kernel
theorem dX9_rests_63 : decode cX9_rests 63 = .ok (.iload_n 1, 1) := by decide +kernel
theorem dX9_rests_64 : decode cX9_rests 64 = .ok (.iload_n 2, 1) := by decide +kernel
theorem dX9_rests_65 : decode cX9_rests 65 = .ok (.iload 5, 2) := by decide +kernel
theorem dX9_rests_67 : decode cX9_rests 67 = .ok (.iload 6, 2) := by decide +kernel
theorem dX9_rests_69 : decode cX9_rests 69 = .ok (.iconst 1, 1) := by decide +kernel
theorem dX9_rests_70 : decode cX9_rests 70 = .ok (.invokevirtual 432, 3) := by decide +kernel
theorem dX9_rests_73 : decode cX9_rests 73 = .ok (.aload_n 0, 1) := by decide +kernel
theorem dX9_rests_74 : decode cX9_rests 74 = .ok (.iload_n 1, 1) := by decide +kernel
theorem dX9_rests_75 : decode cX9_rests 75 = .ok (.iload_n 2, 1) := by decide +kernel
theorem dX9_rests_76 : decode cX9_rests 76 = .ok (.iload 5, 2) := by decide +kernel
theorem dX9_rests_78 : decode cX9_rests 78 = .ok (.iconst 1, 1) := by decide +kernel
theorem dX9_rests_79 : decode cX9_rests 79 = .ok (.iload 6, 2) := by decide +kernel
theorem dX9_rests_81 : decode cX9_rests 81 = .ok (.isub, 1) := by decide +kernel
theorem dX9_rests_82 : decode cX9_rests 82 = .ok (.iconst 1, 1) := by decide +kernel
theorem dX9_rests_83 : decode cX9_rests 83 = .ok (.invokevirtual 432, 3) := by decide +kernel
theorem dX9_rests_86 : decode cX9_rests 86 = .ok (.if_icmp .lt 7, 3) := by decide +kernel
theorem dX9_rests_89 : decode cX9_rests 89 = .ok (.iconst 1, 1) := by decide +kernel
theorem dX9_rests_90 : decode cX9_rests 90 = .ok (.goto 4, 3) := by decide +kernel
theorem dX9_rests_93 : decode cX9_rests 93 = .ok (.iconst 0, 1) := by decide +kernel
theorem dX9_rests_94 : decode cX9_rests 94 = .ok (.istore 7, 2) := by decide +kernel
theorem dX9_rests_96 : decode cX9_rests 96 = .ok (.iload_n 3, 1) := by decide +kernel
theorem dX9_rests_97 : decode cX9_rests 97 = .ok (.iload 7, 2) := by decide +kernel
theorem dX9_rests_99 : decode cX9_rests 99 = .ok (.ifCond .eq 10, 3) := by decide +kernel
theorem dX9_rests_102 : decode cX9_rests 102 = .ok (.iconst 1, 1) := by decide +kernel
theorem dX9_rests_103 : decode cX9_rests 103 = .ok (.iload 4, 2) := by decide +kernel
theorem dX9_rests_105 : decode cX9_rests 105 = .ok (.ishl, 1) := by decide +kernel
theorem dX9_rests_106 : decode cX9_rests 106 = .ok (.goto 4, 3) := by decide +kernel
theorem dX9_rests_109 : decode cX9_rests 109 = .ok (.iconst 0, 1) := by decide +kernel
theorem dX9_rests_110 : decode cX9_rests 110 = .ok (.ior, 1) := by decide +kernel
theorem dX9_rests_111 : decode cX9_rests 111 = .ok (.istore_n 3, 1) := by decide +kernel
theorem dX9_rests_112 : decode cX9_rests 112 = .ok (.iinc 4 1, 3) := by decide +kernel
theorem dX9_rests_115 : decode cX9_rests 115 = .ok (.goto (-98), 3) := by decide +kernel
theorem dX9_rests_118 : decode cX9_rests 118 = .ok (.iload_n 3, 1) := by decide +kernel
theorem dX9_rests_119 : decode cX9_rests 119 = .ok (.ireturn, 1) := by decide +kernel
theorem dX9_ring_0 : decode cX9_ring 0 = .ok (.aload_n 0, 1) := by decide +kernel
theorem dX9_ring_1 : decode cX9_ring 1 = .ok (.iload_n 1, 1) := by decide +kernel
theorem dX9_ring_2 : decode cX9_ring 2 = .ok (.invokevirtual 272, 3) := by decide +kernel
theorem dX9_ring_5 : decode cX9_ring 5 = .ok (.ifCond .ne 6, 3) := by decide +kernel
theorem dX9_ring_8 : decode cX9_ring 8 = .ok (.bipush (-2), 2) := by decide +kernel
theorem dX9_ring_10 : decode cX9_ring 10 = .ok (.ireturn, 1) := by decide +kernel
theorem dX9_ring_11 : decode cX9_ring 11 = .ok (.aload_n 0, 1) := by decide +kernel
theorem dX9_ring_12 : decode cX9_ring 12 = .ok (.iload_n 1, 1) := by decide +kernel
theorem dX9_ring_13 : decode cX9_ring 13 = .ok (.invokevirtual 311, 3) := by decide +kernel
theorem dX9_ring_16 : decode cX9_ring 16 = .ok (.ifCond .ne 5, 3) := by decide +kernel
theorem dX9_ring_19 : decode cX9_ring 19 = .ok (.iconst (-1), 1) := by decide +kernel
theorem dX9_ring_20 : decode cX9_ring 20 = .ok (.ireturn, 1) := by decide +kernel
theorem dX9_ring_21 : decode cX9_ring 21 = .ok (.iconst 0, 1) := by decide +kernel
theorem dX9_ring_22 : decode cX9_ring 22 = .ok (.istore_n 2, 1) := by decide +kernel
theorem dX9_ring_23 : decode cX9_ring 23 = .ok (.iconst 0, 1) := by decide +kernel
theorem dX9_ring_24 : decode cX9_ring 24 = .ok (.istore_n 3, 1) := by decide +kernel
theorem dX9_ring_25 : decode cX9_ring 25 = .ok (.iload_n 3, 1) := by decide +kernel
theorem dX9_ring_26 : decode cX9_ring 26 = .ok (.aload_n 0, 1) := by decide +kernel
theorem dX9_ring_27 : decode cX9_ring 27 = .ok (.getfield 305, 3) := by decide +kernel
theorem dX9_ring_30 : decode cX9_ring 30 = .ok (.if_icmp .ge 26, 3) := by decide +kernel
theorem dX9_ring_33 : decode cX9_ring 33 = .ok (.iload_n 2, 1) := by decide +kernel
theorem dX9_ring_34 : decode cX9_ring 34 = .ok (.aload_n 0, 1) := by decide +kernel
theorem dX9_ring_35 : decode cX9_ring 35 = .ok (.bipush 18, 2) := by decide +kernel
theorem dX9_ring_37 : decode cX9_ring 37 = .ok (.invokevirtual 207, 3) := by decide +kernel
theorem dX9_ring_40 : decode cX9_ring 40 = .ok (.invokestatic 283, 3) := by decide +kernel
theorem dX9_ring_43 : decode cX9_ring 43 = .ok (.istore_n 2, 1) := by decide +kernel
theorem dX9_ring_44 : decode cX9_ring 44 = .ok (.aload_n 0, 1) := by decide +kernel
theorem dX9_ring_45 : decode cX9_ring 45 = .ok (.bipush 18, 2) := by decide +kernel
theorem dX9_ring_47 : decode cX9_ring 47 = .ok (.invokevirtual 256, 3) := by decide +kernel
theorem dX9_ring_50 : decode cX9_ring 50 = .ok (.iinc 3 1, 3) := by decide +kernel
theorem dX9_ring_53 : decode cX9_ring 53 = .ok (.goto (-28), 3) := by decide +kernel
theorem dX9_ring_56 : decode cX9_ring 56 = .ok (.iload_n 2, 1) := by decide +kernel
theorem dX9_ring_57 : decode cX9_ring 57 = .ok (.ireturn, 1) := by decide +kernel
theorem dX9_ringed_0 : decode cX9_ringed 0 = .ok (.aload_n 0, 1) := by decide +kernel
theorem dX9_ringed_1 : decode cX9_ringed 1 = .ok (.iload_n 1, 1) := by decide +kernel
theorem dX9_ringed_2 : decode cX9_ringed 2 = .ok (.invokevirtual 342, 3) := by decide +kernel
theorem dX9_ringed_5 : decode cX9_ringed 5 = .ok (.ifCond .ne 6, 3) := by decide +kernel
theorem dX9_ringed_8 : decode cX9_ringed 8 = .ok (.bipush (-2), 2) := by decide +kernel
theorem dX9_ringed_10 : decode cX9_ringed 10 = .ok (.ireturn, 1) := by decide +kernel
theorem dX9_ringed_11 : decode cX9_ringed 11 = .ok (.iconst 0, 1) := by decide +kernel
theorem dX9_ringed_12 : decode cX9_ringed 12 = .ok (.istore_n 2, 1) := by decide +kernel
theorem dX9_ringed_13 : decode cX9_ringed 13 = .ok (.iconst 0, 1) := by decide +kernel
theorem dX9_ringed_14 : decode cX9_ringed 14 = .ok (.istore_n 3, 1) := by decide +kernel
theorem dX9_ringed_15 : decode cX9_ringed 15 = .ok (.iload_n 3, 1) := by decide +kernel
theorem dX9_ringed_16 : decode cX9_ringed 16 = .ok (.aload_n 0, 1) := by decide +kernel
theorem dX9_ringed_17 : decode cX9_ringed 17 = .ok (.getfield 316, 3) := by decide +kernel
theorem dX9_ringed_20 : decode cX9_ringed 20 = .ok (.if_icmp .ge 26, 3) := by decide +kernel
theorem dX9_ringed_23 : decode cX9_ringed 23 = .ok (.iload_n 2, 1) := by decide +kernel
theorem dX9_ringed_24 : decode cX9_ringed 24 = .ok (.aload_n 0, 1) := by decide +kernel
theorem dX9_ringed_25 : decode cX9_ringed 25 = .ok (.getfield 55, 3) := by decide +kernel
theorem dX9_ringed_28 : decode cX9_ringed 28 = .ok (.iload_n 3, 1) := by decide +kernel
theorem dX9_ringed_29 : decode cX9_ringed 29 = .ok (.iaload, 1) := by decide +kernel
theorem dX9_ringed_30 : decode cX9_ringed 30 = .ok (.ifCond .ne 7, 3) := by decide +kernel
theorem dX9_ringed_33 : decode cX9_ringed 33 = .ok (.iconst 1, 1) := by decide +kernel
theorem dX9_ringed_34 : decode cX9_ringed 34 = .ok (.goto 4, 3) := by decide +kernel
theorem dX9_ringed_37 : decode cX9_ringed 37 = .ok (.iconst 0, 1) := by decide +kernel
theorem dX9_ringed_38 : decode cX9_ringed 38 = .ok (.iadd, 1) := by decide +kernel
theorem dX9_ringed_39 : decode cX9_ringed 39 = .ok (.istore_n 2, 1) := by decide +kernel
theorem dX9_ringed_40 : decode cX9_ringed 40 = .ok (.iinc 3 1, 3) := by decide +kernel
theorem dX9_ringed_43 : decode cX9_ringed 43 = .ok (.goto (-28), 3) := by decide +kernel
theorem dX9_ringed_46 : decode cX9_ringed 46 = .ok (.iload_n 2, 1) := by decide +kernel
theorem dX9_ringed_47 : decode cX9_ringed 47 = .ok (.ireturn, 1) := by decide +kernel
theorem dX9_rings_0 : decode cX9_rings 0 = .ok (.aload_n 0, 1) := by decide +kernel
theorem dX9_rings_1 : decode cX9_rings 1 = .ok (.iload_n 1, 1) := by decide +kernel
theorem dX9_rings_2 : decode cX9_rings 2 = .ok (.invokevirtual 342, 3) := by decide +kernel
theorem dX9_rings_5 : decode cX9_rings 5 = .ok (.ifCond .ne 6, 3) := by decide +kernel
theorem dX9_rings_8 : decode cX9_rings 8 = .ok (.bipush (-2), 2) := by decide +kernel
theorem dX9_rings_10 : decode cX9_rings 10 = .ok (.ireturn, 1) := by decide +kernel
theorem dX9_rings_11 : decode cX9_rings 11 = .ok (.iconst 0, 1) := by decide +kernel
theorem dX9_rings_12 : decode cX9_rings 12 = .ok (.istore_n 2, 1) := by decide +kernel
theorem dX9_rings_13 : decode cX9_rings 13 = .ok (.iconst 0, 1) := by decide +kernel
theorem dX9_rings_14 : decode cX9_rings 14 = .ok (.istore_n 3, 1) := by decide +kernel
theorem dX9_rings_15 : decode cX9_rings 15 = .ok (.iload_n 3, 1) := by decide +kernel
theorem dX9_rings_16 : decode cX9_rings 16 = .ok (.aload_n 0, 1) := by decide +kernel
theorem dX9_rings_17 : decode cX9_rings 17 = .ok (.getfield 316, 3) := by decide +kernel
theorem dX9_rings_20 : decode cX9_rings 20 = .ok (.if_icmp .ge 73, 3) := by decide +kernel
theorem dX9_rings_23 : decode cX9_rings 23 = .ok (.aload_n 0, 1) := by decide +kernel
theorem dX9_rings_24 : decode cX9_rings 24 = .ok (.getfield 55, 3) := by decide +kernel
theorem dX9_rings_27 : decode cX9_rings 27 = .ok (.iload_n 3, 1) := by decide +kernel
theorem dX9_rings_28 : decode cX9_rings 28 = .ok (.iaload, 1) := by decide +kernel
theorem dX9_rings_29 : decode cX9_rings 29 = .ok (.ifCond .le 6, 3) := by decide +kernel
theorem dX9_rings_32 : decode cX9_rings 32 = .ok (.goto 55, 3) := by decide +kernel
theorem dX9_rings_35 : decode cX9_rings 35 = .ok (.iload_n 3, 1) := by decide +kernel
theorem dX9_rings_36 : decode cX9_rings 36 = .ok (.istore 4, 2) := by decide +kernel
theorem dX9_rings_38 : decode cX9_rings 38 = .ok (.aload_n 0, 1) := by decide +kernel
theorem dX9_rings_39 : decode cX9_rings 39 = .ok (.getfield 52, 3) := by decide +kernel
theorem dX9_rings_42 : decode cX9_rings 42 = .ok (.iload_n 3, 1) := by decide +kernel
theorem dX9_rings_43 : decode cX9_rings 43 = .ok (.iaload, 1) := by decide +kernel
theorem dX9_rings_44 : decode cX9_rings 44 = .ok (.istore 5, 2) := by decide +kernel
theorem dX9_rings_46 : decode cX9_rings 46 = .ok (.iload 5, 2) := by decide +kernel
theorem dX9_rings_48 : decode cX9_rings 48 = .ok (.iload_n 3, 1) := by decide +kernel
theorem dX9_rings_49 : decode cX9_rings 49 = .ok (.if_icmp .eq 24, 3) := by decide +kernel
theorem dX9_rings_52 : decode cX9_rings 52 = .ok (.iload 4, 2) := by decide +kernel
theorem dX9_rings_54 : decode cX9_rings 54 = .ok (.iload 5, 2) := by decide +kernel
theorem dX9_rings_56 : decode cX9_rings 56 = .ok (.invokestatic 131, 3) := by decide +kernel
theorem dX9_rings_59 : decode cX9_rings 59 = .ok (.istore 4, 2) := by decide +kernel
theorem dX9_rings_61 : decode cX9_rings 61 = .ok (.aload_n 0, 1) := by decide +kernel
theorem dX9_rings_62 : decode cX9_rings 62 = .ok (.getfield 52, 3) := by decide +kernel
theorem dX9_rings_65 : decode cX9_rings 65 = .ok (.iload 5, 2) := by decide +kernel
theorem dX9_rings_67 : decode cX9_rings 67 = .ok (.iaload, 1) := by decide +kernel
theorem dX9_rings_68 : decode cX9_rings 68 = .ok (.istore 5, 2) := by decide +kernel
theorem dX9_rings_70 : decode cX9_rings 70 = .ok (.goto (-24), 3) := by decide +kernel
theorem dX9_rings_73 : decode cX9_rings 73 = .ok (.iload_n 2, 1) := by decide +kernel
theorem dX9_rings_74 : decode cX9_rings 74 = .ok (.iload 4, 2) := by decide +kernel
theorem dX9_rings_76 : decode cX9_rings 76 = .ok (.iload_n 3, 1) := by decide +kernel
theorem dX9_rings_77 : decode cX9_rings 77 = .ok (.if_icmp .ne 7, 3) := by decide +kernel
theorem dX9_rings_80 : decode cX9_rings 80 = .ok (.iconst 1, 1) := by decide +kernel
theorem dX9_rings_81 : decode cX9_rings 81 = .ok (.goto 4, 3) := by decide +kernel
theorem dX9_rings_84 : decode cX9_rings 84 = .ok (.iconst 0, 1) := by decide +kernel
theorem dX9_rings_85 : decode cX9_rings 85 = .ok (.iadd, 1) := by decide +kernel
theorem dX9_rings_86 : decode cX9_rings 86 = .ok (.istore_n 2, 1) := by decide +kernel
theorem dX9_rings_87 : decode cX9_rings 87 = .ok (.iinc 3 1, 3) := by decide +kernel
theorem dX9_rings_90 : decode cX9_rings 90 = .ok (.goto (-75), 3) := by decide +kernel
theorem dX9_rings_93 : decode cX9_rings 93 = .ok (.iload_n 2, 1) := by decide +kernel
theorem dX9_rings_94 : decode cX9_rings 94 = .ok (.ireturn, 1) := by decide +kernel
theorem dX9_row_0 : decode cX9_row 0 = .ok (.iload_n 1, 1) := by decide +kernel
theorem dX9_row_1 : decode cX9_row 1 = .ok (.invokestatic 348, 3) := by decide +kernel
theorem dX9_row_4 : decode cX9_row 4 = .ok (.ifCond .eq 21, 3) := by decide +kernel
theorem dX9_row_7 : decode cX9_row 7 = .ok (.iload_n 2, 1) := by decide +kernel
theorem dX9_row_8 : decode cX9_row 8 = .ok (.i2l, 1) := by decide +kernel
theorem dX9_row_9 : decode cX9_row 9 = .ok (.lconst 0, 1) := by decide +kernel
theorem dX9_row_10 : decode cX9_row 10 = .ok (.ldc2_w 390, 3) := by decide +kernel
theorem dX9_row_13 : decode cX9_row 13 = .ok (.invokestatic 85, 3) := by decide +kernel
theorem dX9_row_16 : decode cX9_row 16 = .ok (.ifCond .eq 9, 3) := by decide +kernel
theorem dX9_row_19 : decode cX9_row 19 = .ok (.iload_n 3, 1) := by decide +kernel
theorem dX9_row_20 : decode cX9_row 20 = .ok (.bipush 60, 2) := by decide +kernel
theorem dX9_row_22 : decode cX9_row 22 = .ok (.if_icmp .le 6, 3) := by decide +kernel
theorem dX9_row_25 : decode cX9_row 25 = .ok (.bipush (-2), 2) := by decide +kernel
theorem dX9_row_27 : decode cX9_row 27 = .ok (.ireturn, 1) := by decide +kernel
theorem dX9_row_28 : decode cX9_row 28 = .ok (.iload_n 3, 1) := by decide +kernel
theorem dX9_row_29 : decode cX9_row 29 = .ok (.ifCond .ge 6, 3) := by decide +kernel
theorem dX9_row_32 : decode cX9_row 32 = .ok (.bipush (-3), 2) := by decide +kernel
theorem dX9_row_34 : decode cX9_row 34 = .ok (.ireturn, 1) := by decide +kernel
theorem dX9_row_35 : decode cX9_row 35 = .ok (.aload_n 0, 1) := by decide +kernel
theorem dX9_row_36 : decode cX9_row 36 = .ok (.getfield 67, 3) := by decide +kernel
theorem dX9_row_39 : decode cX9_row 39 = .ok (.iload_n 1, 1) := by decide +kernel
theorem dX9_row_40 : decode cX9_row 40 = .ok (.iload_n 3, 1) := by decide +kernel
theorem dX9_row_41 : decode cX9_row 41 = .ok (.iastore, 1) := by decide +kernel
theorem dX9_row_42 : decode cX9_row 42 = .ok (.aload_n 0, 1) := by decide +kernel
theorem dX9_row_43 : decode cX9_row 43 = .ok (.getfield 70, 3) := by decide +kernel
theorem dX9_row_46 : decode cX9_row 46 = .ok (.iload_n 1, 1) := by decide +kernel
theorem dX9_row_47 : decode cX9_row 47 = .ok (.iload_n 2, 1) := by decide +kernel
theorem dX9_row_48 : decode cX9_row 48 = .ok (.iastore, 1) := by decide +kernel
theorem dX9_row_49 : decode cX9_row 49 = .ok (.iconst 0, 1) := by decide +kernel
theorem dX9_row_50 : decode cX9_row 50 = .ok (.istore 4, 2) := by decide +kernel
theorem dX9_row_52 : decode cX9_row 52 = .ok (.iload 4, 2) := by decide +kernel
theorem dX9_row_54 : decode cX9_row 54 = .ok (.bipush 60, 2) := by decide +kernel
theorem dX9_row_56 : decode cX9_row 56 = .ok (.if_icmp .ge 22, 3) := by decide +kernel
theorem dX9_row_59 : decode cX9_row 59 = .ok (.aload_n 0, 1) := by decide +kernel
theorem dX9_row_60 : decode cX9_row 60 = .ok (.getfield 73, 3) := by decide +kernel
theorem dX9_row_63 : decode cX9_row 63 = .ok (.bipush 60, 2) := by decide +kernel
theorem dX9_row_65 : decode cX9_row 65 = .ok (.iload_n 1, 1) := by decide +kernel
theorem dX9_row_66 : decode cX9_row 66 = .ok (.imul, 1) := by decide +kernel
theorem dX9_row_67 : decode cX9_row 67 = .ok (.iload 4, 2) := by decide +kernel
theorem dX9_row_69 : decode cX9_row 69 = .ok (.iadd, 1) := by decide +kernel
theorem dX9_row_70 : decode cX9_row 70 = .ok (.lconst 0, 1) := by decide +kernel
theorem dX9_row_71 : decode cX9_row 71 = .ok (.lastore, 1) := by decide +kernel
theorem dX9_row_72 : decode cX9_row 72 = .ok (.iinc 4 1, 3) := by decide +kernel
theorem dX9_row_75 : decode cX9_row 75 = .ok (.goto (-23), 3) := by decide +kernel
theorem dX9_row_78 : decode cX9_row 78 = .ok (.iconst 0, 1) := by decide +kernel
theorem dX9_row_79 : decode cX9_row 79 = .ok (.ireturn, 1) := by decide +kernel
theorem dX9_rows_0 : decode cX9_rows 0 = .ok (.aload_n 0, 1) := by decide +kernel
theorem dX9_rows_1 : decode cX9_rows 1 = .ok (.invokevirtual 265, 3) := by decide +kernel
theorem dX9_rows_4 : decode cX9_rows 4 = .ok (.ifCond .ne 6, 3) := by decide +kernel
theorem dX9_rows_7 : decode cX9_rows 7 = .ok (.bipush (-2), 2) := by decide +kernel
theorem dX9_rows_9 : decode cX9_rows 9 = .ok (.ireturn, 1) := by decide +kernel
theorem dX9_rows_10 : decode cX9_rows 10 = .ok (.iconst 0, 1) := by decide +kernel
theorem dX9_rows_11 : decode cX9_rows 11 = .ok (.istore_n 1, 1) := by decide +kernel
theorem dX9_rows_12 : decode cX9_rows 12 = .ok (.iconst 0, 1) := by decide +kernel
theorem dX9_rows_13 : decode cX9_rows 13 = .ok (.istore_n 2, 1) := by decide +kernel
theorem dX9_rows_14 : decode cX9_rows 14 = .ok (.iload_n 2, 1) := by decide +kernel
theorem dX9_rows_15 : decode cX9_rows 15 = .ok (.aload_n 0, 1) := by decide +kernel
theorem dX9_rows_16 : decode cX9_rows 16 = .ok (.invokevirtual 93, 3) := by decide +kernel
theorem dX9_rows_19 : decode cX9_rows 19 = .ok (.if_icmp .gt 26, 3) := by decide +kernel
theorem dX9_rows_22 : decode cX9_rows 22 = .ok (.iload_n 1, 1) := by decide +kernel
theorem dX9_rows_23 : decode cX9_rows 23 = .ok (.aload_n 0, 1) := by decide +kernel
theorem dX9_rows_24 : decode cX9_rows 24 = .ok (.iload_n 2, 1) := by decide +kernel
theorem dX9_rows_25 : decode cX9_rows 25 = .ok (.invokevirtual 293, 3) := by decide +kernel
theorem dX9_rows_28 : decode cX9_rows 28 = .ok (.iload_n 2, 1) := by decide +kernel
theorem dX9_rows_29 : decode cX9_rows 29 = .ok (.if_icmp .ne 7, 3) := by decide +kernel
theorem dX9_rows_32 : decode cX9_rows 32 = .ok (.iconst 1, 1) := by decide +kernel
theorem dX9_rows_33 : decode cX9_rows 33 = .ok (.goto 4, 3) := by decide +kernel
theorem dX9_rows_36 : decode cX9_rows 36 = .ok (.iconst 0, 1) := by decide +kernel
theorem dX9_rows_37 : decode cX9_rows 37 = .ok (.iadd, 1) := by decide +kernel
theorem dX9_rows_38 : decode cX9_rows 38 = .ok (.istore_n 1, 1) := by decide +kernel
theorem dX9_rows_39 : decode cX9_rows 39 = .ok (.iinc 2 1, 3) := by decide +kernel
theorem dX9_rows_42 : decode cX9_rows 42 = .ok (.goto (-28), 3) := by decide +kernel
theorem dX9_rows_45 : decode cX9_rows 45 = .ok (.iload_n 1, 1) := by decide +kernel
theorem dX9_rows_46 : decode cX9_rows 46 = .ok (.ireturn, 1) := by decide +kernel
theorem dX9_rowsOf_0 : decode cX9_rowsOf 0 = .ok (.aload_n 0, 1) := by decide +kernel
theorem dX9_rowsOf_1 : decode cX9_rowsOf 1 = .ok (.iload_n 1, 1) := by decide +kernel
theorem dX9_rowsOf_2 : decode cX9_rowsOf 2 = .ok (.invokevirtual 342, 3) := by decide +kernel
theorem dX9_rowsOf_5 : decode cX9_rowsOf 5 = .ok (.ifCond .eq 10, 3) := by decide +kernel
theorem dX9_rowsOf_8 : decode cX9_rowsOf 8 = .ok (.aload_n 0, 1) := by decide +kernel
theorem dX9_rowsOf_9 : decode cX9_rowsOf 9 = .ok (.getfield 316, 3) := by decide +kernel
theorem dX9_rowsOf_12 : decode cX9_rowsOf 12 = .ok (.goto 5, 3) := by decide +kernel
theorem dX9_rowsOf_15 : decode cX9_rowsOf 15 = .ok (.bipush (-2), 2) := by decide +kernel
theorem dX9_rowsOf_17 : decode cX9_rowsOf 17 = .ok (.ireturn, 1) := by decide +kernel
theorem dX9_same_0 : decode cX9_same 0 = .ok (.aload_n 0, 1) := by decide +kernel
theorem dX9_same_1 : decode cX9_same 1 = .ok (.iload_n 1, 1) := by decide +kernel
theorem dX9_same_2 : decode cX9_same 2 = .ok (.invokevirtual 272, 3) := by decide +kernel
theorem dX9_same_5 : decode cX9_same 5 = .ok (.ifCond .eq 11, 3) := by decide +kernel
theorem dX9_same_8 : decode cX9_same 8 = .ok (.aload_n 0, 1) := by decide +kernel
theorem dX9_same_9 : decode cX9_same 9 = .ok (.iload_n 1, 1) := by decide +kernel
theorem dX9_same_10 : decode cX9_same 10 = .ok (.invokevirtual 293, 3) := by decide +kernel
theorem dX9_same_13 : decode cX9_same 13 = .ok (.goto 5, 3) := by decide +kernel
theorem dX9_same_16 : decode cX9_same 16 = .ok (.bipush (-2), 2) := by decide +kernel
theorem dX9_same_18 : decode cX9_same 18 = .ok (.ireturn, 1) := by decide +kernel
theorem dX9_see_0 : decode cX9_see 0 = .ok (.iload_n 1, 1) := by decide +kernel
theorem dX9_see_1 : decode cX9_see 1 = .ok (.aload_n 0, 1) := by decide +kernel
theorem dX9_see_2 : decode cX9_see 2 = .ok (.getfield 103, 3) := by decide +kernel
theorem dX9_see_5 : decode cX9_see 5 = .ok (.if_icmp .ge 16, 3) := by decide +kernel
theorem dX9_see_8 : decode cX9_see 8 = .ok (.aload_n 0, 1) := by decide +kernel
theorem dX9_see_9 : decode cX9_see 9 = .ok (.getfield 20, 3) := by decide +kernel
theorem dX9_see_12 : decode cX9_see 12 = .ok (.iload_n 1, 1) := by decide +kernel
theorem dX9_see_13 : decode cX9_see 13 = .ok (.baload, 1) := by decide +kernel
theorem dX9_see_14 : decode cX9_see 14 = .ok (.sipush 255, 3) := by decide +kernel
theorem dX9_see_17 : decode cX9_see 17 = .ok (.iand, 1) := by decide +kernel
theorem dX9_see_18 : decode cX9_see 18 = .ok (.goto 4, 3) := by decide +kernel
theorem dX9_see_21 : decode cX9_see 21 = .ok (.iconst (-1), 1) := by decide +kernel
theorem dX9_see_22 : decode cX9_see 22 = .ok (.ireturn, 1) := by decide +kernel
theorem dX9_share_0 : decode cX9_share 0 = .ok (.aload_n 0, 1) := by decide +kernel
theorem dX9_share_1 : decode cX9_share 1 = .ok (.invokevirtual 259, 3) := by decide +kernel
theorem dX9_share_4 : decode cX9_share 4 = .ok (.aload_n 0, 1) := by decide +kernel
theorem dX9_share_5 : decode cX9_share 5 = .ok (.iload_n 1, 1) := by decide +kernel
theorem dX9_share_6 : decode cX9_share 6 = .ok (.invokevirtual 204, 3) := by decide +kernel
theorem dX9_share_9 : decode cX9_share 9 = .ok (.ifCond .eq 13, 3) := by decide +kernel
theorem dX9_share_12 : decode cX9_share 12 = .ok (.iload_n 2, 1) := by decide +kernel
theorem dX9_share_13 : decode cX9_share 13 = .ok (.i2l, 1) := by decide +kernel
theorem dX9_share_14 : decode cX9_share 14 = .ok (.lconst 0, 1) := by decide +kernel
theorem dX9_share_15 : decode cX9_share 15 = .ok (.lconst 1, 1) := by decide +kernel
theorem dX9_share_16 : decode cX9_share 16 = .ok (.invokestatic 85, 3) := by decide +kernel
theorem dX9_share_19 : decode cX9_share 19 = .ok (.ifCond .ne 7, 3) := by decide +kernel
theorem dX9_share_22 : decode cX9_share 22 = .ok (.sipush (-1000), 3) := by decide +kernel
theorem dX9_share_25 : decode cX9_share 25 = .ok (.ireturn, 1) := by decide +kernel
theorem dX9_share_26 : decode cX9_share 26 = .ok (.aload_n 0, 1) := by decide +kernel
theorem dX9_share_27 : decode cX9_share 27 = .ok (.invokevirtual 97, 3) := by decide +kernel
theorem dX9_share_30 : decode cX9_share 30 = .ok (.istore_n 3, 1) := by decide +kernel
theorem dX9_share_31 : decode cX9_share 31 = .ok (.iconst 0, 1) := by decide +kernel
theorem dX9_share_32 : decode cX9_share 32 = .ok (.istore 4, 2) := by decide +kernel
theorem dX9_share_34 : decode cX9_share 34 = .ok (.iload 4, 2) := by decide +kernel
theorem dX9_share_36 : decode cX9_share 36 = .ok (.iconst 1, 1) := by decide +kernel
theorem dX9_share_37 : decode cX9_share 37 = .ok (.iload_n 3, 1) := by decide +kernel
theorem dX9_share_38 : decode cX9_share 38 = .ok (.ishl, 1) := by decide +kernel
theorem dX9_share_39 : decode cX9_share 39 = .ok (.if_icmp .ge 22, 3) := by decide +kernel
theorem dX9_share_42 : decode cX9_share 42 = .ok (.aload_n 0, 1) := by decide +kernel
theorem dX9_share_43 : decode cX9_share 43 = .ok (.getfield 64, 3) := by decide +kernel
theorem dX9_share_46 : decode cX9_share 46 = .ok (.iload 4, 2) := by decide +kernel
theorem dX9_share_48 : decode cX9_share 48 = .ok (.aload_n 0, 1) := by decide +kernel
theorem dX9_share_49 : decode cX9_share 49 = .ok (.iload 4, 2) := by decide +kernel
theorem dX9_share_51 : decode cX9_share 51 = .ok (.invokevirtual 395, 3) := by decide +kernel
theorem dX9_share_54 : decode cX9_share 54 = .ok (.iastore, 1) := by decide +kernel
theorem dX9_share_55 : decode cX9_share 55 = .ok (.iinc 4 1, 3) := by decide +kernel
theorem dX9_share_58 : decode cX9_share 58 = .ok (.goto (-24), 3) := by decide +kernel
theorem dX9_share_61 : decode cX9_share 61 = .ok (.lconst 0, 1) := by decide +kernel
theorem dX9_share_62 : decode cX9_share 62 = .ok (.lstore 4, 2) := by decide +kernel
theorem dX9_share_64 : decode cX9_share 64 = .ok (.iconst 0, 1) := by decide +kernel
theorem dX9_share_65 : decode cX9_share 65 = .ok (.istore 6, 2) := by decide +kernel
theorem dX9_share_67 : decode cX9_share 67 = .ok (.iload 6, 2) := by decide +kernel
theorem dX9_share_69 : decode cX9_share 69 = .ok (.iconst 1, 1) := by decide +kernel
theorem dX9_share_70 : decode cX9_share 70 = .ok (.iload_n 3, 1) := by decide +kernel
theorem dX9_share_71 : decode cX9_share 71 = .ok (.ishl, 1) := by decide +kernel
theorem dX9_share_72 : decode cX9_share 72 = .ok (.if_icmp .ge 67, 3) := by decide +kernel
theorem dX9_share_75 : decode cX9_share 75 = .ok (.iload 6, 2) := by decide +kernel
theorem dX9_share_77 : decode cX9_share 77 = .ok (.iload_n 1, 1) := by decide +kernel
theorem dX9_share_78 : decode cX9_share 78 = .ok (.invokestatic 244, 3) := by decide +kernel
theorem dX9_share_81 : decode cX9_share 81 = .ok (.ifCond .ne 52, 3) := by decide +kernel
theorem dX9_share_84 : decode cX9_share 84 = .ok (.lload 4, 2) := by decide +kernel
theorem dX9_share_86 : decode cX9_share 86 = .ok (.iload 6, 2) := by decide +kernel
theorem dX9_share_88 : decode cX9_share 88 = .ok (.invokestatic 406, 3) := by decide +kernel
theorem dX9_share_91 : decode cX9_share 91 = .ok (.invokestatic 409, 3) := by decide +kernel
theorem dX9_share_94 : decode cX9_share 94 = .ok (.i2l, 1) := by decide +kernel
theorem dX9_share_95 : decode cX9_share 95 = .ok (.iload_n 3, 1) := by decide +kernel
theorem dX9_share_96 : decode cX9_share 96 = .ok (.iconst 1, 1) := by decide +kernel
theorem dX9_share_97 : decode cX9_share 97 = .ok (.isub, 1) := by decide +kernel
theorem dX9_share_98 : decode cX9_share 98 = .ok (.iload 6, 2) := by decide +kernel
theorem dX9_share_100 : decode cX9_share 100 = .ok (.invokestatic 406, 3) := by decide +kernel
theorem dX9_share_103 : decode cX9_share 103 = .ok (.isub, 1) := by decide +kernel
theorem dX9_share_104 : decode cX9_share 104 = .ok (.invokestatic 409, 3) := by decide +kernel
theorem dX9_share_107 : decode cX9_share 107 = .ok (.i2l, 1) := by decide +kernel
theorem dX9_share_108 : decode cX9_share 108 = .ok (.lmul, 1) := by decide +kernel
theorem dX9_share_109 : decode cX9_share 109 = .ok (.aload_n 0, 1) := by decide +kernel
theorem dX9_share_110 : decode cX9_share 110 = .ok (.getfield 64, 3) := by decide +kernel
theorem dX9_share_113 : decode cX9_share 113 = .ok (.iload 6, 2) := by decide +kernel
theorem dX9_share_115 : decode cX9_share 115 = .ok (.iconst 1, 1) := by decide +kernel
theorem dX9_share_116 : decode cX9_share 116 = .ok (.iload_n 1, 1) := by decide +kernel
theorem dX9_share_117 : decode cX9_share 117 = .ok (.ishl, 1) := by decide +kernel
theorem dX9_share_118 : decode cX9_share 118 = .ok (.ior, 1) := by decide +kernel
theorem dX9_share_119 : decode cX9_share 119 = .ok (.iaload, 1) := by decide +kernel
theorem dX9_share_120 : decode cX9_share 120 = .ok (.aload_n 0, 1) := by decide +kernel
theorem dX9_share_121 : decode cX9_share 121 = .ok (.getfield 64, 3) := by decide +kernel
theorem dX9_share_124 : decode cX9_share 124 = .ok (.iload 6, 2) := by decide +kernel
theorem dX9_share_126 : decode cX9_share 126 = .ok (.iaload, 1) := by decide +kernel
theorem dX9_share_127 : decode cX9_share 127 = .ok (.isub, 1) := by decide +kernel
theorem dX9_share_128 : decode cX9_share 128 = .ok (.i2l, 1) := by decide +kernel
theorem dX9_share_129 : decode cX9_share 129 = .ok (.lmul, 1) := by decide +kernel
theorem dX9_share_130 : decode cX9_share 130 = .ok (.ladd, 1) := by decide +kernel
theorem dX9_share_131 : decode cX9_share 131 = .ok (.lstore 4, 2) := by decide +kernel
theorem dX9_share_133 : decode cX9_share 133 = .ok (.iinc 6 1, 3) := by decide +kernel
theorem dX9_share_136 : decode cX9_share 136 = .ok (.goto (-69), 3) := by decide +kernel
theorem dX9_share_139 : decode cX9_share 139 = .ok (.lload 4, 2) := by decide +kernel
theorem dX9_share_141 : decode cX9_share 141 = .ok (.iload_n 3, 1) := by decide +kernel
theorem dX9_share_142 : decode cX9_share 142 = .ok (.invokestatic 409, 3) := by decide +kernel
theorem dX9_share_145 : decode cX9_share 145 = .ok (.i2l, 1) := by decide +kernel
theorem dX9_share_146 : decode cX9_share 146 = .ok (.iload_n 2, 1) := by decide +kernel
theorem dX9_share_147 : decode cX9_share 147 = .ok (.invokestatic 412, 3) := by decide +kernel
theorem dX9_share_150 : decode cX9_share 150 = .ok (.l2i, 1) := by decide +kernel
theorem dX9_share_151 : decode cX9_share 151 = .ok (.ireturn, 1) := by decide +kernel
theorem dX9_soon_0 : decode cX9_soon 0 = .ok (.aload_n 0, 1) := by decide +kernel
theorem dX9_soon_1 : decode cX9_soon 1 = .ok (.iload_n 1, 1) := by decide +kernel
theorem dX9_soon_2 : decode cX9_soon 2 = .ok (.invokevirtual 272, 3) := by decide +kernel
theorem dX9_soon_5 : decode cX9_soon 5 = .ok (.ifCond .ne 6, 3) := by decide +kernel
theorem dX9_soon_8 : decode cX9_soon 8 = .ok (.bipush (-2), 2) := by decide +kernel
theorem dX9_soon_10 : decode cX9_soon 10 = .ok (.ireturn, 1) := by decide +kernel
theorem dX9_soon_11 : decode cX9_soon 11 = .ok (.aload_n 0, 1) := by decide +kernel
theorem dX9_soon_12 : decode cX9_soon 12 = .ok (.iload_n 1, 1) := by decide +kernel
theorem dX9_soon_13 : decode cX9_soon 13 = .ok (.invokevirtual 311, 3) := by decide +kernel
theorem dX9_soon_16 : decode cX9_soon 16 = .ok (.ifCond .ne 5, 3) := by decide +kernel
theorem dX9_soon_19 : decode cX9_soon 19 = .ok (.iconst (-1), 1) := by decide +kernel
theorem dX9_soon_20 : decode cX9_soon 20 = .ok (.ireturn, 1) := by decide +kernel
theorem dX9_soon_21 : decode cX9_soon 21 = .ok (.aload_n 0, 1) := by decide +kernel
theorem dX9_soon_22 : decode cX9_soon 22 = .ok (.iload_n 1, 1) := by decide +kernel
theorem dX9_soon_23 : decode cX9_soon 23 = .ok (.bipush 18, 2) := by decide +kernel
theorem dX9_soon_25 : decode cX9_soon 25 = .ok (.invokevirtual 225, 3) := by decide +kernel
theorem dX9_soon_28 : decode cX9_soon 28 = .ok (.iconst 0, 1) := by decide +kernel
theorem dX9_soon_29 : decode cX9_soon 29 = .ok (.istore_n 2, 1) := by decide +kernel
theorem dX9_soon_30 : decode cX9_soon 30 = .ok (.iload_n 2, 1) := by decide +kernel
theorem dX9_soon_31 : decode cX9_soon 31 = .ok (.aload_n 0, 1) := by decide +kernel
theorem dX9_soon_32 : decode cX9_soon 32 = .ok (.getfield 308, 3) := by decide +kernel
theorem dX9_soon_35 : decode cX9_soon 35 = .ok (.aload_n 0, 1) := by decide +kernel
theorem dX9_soon_36 : decode cX9_soon 36 = .ok (.getfield 305, 3) := by decide +kernel
theorem dX9_soon_39 : decode cX9_soon 39 = .ok (.iadd, 1) := by decide +kernel
theorem dX9_soon_40 : decode cX9_soon 40 = .ok (.if_icmp .ge 26, 3) := by decide +kernel
theorem dX9_soon_43 : decode cX9_soon 43 = .ok (.aload_n 0, 1) := by decide +kernel
theorem dX9_soon_44 : decode cX9_soon 44 = .ok (.bipush 18, 2) := by decide +kernel
theorem dX9_soon_46 : decode cX9_soon 46 = .ok (.invokevirtual 296, 3) := by decide +kernel
theorem dX9_soon_49 : decode cX9_soon 49 = .ok (.ifCond .eq 5, 3) := by decide +kernel
theorem dX9_soon_52 : decode cX9_soon 52 = .ok (.iload_n 2, 1) := by decide +kernel
theorem dX9_soon_53 : decode cX9_soon 53 = .ok (.ireturn, 1) := by decide +kernel
theorem dX9_soon_54 : decode cX9_soon 54 = .ok (.aload_n 0, 1) := by decide +kernel
theorem dX9_soon_55 : decode cX9_soon 55 = .ok (.bipush 18, 2) := by decide +kernel
theorem dX9_soon_57 : decode cX9_soon 57 = .ok (.invokevirtual 256, 3) := by decide +kernel
theorem dX9_soon_60 : decode cX9_soon 60 = .ok (.iinc 2 1, 3) := by decide +kernel
theorem dX9_soon_63 : decode cX9_soon 63 = .ok (.goto (-33), 3) := by decide +kernel
theorem dX9_soon_66 : decode cX9_soon 66 = .ok (.iconst (-1), 1) := by decide +kernel
theorem dX9_soon_67 : decode cX9_soon 67 = .ok (.ireturn, 1) := by decide +kernel
theorem dX9_sorts_0 : decode cX9_sorts 0 = .ok (.aload_n 0, 1) := by decide +kernel
theorem dX9_sorts_1 : decode cX9_sorts 1 = .ok (.iload_n 1, 1) := by decide +kernel
theorem dX9_sorts_2 : decode cX9_sorts 2 = .ok (.invokevirtual 272, 3) := by decide +kernel
theorem dX9_sorts_5 : decode cX9_sorts 5 = .ok (.ifCond .ne 6, 3) := by decide +kernel
theorem dX9_sorts_8 : decode cX9_sorts 8 = .ok (.bipush (-2), 2) := by decide +kernel
theorem dX9_sorts_10 : decode cX9_sorts 10 = .ok (.ireturn, 1) := by decide +kernel
theorem dX9_sorts_11 : decode cX9_sorts 11 = .ok (.iconst 0, 1) := by decide +kernel
theorem dX9_sorts_12 : decode cX9_sorts 12 = .ok (.istore_n 2, 1) := by decide +kernel
theorem dX9_sorts_13 : decode cX9_sorts 13 = .ok (.iconst 0, 1) := by decide +kernel
theorem dX9_sorts_14 : decode cX9_sorts 14 = .ok (.istore_n 3, 1) := by decide +kernel
theorem dX9_sorts_15 : decode cX9_sorts 15 = .ok (.iload_n 3, 1) := by decide +kernel
theorem dX9_sorts_16 : decode cX9_sorts 16 = .ok (.aload_n 0, 1) := by decide +kernel
theorem dX9_sorts_17 : decode cX9_sorts 17 = .ok (.iload_n 1, 1) := by decide +kernel
theorem dX9_sorts_18 : decode cX9_sorts 18 = .ok (.invokevirtual 207, 3) := by decide +kernel
theorem dX9_sorts_21 : decode cX9_sorts 21 = .ok (.if_icmp .ge 38, 3) := by decide +kernel
theorem dX9_sorts_24 : decode cX9_sorts 24 = .ok (.iload_n 2, 1) := by decide +kernel
theorem dX9_sorts_25 : decode cX9_sorts 25 = .ok (.iload_n 3, 1) := by decide +kernel
theorem dX9_sorts_26 : decode cX9_sorts 26 = .ok (.ifCond .eq 20, 3) := by decide +kernel
theorem dX9_sorts_29 : decode cX9_sorts 29 = .ok (.aload_n 0, 1) := by decide +kernel
theorem dX9_sorts_30 : decode cX9_sorts 30 = .ok (.iload_n 1, 1) := by decide +kernel
theorem dX9_sorts_31 : decode cX9_sorts 31 = .ok (.iload_n 3, 1) := by decide +kernel
theorem dX9_sorts_32 : decode cX9_sorts 32 = .ok (.invokevirtual 210, 3) := by decide +kernel
theorem dX9_sorts_35 : decode cX9_sorts 35 = .ok (.aload_n 0, 1) := by decide +kernel
theorem dX9_sorts_36 : decode cX9_sorts 36 = .ok (.iload_n 1, 1) := by decide +kernel
theorem dX9_sorts_37 : decode cX9_sorts 37 = .ok (.iload_n 3, 1) := by decide +kernel
theorem dX9_sorts_38 : decode cX9_sorts 38 = .ok (.iconst 1, 1) := by decide +kernel
theorem dX9_sorts_39 : decode cX9_sorts 39 = .ok (.isub, 1) := by decide +kernel
theorem dX9_sorts_40 : decode cX9_sorts 40 = .ok (.invokevirtual 210, 3) := by decide +kernel
theorem dX9_sorts_43 : decode cX9_sorts 43 = .ok (.if_icmp .eq 7, 3) := by decide +kernel
theorem dX9_sorts_46 : decode cX9_sorts 46 = .ok (.iconst 1, 1) := by decide +kernel
theorem dX9_sorts_47 : decode cX9_sorts 47 = .ok (.goto 4, 3) := by decide +kernel
theorem dX9_sorts_50 : decode cX9_sorts 50 = .ok (.iconst 0, 1) := by decide +kernel
theorem dX9_sorts_51 : decode cX9_sorts 51 = .ok (.iadd, 1) := by decide +kernel
theorem dX9_sorts_52 : decode cX9_sorts 52 = .ok (.istore_n 2, 1) := by decide +kernel
theorem dX9_sorts_53 : decode cX9_sorts 53 = .ok (.iinc 3 1, 3) := by decide +kernel
theorem dX9_sorts_56 : decode cX9_sorts 56 = .ok (.goto (-41), 3) := by decide +kernel
theorem dX9_sorts_59 : decode cX9_sorts 59 = .ok (.iload_n 2, 1) := by decide +kernel
theorem dX9_sorts_60 : decode cX9_sorts 60 = .ok (.ireturn, 1) := by decide +kernel
theorem dX9_spare_0 : decode cX9_spare 0 = .ok (.aload_n 0, 1) := by decide +kernel
theorem dX9_spare_1 : decode cX9_spare 1 = .ok (.invokevirtual 265, 3) := by decide +kernel
theorem dX9_spare_4 : decode cX9_spare 4 = .ok (.ifCond .ne 6, 3) := by decide +kernel
theorem dX9_spare_7 : decode cX9_spare 7 = .ok (.bipush (-2), 2) := by decide +kernel
theorem dX9_spare_9 : decode cX9_spare 9 = .ok (.ireturn, 1) := by decide +kernel
theorem dX9_spare_10 : decode cX9_spare 10 = .ok (.aload_n 0, 1) := by decide +kernel
theorem dX9_spare_11 : decode cX9_spare 11 = .ok (.invokevirtual 361, 3) := by decide +kernel
theorem dX9_spare_14 : decode cX9_spare 14 = .ok (.istore_n 1, 1) := by decide +kernel
theorem dX9_spare_15 : decode cX9_spare 15 = .ok (.iconst (-1), 1) := by decide +kernel
theorem dX9_spare_16 : decode cX9_spare 16 = .ok (.istore_n 2, 1) := by decide +kernel
theorem dX9_spare_17 : decode cX9_spare 17 = .ok (.iconst 0, 1) := by decide +kernel
theorem dX9_spare_18 : decode cX9_spare 18 = .ok (.istore_n 3, 1) := by decide +kernel
theorem dX9_spare_19 : decode cX9_spare 19 = .ok (.iload_n 3, 1) := by decide +kernel
theorem dX9_spare_20 : decode cX9_spare 20 = .ok (.aload_n 0, 1) := by decide +kernel
theorem dX9_spare_21 : decode cX9_spare 21 = .ok (.invokevirtual 97, 3) := by decide +kernel
theorem dX9_spare_24 : decode cX9_spare 24 = .ok (.if_icmp .ge 43, 3) := by decide +kernel
theorem dX9_spare_27 : decode cX9_spare 27 = .ok (.aload_n 0, 1) := by decide +kernel
theorem dX9_spare_28 : decode cX9_spare 28 = .ok (.bipush 63, 2) := by decide +kernel
theorem dX9_spare_30 : decode cX9_spare 30 = .ok (.iconst 1, 1) := by decide +kernel
theorem dX9_spare_31 : decode cX9_spare 31 = .ok (.iload_n 3, 1) := by decide +kernel
theorem dX9_spare_32 : decode cX9_spare 32 = .ok (.ishl, 1) := by decide +kernel
theorem dX9_spare_33 : decode cX9_spare 33 = .ok (.iconst (-1), 1) := by decide +kernel
theorem dX9_spare_34 : decode cX9_spare 34 = .ok (.ixor, 1) := by decide +kernel
theorem dX9_spare_35 : decode cX9_spare 35 = .ok (.iand, 1) := by decide +kernel
theorem dX9_spare_36 : decode cX9_spare 36 = .ok (.putfield 238, 3) := by decide +kernel
theorem dX9_spare_39 : decode cX9_spare 39 = .ok (.aload_n 0, 1) := by decide +kernel
theorem dX9_spare_40 : decode cX9_spare 40 = .ok (.invokevirtual 262, 3) := by decide +kernel
theorem dX9_spare_43 : decode cX9_spare 43 = .ok (.aload_n 0, 1) := by decide +kernel
theorem dX9_spare_44 : decode cX9_spare 44 = .ok (.invokevirtual 361, 3) := by decide +kernel
theorem dX9_spare_47 : decode cX9_spare 47 = .ok (.iload_n 1, 1) := by decide +kernel
theorem dX9_spare_48 : decode cX9_spare 48 = .ok (.if_icmp .gt 6, 3) := by decide +kernel
theorem dX9_spare_51 : decode cX9_spare 51 = .ok (.goto 10, 3) := by decide +kernel
theorem dX9_spare_54 : decode cX9_spare 54 = .ok (.aload_n 0, 1) := by decide +kernel
theorem dX9_spare_55 : decode cX9_spare 55 = .ok (.invokevirtual 361, 3) := by decide +kernel
theorem dX9_spare_58 : decode cX9_spare 58 = .ok (.istore_n 1, 1) := by decide +kernel
theorem dX9_spare_59 : decode cX9_spare 59 = .ok (.iload_n 3, 1) := by decide +kernel
theorem dX9_spare_60 : decode cX9_spare 60 = .ok (.istore_n 2, 1) := by decide +kernel
theorem dX9_spare_61 : decode cX9_spare 61 = .ok (.iinc 3 1, 3) := by decide +kernel
theorem dX9_spare_64 : decode cX9_spare 64 = .ok (.goto (-45), 3) := by decide +kernel
theorem dX9_spare_67 : decode cX9_spare 67 = .ok (.iload_n 2, 1) := by decide +kernel
theorem dX9_spare_68 : decode cX9_spare 68 = .ok (.ireturn, 1) := by decide +kernel
theorem dX9_spread_0 : decode cX9_spread 0 = .ok (.aload_n 0, 1) := by decide +kernel
theorem dX9_spread_1 : decode cX9_spread 1 = .ok (.iload_n 1, 1) := by decide +kernel
theorem dX9_spread_2 : decode cX9_spread 2 = .ok (.invokevirtual 272, 3) := by decide +kernel
theorem dX9_spread_5 : decode cX9_spread 5 = .ok (.ifCond .ne 6, 3) := by decide +kernel
theorem dX9_spread_8 : decode cX9_spread 8 = .ok (.bipush (-2), 2) := by decide +kernel
theorem dX9_spread_10 : decode cX9_spread 10 = .ok (.ireturn, 1) := by decide +kernel
theorem dX9_spread_11 : decode cX9_spread 11 = .ok (.aload_n 0, 1) := by decide +kernel
theorem dX9_spread_12 : decode cX9_spread 12 = .ok (.iload_n 1, 1) := by decide +kernel
theorem dX9_spread_13 : decode cX9_spread 13 = .ok (.invokevirtual 207, 3) := by decide +kernel
theorem dX9_spread_16 : decode cX9_spread 16 = .ok (.ifCond .ne 7, 3) := by decide +kernel
theorem dX9_spread_19 : decode cX9_spread 19 = .ok (.iconst 0, 1) := by decide +kernel
theorem dX9_spread_20 : decode cX9_spread 20 = .ok (.goto 22, 3) := by decide +kernel
theorem dX9_spread_23 : decode cX9_spread 23 = .ok (.aload_n 0, 1) := by decide +kernel
theorem dX9_spread_24 : decode cX9_spread 24 = .ok (.iload_n 1, 1) := by decide +kernel
theorem dX9_spread_25 : decode cX9_spread 25 = .ok (.iconst 0, 1) := by decide +kernel
theorem dX9_spread_26 : decode cX9_spread 26 = .ok (.invokevirtual 210, 3) := by decide +kernel
theorem dX9_spread_29 : decode cX9_spread 29 = .ok (.aload_n 0, 1) := by decide +kernel
theorem dX9_spread_30 : decode cX9_spread 30 = .ok (.iload_n 1, 1) := by decide +kernel
theorem dX9_spread_31 : decode cX9_spread 31 = .ok (.aload_n 0, 1) := by decide +kernel
theorem dX9_spread_32 : decode cX9_spread 32 = .ok (.iload_n 1, 1) := by decide +kernel
theorem dX9_spread_33 : decode cX9_spread 33 = .ok (.invokevirtual 207, 3) := by decide +kernel
theorem dX9_spread_36 : decode cX9_spread 36 = .ok (.iconst 1, 1) := by decide +kernel
theorem dX9_spread_37 : decode cX9_spread 37 = .ok (.isub, 1) := by decide +kernel
theorem dX9_spread_38 : decode cX9_spread 38 = .ok (.invokevirtual 210, 3) := by decide +kernel
theorem dX9_spread_41 : decode cX9_spread 41 = .ok (.isub, 1) := by decide +kernel
theorem dX9_spread_42 : decode cX9_spread 42 = .ok (.ireturn, 1) := by decide +kernel
theorem dX9_square_0 : decode cX9_square 0 = .ok (.aload_n 0, 1) := by decide +kernel
theorem dX9_square_1 : decode cX9_square 1 = .ok (.iload_n 1, 1) := by decide +kernel
theorem dX9_square_2 : decode cX9_square 2 = .ok (.invokevirtual 272, 3) := by decide +kernel
theorem dX9_square_5 : decode cX9_square 5 = .ok (.ifCond .ne 6, 3) := by decide +kernel
theorem dX9_square_8 : decode cX9_square 8 = .ok (.bipush (-2), 2) := by decide +kernel
theorem dX9_square_10 : decode cX9_square 10 = .ok (.ireturn, 1) := by decide +kernel
theorem dX9_square_11 : decode cX9_square 11 = .ok (.iconst 0, 1) := by decide +kernel
theorem dX9_square_12 : decode cX9_square 12 = .ok (.istore_n 2, 1) := by decide +kernel
theorem dX9_square_13 : decode cX9_square 13 = .ok (.iload_n 2, 1) := by decide +kernel
theorem dX9_square_14 : decode cX9_square 14 = .ok (.aload_n 0, 1) := by decide +kernel
theorem dX9_square_15 : decode cX9_square 15 = .ok (.iload_n 1, 1) := by decide +kernel
theorem dX9_square_16 : decode cX9_square 16 = .ok (.invokevirtual 207, 3) := by decide +kernel
theorem dX9_square_19 : decode cX9_square 19 = .ok (.if_icmp .ge 19, 3) := by decide +kernel
theorem dX9_square_22 : decode cX9_square 22 = .ok (.aload_n 0, 1) := by decide +kernel
theorem dX9_square_23 : decode cX9_square 23 = .ok (.iload_n 1, 1) := by decide +kernel
theorem dX9_square_24 : decode cX9_square 24 = .ok (.iload_n 2, 1) := by decide +kernel
theorem dX9_square_25 : decode cX9_square 25 = .ok (.invokevirtual 210, 3) := by decide +kernel
theorem dX9_square_28 : decode cX9_square 28 = .ok (.iload_n 2, 1) := by decide +kernel
theorem dX9_square_29 : decode cX9_square 29 = .ok (.if_icmp .le 9, 3) := by decide +kernel
theorem dX9_square_32 : decode cX9_square 32 = .ok (.iinc 2 1, 3) := by decide +kernel
theorem dX9_square_35 : decode cX9_square 35 = .ok (.goto (-22), 3) := by decide +kernel
theorem dX9_square_38 : decode cX9_square 38 = .ok (.iload_n 2, 1) := by decide +kernel
theorem dX9_square_39 : decode cX9_square 39 = .ok (.ireturn, 1) := by decide +kernel
theorem dX9_stair_0 : decode cX9_stair 0 = .ok (.aload_n 0, 1) := by decide +kernel
theorem dX9_stair_1 : decode cX9_stair 1 = .ok (.iload_n 1, 1) := by decide +kernel
theorem dX9_stair_2 : decode cX9_stair 2 = .ok (.invokevirtual 272, 3) := by decide +kernel
theorem dX9_stair_5 : decode cX9_stair 5 = .ok (.ifCond .ne 6, 3) := by decide +kernel
theorem dX9_stair_8 : decode cX9_stair 8 = .ok (.bipush (-2), 2) := by decide +kernel
theorem dX9_stair_10 : decode cX9_stair 10 = .ok (.ireturn, 1) := by decide +kernel
theorem dX9_stair_11 : decode cX9_stair 11 = .ok (.aload_n 0, 1) := by decide +kernel
theorem dX9_stair_12 : decode cX9_stair 12 = .ok (.iload_n 1, 1) := by decide +kernel
theorem dX9_stair_13 : decode cX9_stair 13 = .ok (.invokevirtual 296, 3) := by decide +kernel
theorem dX9_stair_16 : decode cX9_stair 16 = .ok (.ifCond .eq 7, 3) := by decide +kernel
theorem dX9_stair_19 : decode cX9_stair 19 = .ok (.iconst 1, 1) := by decide +kernel
theorem dX9_stair_20 : decode cX9_stair 20 = .ok (.goto 4, 3) := by decide +kernel
theorem dX9_stair_23 : decode cX9_stair 23 = .ok (.iconst 0, 1) := by decide +kernel
theorem dX9_stair_24 : decode cX9_stair 24 = .ok (.ireturn, 1) := by decide +kernel
theorem dX9_stairs_0 : decode cX9_stairs 0 = .ok (.aload_n 0, 1) := by decide +kernel
theorem dX9_stairs_1 : decode cX9_stairs 1 = .ok (.invokevirtual 265, 3) := by decide +kernel
theorem dX9_stairs_4 : decode cX9_stairs 4 = .ok (.ifCond .ne 6, 3) := by decide +kernel
theorem dX9_stairs_7 : decode cX9_stairs 7 = .ok (.bipush (-2), 2) := by decide +kernel
theorem dX9_stairs_9 : decode cX9_stairs 9 = .ok (.ireturn, 1) := by decide +kernel
theorem dX9_stairs_10 : decode cX9_stairs 10 = .ok (.iconst 0, 1) := by decide +kernel
theorem dX9_stairs_11 : decode cX9_stairs 11 = .ok (.istore_n 1, 1) := by decide +kernel
theorem dX9_stairs_12 : decode cX9_stairs 12 = .ok (.iload_n 1, 1) := by decide +kernel
theorem dX9_stairs_13 : decode cX9_stairs 13 = .ok (.aload_n 0, 1) := by decide +kernel
theorem dX9_stairs_14 : decode cX9_stairs 14 = .ok (.invokevirtual 93, 3) := by decide +kernel
theorem dX9_stairs_17 : decode cX9_stairs 17 = .ok (.if_icmp .gt 19, 3) := by decide +kernel
theorem dX9_stairs_20 : decode cX9_stairs 20 = .ok (.aload_n 0, 1) := by decide +kernel
theorem dX9_stairs_21 : decode cX9_stairs 21 = .ok (.iload_n 1, 1) := by decide +kernel
theorem dX9_stairs_22 : decode cX9_stairs 22 = .ok (.invokevirtual 296, 3) := by decide +kernel
theorem dX9_stairs_25 : decode cX9_stairs 25 = .ok (.ifCond .eq 5, 3) := by decide +kernel
theorem dX9_stairs_28 : decode cX9_stairs 28 = .ok (.iload_n 1, 1) := by decide +kernel
theorem dX9_stairs_29 : decode cX9_stairs 29 = .ok (.ireturn, 1) := by decide +kernel
theorem dX9_stairs_30 : decode cX9_stairs 30 = .ok (.iinc 1 1, 3) := by decide +kernel
theorem dX9_stairs_33 : decode cX9_stairs 33 = .ok (.goto (-21), 3) := by decide +kernel
theorem dX9_stairs_36 : decode cX9_stairs 36 = .ok (.iconst (-1), 1) := by decide +kernel
theorem dX9_stairs_37 : decode cX9_stairs 37 = .ok (.ireturn, 1) := by decide +kernel
theorem dX9_step_0 : decode cX9_step 0 = .ok (.aload_n 0, 1) := by decide +kernel
theorem dX9_step_1 : decode cX9_step 1 = .ok (.iload_n 1, 1) := by decide +kernel
theorem dX9_step_2 : decode cX9_step 2 = .ok (.invokevirtual 207, 3) := by decide +kernel
theorem dX9_step_5 : decode cX9_step 5 = .ok (.istore_n 2, 1) := by decide +kernel
theorem dX9_step_6 : decode cX9_step 6 = .ok (.aload_n 0, 1) := by decide +kernel
theorem dX9_step_7 : decode cX9_step 7 = .ok (.iconst 0, 1) := by decide +kernel
theorem dX9_step_8 : decode cX9_step 8 = .ok (.putfield 216, 3) := by decide +kernel
theorem dX9_step_11 : decode cX9_step 11 = .ok (.aload_n 0, 1) := by decide +kernel
theorem dX9_step_12 : decode cX9_step 12 = .ok (.iconst 0, 1) := by decide +kernel
theorem dX9_step_13 : decode cX9_step 13 = .ok (.putfield 219, 3) := by decide +kernel
theorem dX9_step_16 : decode cX9_step 16 = .ok (.iconst 0, 1) := by decide +kernel
theorem dX9_step_17 : decode cX9_step 17 = .ok (.istore_n 3, 1) := by decide +kernel
theorem dX9_step_18 : decode cX9_step 18 = .ok (.iload_n 3, 1) := by decide +kernel
theorem dX9_step_19 : decode cX9_step 19 = .ok (.iload_n 2, 1) := by decide +kernel
theorem dX9_step_20 : decode cX9_step 20 = .ok (.if_icmp .ge 24, 3) := by decide +kernel
theorem dX9_step_23 : decode cX9_step 23 = .ok (.aload_n 0, 1) := by decide +kernel
theorem dX9_step_24 : decode cX9_step 24 = .ok (.dup, 1) := by decide +kernel
theorem dX9_step_25 : decode cX9_step 25 = .ok (.getfield 216, 3) := by decide +kernel
theorem dX9_step_28 : decode cX9_step 28 = .ok (.aload_n 0, 1) := by decide +kernel
theorem dX9_step_29 : decode cX9_step 29 = .ok (.iload_n 1, 1) := by decide +kernel
theorem dX9_step_30 : decode cX9_step 30 = .ok (.iload_n 3, 1) := by decide +kernel
theorem dX9_step_31 : decode cX9_step 31 = .ok (.invokevirtual 222, 3) := by decide +kernel
theorem dX9_step_34 : decode cX9_step 34 = .ok (.iadd, 1) := by decide +kernel
theorem dX9_step_35 : decode cX9_step 35 = .ok (.putfield 216, 3) := by decide +kernel
theorem dX9_step_38 : decode cX9_step 38 = .ok (.iinc 3 1, 3) := by decide +kernel
theorem dX9_step_41 : decode cX9_step 41 = .ok (.goto (-23), 3) := by decide +kernel
theorem dX9_step_44 : decode cX9_step 44 = .ok (.aload_n 0, 1) := by decide +kernel
theorem dX9_step_45 : decode cX9_step 45 = .ok (.iload_n 1, 1) := by decide +kernel
theorem dX9_step_46 : decode cX9_step 46 = .ok (.bipush 20, 2) := by decide +kernel
theorem dX9_step_48 : decode cX9_step 48 = .ok (.invokevirtual 225, 3) := by decide +kernel
theorem dX9_step_51 : decode cX9_step 51 = .ok (.aload_n 0, 1) := by decide +kernel
theorem dX9_step_52 : decode cX9_step 52 = .ok (.iload_n 1, 1) := by decide +kernel
theorem dX9_step_53 : decode cX9_step 53 = .ok (.invokevirtual 229, 3) := by decide +kernel
theorem dX9_step_56 : decode cX9_step 56 = .ok (.iconst 0, 1) := by decide +kernel
theorem dX9_step_57 : decode cX9_step 57 = .ok (.istore_n 3, 1) := by decide +kernel
theorem dX9_step_58 : decode cX9_step 58 = .ok (.iload_n 3, 1) := by decide +kernel
theorem dX9_step_59 : decode cX9_step 59 = .ok (.iload_n 2, 1) := by decide +kernel
theorem dX9_step_60 : decode cX9_step 60 = .ok (.if_icmp .ge 52, 3) := by decide +kernel
theorem dX9_step_63 : decode cX9_step 63 = .ok (.aload_n 0, 1) := by decide +kernel
theorem dX9_step_64 : decode cX9_step 64 = .ok (.bipush 20, 2) := by decide +kernel
theorem dX9_step_66 : decode cX9_step 66 = .ok (.iload_n 3, 1) := by decide +kernel
theorem dX9_step_67 : decode cX9_step 67 = .ok (.invokevirtual 210, 3) := by decide +kernel
theorem dX9_step_70 : decode cX9_step 70 = .ok (.aload_n 0, 1) := by decide +kernel
theorem dX9_step_71 : decode cX9_step 71 = .ok (.bipush 20, 2) := by decide +kernel
theorem dX9_step_73 : decode cX9_step 73 = .ok (.iload_n 3, 1) := by decide +kernel
theorem dX9_step_74 : decode cX9_step 74 = .ok (.invokevirtual 222, 3) := by decide +kernel
theorem dX9_step_77 : decode cX9_step 77 = .ok (.isub, 1) := by decide +kernel
theorem dX9_step_78 : decode cX9_step 78 = .ok (.istore 4, 2) := by decide +kernel
theorem dX9_step_80 : decode cX9_step 80 = .ok (.aload_n 0, 1) := by decide +kernel
theorem dX9_step_81 : decode cX9_step 81 = .ok (.dup, 1) := by decide +kernel
theorem dX9_step_82 : decode cX9_step 82 = .ok (.getfield 219, 3) := by decide +kernel
theorem dX9_step_85 : decode cX9_step 85 = .ok (.iload 4, 2) := by decide +kernel
theorem dX9_step_87 : decode cX9_step 87 = .ok (.ifCond .ne 7, 3) := by decide +kernel
theorem dX9_step_90 : decode cX9_step 90 = .ok (.iconst 1, 1) := by decide +kernel
theorem dX9_step_91 : decode cX9_step 91 = .ok (.goto 4, 3) := by decide +kernel
theorem dX9_step_94 : decode cX9_step 94 = .ok (.iconst 0, 1) := by decide +kernel
theorem dX9_step_95 : decode cX9_step 95 = .ok (.iadd, 1) := by decide +kernel
theorem dX9_step_96 : decode cX9_step 96 = .ok (.putfield 219, 3) := by decide +kernel
theorem dX9_step_99 : decode cX9_step 99 = .ok (.aload_n 0, 1) := by decide +kernel
theorem dX9_step_100 : decode cX9_step 100 = .ok (.iload_n 1, 1) := by decide +kernel
theorem dX9_step_101 : decode cX9_step 101 = .ok (.iload 4, 2) := by decide +kernel
theorem dX9_step_103 : decode cX9_step 103 = .ok (.invokevirtual 232, 3) := by decide +kernel
theorem dX9_step_106 : decode cX9_step 106 = .ok (.iinc 3 1, 3) := by decide +kernel
theorem dX9_step_109 : decode cX9_step 109 = .ok (.goto (-51), 3) := by decide +kernel
theorem dX9_step_112 : decode cX9_step 112 = .ok (.aload_n 0, 1) := by decide +kernel
theorem dX9_step_113 : decode cX9_step 113 = .ok (.iload_n 1, 1) := by decide +kernel
theorem dX9_step_114 : decode cX9_step 114 = .ok (.aload_n 0, 1) := by decide +kernel
theorem dX9_step_115 : decode cX9_step 115 = .ok (.getfield 216, 3) := by decide +kernel
theorem dX9_step_118 : decode cX9_step 118 = .ok (.invokevirtual 232, 3) := by decide +kernel
theorem dX9_step_121 : decode cX9_step 121 = .ok (.return_, 1) := by decide +kernel
theorem dX9_still_0 : decode cX9_still 0 = .ok (.aload_n 0, 1) := by decide +kernel
theorem dX9_still_1 : decode cX9_still 1 = .ok (.invokevirtual 265, 3) := by decide +kernel
theorem dX9_still_4 : decode cX9_still 4 = .ok (.ifCond .ne 6, 3) := by decide +kernel
theorem dX9_still_7 : decode cX9_still 7 = .ok (.bipush (-2), 2) := by decide +kernel
theorem dX9_still_9 : decode cX9_still 9 = .ok (.ireturn, 1) := by decide +kernel
theorem dX9_still_10 : decode cX9_still 10 = .ok (.aload_n 0, 1) := by decide +kernel
theorem dX9_still_11 : decode cX9_still 11 = .ok (.invokevirtual 93, 3) := by decide +kernel
theorem dX9_still_14 : decode cX9_still 14 = .ok (.istore_n 1, 1) := by decide +kernel
theorem dX9_still_15 : decode cX9_still 15 = .ok (.iload_n 1, 1) := by decide +kernel
theorem dX9_still_16 : decode cX9_still 16 = .ok (.ifCond .le 20, 3) := by decide +kernel
theorem dX9_still_19 : decode cX9_still 19 = .ok (.aload_n 0, 1) := by decide +kernel
theorem dX9_still_20 : decode cX9_still 20 = .ok (.iload_n 1, 1) := by decide +kernel
theorem dX9_still_21 : decode cX9_still 21 = .ok (.iconst 1, 1) := by decide +kernel
theorem dX9_still_22 : decode cX9_still 22 = .ok (.isub, 1) := by decide +kernel
theorem dX9_still_23 : decode cX9_still 23 = .ok (.iload_n 1, 1) := by decide +kernel
theorem dX9_still_24 : decode cX9_still 24 = .ok (.invokevirtual 289, 3) := by decide +kernel
theorem dX9_still_27 : decode cX9_still 27 = .ok (.ifCond .eq 9, 3) := by decide +kernel
theorem dX9_still_30 : decode cX9_still 30 = .ok (.iinc 1 (-1), 3) := by decide +kernel
theorem dX9_still_33 : decode cX9_still 33 = .ok (.goto (-18), 3) := by decide +kernel
theorem dX9_still_36 : decode cX9_still 36 = .ok (.iload_n 1, 1) := by decide +kernel
theorem dX9_still_37 : decode cX9_still 37 = .ok (.ireturn, 1) := by decide +kernel
theorem dX9_tail_0 : decode cX9_tail 0 = .ok (.aload_n 0, 1) := by decide +kernel
theorem dX9_tail_1 : decode cX9_tail 1 = .ok (.iload_n 1, 1) := by decide +kernel
theorem dX9_tail_2 : decode cX9_tail 2 = .ok (.invokevirtual 272, 3) := by decide +kernel
theorem dX9_tail_5 : decode cX9_tail 5 = .ok (.ifCond .ne 6, 3) := by decide +kernel
theorem dX9_tail_8 : decode cX9_tail 8 = .ok (.bipush (-2), 2) := by decide +kernel
theorem dX9_tail_10 : decode cX9_tail 10 = .ok (.ireturn, 1) := by decide +kernel
theorem dX9_tail_11 : decode cX9_tail 11 = .ok (.aload_n 0, 1) := by decide +kernel
theorem dX9_tail_12 : decode cX9_tail 12 = .ok (.iload_n 1, 1) := by decide +kernel
theorem dX9_tail_13 : decode cX9_tail 13 = .ok (.invokevirtual 311, 3) := by decide +kernel
theorem dX9_tail_16 : decode cX9_tail 16 = .ok (.ifCond .eq 10, 3) := by decide +kernel
theorem dX9_tail_19 : decode cX9_tail 19 = .ok (.aload_n 0, 1) := by decide +kernel
theorem dX9_tail_20 : decode cX9_tail 20 = .ok (.getfield 308, 3) := by decide +kernel
theorem dX9_tail_23 : decode cX9_tail 23 = .ok (.goto 4, 3) := by decide +kernel
theorem dX9_tail_26 : decode cX9_tail 26 = .ok (.iconst (-1), 1) := by decide +kernel
theorem dX9_tail_27 : decode cX9_tail 27 = .ok (.ireturn, 1) := by decide +kernel
theorem dX9_tailFrom_0 : decode cX9_tailFrom 0 = .ok (.iload_n 1, 1) := by decide +kernel
theorem dX9_tailFrom_1 : decode cX9_tailFrom 1 = .ok (.istore_n 2, 1) := by decide +kernel
theorem dX9_tailFrom_2 : decode cX9_tailFrom 2 = .ok (.iconst 0, 1) := by decide +kernel
theorem dX9_tailFrom_3 : decode cX9_tailFrom 3 = .ok (.istore_n 3, 1) := by decide +kernel
theorem dX9_tailFrom_4 : decode cX9_tailFrom 4 = .ok (.aload_n 0, 1) := by decide +kernel
theorem dX9_tailFrom_5 : decode cX9_tailFrom 5 = .ok (.iload_n 2, 1) := by decide +kernel
theorem dX9_tailFrom_6 : decode cX9_tailFrom 6 = .ok (.invokevirtual 334, 3) := by decide +kernel
theorem dX9_tailFrom_9 : decode cX9_tailFrom 9 = .ok (.ifCond .ne 16, 3) := by decide +kernel
theorem dX9_tailFrom_12 : decode cX9_tailFrom 12 = .ok (.aload_n 0, 1) := by decide +kernel
theorem dX9_tailFrom_13 : decode cX9_tailFrom 13 = .ok (.getfield 52, 3) := by decide +kernel
theorem dX9_tailFrom_16 : decode cX9_tailFrom 16 = .ok (.iload_n 2, 1) := by decide +kernel
theorem dX9_tailFrom_17 : decode cX9_tailFrom 17 = .ok (.iaload, 1) := by decide +kernel
theorem dX9_tailFrom_18 : decode cX9_tailFrom 18 = .ok (.istore_n 2, 1) := by decide +kernel
theorem dX9_tailFrom_19 : decode cX9_tailFrom 19 = .ok (.iinc 3 1, 3) := by decide +kernel
theorem dX9_tailFrom_22 : decode cX9_tailFrom 22 = .ok (.goto (-18), 3) := by decide +kernel
theorem dX9_tailFrom_25 : decode cX9_tailFrom 25 = .ok (.iload_n 3, 1) := by decide +kernel
theorem dX9_tailFrom_26 : decode cX9_tailFrom 26 = .ok (.ireturn, 1) := by decide +kernel
theorem dX9_takeHighest_0 : decode cX9_takeHighest 0 = .ok (.aload_n 0, 1) := by decide +kernel
theorem dX9_takeHighest_1 : decode cX9_takeHighest 1 = .ok (.iload_n 1, 1) := by decide +kernel
theorem dX9_takeHighest_2 : decode cX9_takeHighest 2 = .ok (.invokevirtual 207, 3) := by decide +kernel
theorem dX9_takeHighest_5 : decode cX9_takeHighest 5 = .ok (.ifCond .ne 4, 3) := by decide +kernel
theorem dX9_takeHighest_8 : decode cX9_takeHighest 8 = .ok (.return_, 1) := by decide +kernel
theorem dX9_takeHighest_9 : decode cX9_takeHighest 9 = .ok (.aload_n 0, 1) := by decide +kernel
theorem dX9_takeHighest_10 : decode cX9_takeHighest 10 = .ok (.getfield 34, 3) := by decide +kernel
theorem dX9_takeHighest_13 : decode cX9_takeHighest 13 = .ok (.sipush 701, 3) := by decide +kernel
theorem dX9_takeHighest_16 : decode cX9_takeHighest 16 = .ok (.iload_n 1, 1) := by decide +kernel
theorem dX9_takeHighest_17 : decode cX9_takeHighest 17 = .ok (.imul, 1) := by decide +kernel
theorem dX9_takeHighest_18 : decode cX9_takeHighest 18 = .ok (.dup2, 1) := by decide +kernel
theorem dX9_takeHighest_19 : decode cX9_takeHighest 19 = .ok (.iaload, 1) := by decide +kernel
theorem dX9_takeHighest_20 : decode cX9_takeHighest 20 = .ok (.iconst 1, 1) := by decide +kernel
theorem dX9_takeHighest_21 : decode cX9_takeHighest 21 = .ok (.isub, 1) := by decide +kernel
theorem dX9_takeHighest_22 : decode cX9_takeHighest 22 = .ok (.iastore, 1) := by decide +kernel
theorem dX9_takeHighest_23 : decode cX9_takeHighest 23 = .ok (.iconst 0, 1) := by decide +kernel
theorem dX9_takeHighest_24 : decode cX9_takeHighest 24 = .ok (.istore_n 2, 1) := by decide +kernel
theorem dX9_takeHighest_25 : decode cX9_takeHighest 25 = .ok (.iload_n 2, 1) := by decide +kernel
theorem dX9_takeHighest_26 : decode cX9_takeHighest 26 = .ok (.aload_n 0, 1) := by decide +kernel
theorem dX9_takeHighest_27 : decode cX9_takeHighest 27 = .ok (.iload_n 1, 1) := by decide +kernel
theorem dX9_takeHighest_28 : decode cX9_takeHighest 28 = .ok (.invokevirtual 207, 3) := by decide +kernel
theorem dX9_takeHighest_31 : decode cX9_takeHighest 31 = .ok (.if_icmp .ge 31, 3) := by decide +kernel
theorem dX9_takeHighest_34 : decode cX9_takeHighest 34 = .ok (.aload_n 0, 1) := by decide +kernel
theorem dX9_takeHighest_35 : decode cX9_takeHighest 35 = .ok (.getfield 34, 3) := by decide +kernel
theorem dX9_takeHighest_38 : decode cX9_takeHighest 38 = .ok (.sipush 701, 3) := by decide +kernel
theorem dX9_takeHighest_41 : decode cX9_takeHighest 41 = .ok (.iload_n 1, 1) := by decide +kernel
theorem dX9_takeHighest_42 : decode cX9_takeHighest 42 = .ok (.imul, 1) := by decide +kernel
theorem dX9_takeHighest_43 : decode cX9_takeHighest 43 = .ok (.iconst 1, 1) := by decide +kernel
theorem dX9_takeHighest_44 : decode cX9_takeHighest 44 = .ok (.iadd, 1) := by decide +kernel
theorem dX9_takeHighest_45 : decode cX9_takeHighest 45 = .ok (.iload_n 2, 1) := by decide +kernel
theorem dX9_takeHighest_46 : decode cX9_takeHighest 46 = .ok (.iadd, 1) := by decide +kernel
theorem dX9_takeHighest_47 : decode cX9_takeHighest 47 = .ok (.aload_n 0, 1) := by decide +kernel
theorem dX9_takeHighest_48 : decode cX9_takeHighest 48 = .ok (.iload_n 1, 1) := by decide +kernel
theorem dX9_takeHighest_49 : decode cX9_takeHighest 49 = .ok (.iload_n 2, 1) := by decide +kernel
theorem dX9_takeHighest_50 : decode cX9_takeHighest 50 = .ok (.iconst 1, 1) := by decide +kernel
theorem dX9_takeHighest_51 : decode cX9_takeHighest 51 = .ok (.iadd, 1) := by decide +kernel
theorem dX9_takeHighest_52 : decode cX9_takeHighest 52 = .ok (.invokevirtual 210, 3) := by decide +kernel
theorem dX9_takeHighest_55 : decode cX9_takeHighest 55 = .ok (.iastore, 1) := by decide +kernel
theorem dX9_takeHighest_56 : decode cX9_takeHighest 56 = .ok (.iinc 2 1, 3) := by decide +kernel
theorem dX9_takeHighest_59 : decode cX9_takeHighest 59 = .ok (.goto (-34), 3) := by decide +kernel
theorem dX9_takeHighest_62 : decode cX9_takeHighest 62 = .ok (.return_, 1) := by decide +kernel
theorem dX9_takeListed_0 : decode cX9_takeListed 0 = .ok (.bipush 15, 2) := by decide +kernel
theorem dX9_takeListed_2 : decode cX9_takeListed 2 = .ok (.iload_n 1, 1) := by decide +kernel
theorem dX9_takeListed_3 : decode cX9_takeListed 3 = .ok (.imul, 1) := by decide +kernel
theorem dX9_takeListed_4 : decode cX9_takeListed 4 = .ok (.istore_n 3, 1) := by decide +kernel
theorem dX9_takeListed_5 : decode cX9_takeListed 5 = .ok (.iconst 0, 1) := by decide +kernel
theorem dX9_takeListed_6 : decode cX9_takeListed 6 = .ok (.istore 4, 2) := by decide +kernel
theorem dX9_takeListed_8 : decode cX9_takeListed 8 = .ok (.iload 4, 2) := by decide +kernel
theorem dX9_takeListed_10 : decode cX9_takeListed 10 = .ok (.aload_n 0, 1) := by decide +kernel
theorem dX9_takeListed_11 : decode cX9_takeListed 11 = .ok (.getfield 49, 3) := by decide +kernel
theorem dX9_takeListed_14 : decode cX9_takeListed 14 = .ok (.iload_n 3, 1) := by decide +kernel
theorem dX9_takeListed_15 : decode cX9_takeListed 15 = .ok (.iaload, 1) := by decide +kernel
theorem dX9_takeListed_16 : decode cX9_takeListed 16 = .ok (.if_icmp .gt 31, 3) := by decide +kernel
theorem dX9_takeListed_19 : decode cX9_takeListed 19 = .ok (.aload_n 0, 1) := by decide +kernel
theorem dX9_takeListed_20 : decode cX9_takeListed 20 = .ok (.getfield 34, 3) := by decide +kernel
theorem dX9_takeListed_23 : decode cX9_takeListed 23 = .ok (.sipush 701, 3) := by decide +kernel
theorem dX9_takeListed_26 : decode cX9_takeListed 26 = .ok (.iload_n 2, 1) := by decide +kernel
theorem dX9_takeListed_27 : decode cX9_takeListed 27 = .ok (.imul, 1) := by decide +kernel
theorem dX9_takeListed_28 : decode cX9_takeListed 28 = .ok (.iload 4, 2) := by decide +kernel
theorem dX9_takeListed_30 : decode cX9_takeListed 30 = .ok (.iadd, 1) := by decide +kernel
theorem dX9_takeListed_31 : decode cX9_takeListed 31 = .ok (.aload_n 0, 1) := by decide +kernel
theorem dX9_takeListed_32 : decode cX9_takeListed 32 = .ok (.getfield 49, 3) := by decide +kernel
theorem dX9_takeListed_35 : decode cX9_takeListed 35 = .ok (.iload_n 3, 1) := by decide +kernel
theorem dX9_takeListed_36 : decode cX9_takeListed 36 = .ok (.iload 4, 2) := by decide +kernel
theorem dX9_takeListed_38 : decode cX9_takeListed 38 = .ok (.iadd, 1) := by decide +kernel
theorem dX9_takeListed_39 : decode cX9_takeListed 39 = .ok (.iaload, 1) := by decide +kernel
theorem dX9_takeListed_40 : decode cX9_takeListed 40 = .ok (.iastore, 1) := by decide +kernel
theorem dX9_takeListed_41 : decode cX9_takeListed 41 = .ok (.iinc 4 1, 3) := by decide +kernel
theorem dX9_takeListed_44 : decode cX9_takeListed 44 = .ok (.goto (-36), 3) := by decide +kernel
theorem dX9_takeListed_47 : decode cX9_takeListed 47 = .ok (.return_, 1) := by decide +kernel
theorem dX9_taken_0 : decode cX9_taken 0 = .ok (.aload_n 0, 1) := by decide +kernel
theorem dX9_taken_1 : decode cX9_taken 1 = .ok (.invokevirtual 265, 3) := by decide +kernel
theorem dX9_taken_4 : decode cX9_taken 4 = .ok (.pop, 1) := by decide +kernel
theorem dX9_taken_5 : decode cX9_taken 5 = .ok (.aload_n 0, 1) := by decide +kernel
theorem dX9_taken_6 : decode cX9_taken 6 = .ok (.iload_n 1, 1) := by decide +kernel
theorem dX9_taken_7 : decode cX9_taken 7 = .ok (.i2l, 1) := by decide +kernel
theorem dX9_taken_8 : decode cX9_taken 8 = .ok (.invokevirtual 280, 3) := by decide +kernel
theorem dX9_taken_11 : decode cX9_taken 11 = .ok (.ifCond .eq 12, 3) := by decide +kernel
theorem dX9_taken_14 : decode cX9_taken 14 = .ok (.aload_n 0, 1) := by decide +kernel
theorem dX9_taken_15 : decode cX9_taken 15 = .ok (.getfield 43, 3) := by decide +kernel
theorem dX9_taken_18 : decode cX9_taken 18 = .ok (.iload_n 1, 1) := by decide +kernel
theorem dX9_taken_19 : decode cX9_taken 19 = .ok (.iaload, 1) := by decide +kernel
theorem dX9_taken_20 : decode cX9_taken 20 = .ok (.goto 5, 3) := by decide +kernel
theorem dX9_taken_23 : decode cX9_taken 23 = .ok (.bipush (-2), 2) := by decide +kernel
theorem dX9_taken_25 : decode cX9_taken 25 = .ok (.ireturn, 1) := by decide +kernel
theorem dX9_takes_0 : decode cX9_takes 0 = .ok (.aload_n 0, 1) := by decide +kernel
theorem dX9_takes_1 : decode cX9_takes 1 = .ok (.aload_n 1, 1) := by decide +kernel
theorem dX9_takes_2 : decode cX9_takes 2 = .ok (.invokevirtual 152, 3) := by decide +kernel
theorem dX9_takes_5 : decode cX9_takes 5 = .ok (.istore_n 2, 1) := by decide +kernel
theorem dX9_takes_6 : decode cX9_takes 6 = .ok (.iload_n 2, 1) := by decide +kernel
theorem dX9_takes_7 : decode cX9_takes 7 = .ok (.ifCond .eq 7, 3) := by decide +kernel
theorem dX9_takes_10 : decode cX9_takes 10 = .ok (.aload_n 0, 1) := by decide +kernel
theorem dX9_takes_11 : decode cX9_takes 11 = .ok (.invokevirtual 156, 3) := by decide +kernel
theorem dX9_takes_14 : decode cX9_takes 14 = .ok (.iload_n 2, 1) := by decide +kernel
theorem dX9_takes_15 : decode cX9_takes 15 = .ok (.ireturn, 1) := by decide +kernel
theorem dX9_taking_0 : decode cX9_taking 0 = .ok (.iconst 0, 1) := by decide +kernel
theorem dX9_taking_1 : decode cX9_taking 1 = .ok (.istore_n 3, 1) := by decide +kernel
theorem dX9_taking_2 : decode cX9_taking 2 = .ok (.iconst 0, 1) := by decide +kernel
theorem dX9_taking_3 : decode cX9_taking 3 = .ok (.istore 4, 2) := by decide +kernel
theorem dX9_taking_5 : decode cX9_taking 5 = .ok (.iload 4, 2) := by decide +kernel
theorem dX9_taking_7 : decode cX9_taking 7 = .ok (.aload_n 0, 1) := by decide +kernel
theorem dX9_taking_8 : decode cX9_taking 8 = .ok (.iload_n 1, 1) := by decide +kernel
theorem dX9_taking_9 : decode cX9_taking 9 = .ok (.invokevirtual 207, 3) := by decide +kernel
theorem dX9_taking_12 : decode cX9_taking 12 = .ok (.if_icmp .ge 23, 3) := by decide +kernel
theorem dX9_taking_15 : decode cX9_taking 15 = .ok (.iload_n 3, 1) := by decide +kernel
theorem dX9_taking_16 : decode cX9_taking 16 = .ok (.aload_n 0, 1) := by decide +kernel
theorem dX9_taking_17 : decode cX9_taking 17 = .ok (.iload_n 1, 1) := by decide +kernel
theorem dX9_taking_18 : decode cX9_taking 18 = .ok (.iload 4, 2) := by decide +kernel
theorem dX9_taking_20 : decode cX9_taking 20 = .ok (.invokevirtual 210, 3) := by decide +kernel
theorem dX9_taking_23 : decode cX9_taking 23 = .ok (.iload_n 2, 1) := by decide +kernel
theorem dX9_taking_24 : decode cX9_taking 24 = .ok (.iconst 1, 1) := by decide +kernel
theorem dX9_taking_25 : decode cX9_taking 25 = .ok (.iadd, 1) := by decide +kernel
theorem dX9_taking_26 : decode cX9_taking 26 = .ok (.irem, 1) := by decide +kernel
theorem dX9_taking_27 : decode cX9_taking 27 = .ok (.ixor, 1) := by decide +kernel
theorem dX9_taking_28 : decode cX9_taking 28 = .ok (.istore_n 3, 1) := by decide +kernel
theorem dX9_taking_29 : decode cX9_taking 29 = .ok (.iinc 4 1, 3) := by decide +kernel
theorem dX9_taking_32 : decode cX9_taking 32 = .ok (.goto (-27), 3) := by decide +kernel
theorem dX9_taking_35 : decode cX9_taking 35 = .ok (.iload_n 3, 1) := by decide +kernel
theorem dX9_taking_36 : decode cX9_taking 36 = .ok (.ireturn, 1) := by decide +kernel
theorem dX9_told_0 : decode cX9_told 0 = .ok (.aload_n 0, 1) := by decide +kernel
theorem dX9_told_1 : decode cX9_told 1 = .ok (.iload_n 1, 1) := by decide +kernel
theorem dX9_told_2 : decode cX9_told 2 = .ok (.invokevirtual 200, 3) := by decide +kernel
theorem dX9_told_5 : decode cX9_told 5 = .ok (.ifCond .eq 15, 3) := by decide +kernel
theorem dX9_told_8 : decode cX9_told 8 = .ok (.aload_n 0, 1) := by decide +kernel
theorem dX9_told_9 : decode cX9_told 9 = .ok (.getfield 9, 3) := by decide +kernel
theorem dX9_told_12 : decode cX9_told 12 = .ok (.bipush 7, 2) := by decide +kernel
theorem dX9_told_14 : decode cX9_told 14 = .ok (.iload_n 1, 1) := by decide +kernel
theorem dX9_told_15 : decode cX9_told 15 = .ok (.iadd, 1) := by decide +kernel
theorem dX9_told_16 : decode cX9_told 16 = .ok (.iaload, 1) := by decide +kernel
theorem dX9_told_17 : decode cX9_told 17 = .ok (.goto 5, 3) := by decide +kernel
theorem dX9_told_20 : decode cX9_told 20 = .ok (.bipush (-2), 2) := by decide +kernel
theorem dX9_told_22 : decode cX9_told 22 = .ok (.ireturn, 1) := by decide +kernel
theorem dX9_toldBy_0 : decode cX9_toldBy 0 = .ok (.aload_n 0, 1) := by decide +kernel
theorem dX9_toldBy_1 : decode cX9_toldBy 1 = .ok (.aload_n 1, 1) := by decide +kernel
theorem dX9_toldBy_2 : decode cX9_toldBy 2 = .ok (.invokevirtual 166, 3) := by decide +kernel
theorem dX9_toldBy_5 : decode cX9_toldBy 5 = .ok (.aload_n 0, 1) := by decide +kernel
theorem dX9_toldBy_6 : decode cX9_toldBy 6 = .ok (.iload_n 2, 1) := by decide +kernel
theorem dX9_toldBy_7 : decode cX9_toldBy 7 = .ok (.iload_n 3, 1) := by decide +kernel
theorem dX9_toldBy_8 : decode cX9_toldBy 8 = .ok (.invokevirtual 170, 3) := by decide +kernel
theorem dX9_toldBy_11 : decode cX9_toldBy 11 = .ok (.ireturn, 1) := by decide +kernel
theorem dX9_turfsOf_0 : decode cX9_turfsOf 0 = .ok (.iconst 0, 1) := by decide +kernel
theorem dX9_turfsOf_1 : decode cX9_turfsOf 1 = .ok (.istore_n 2, 1) := by decide +kernel
theorem dX9_turfsOf_2 : decode cX9_turfsOf 2 = .ok (.iconst 0, 1) := by decide +kernel
theorem dX9_turfsOf_3 : decode cX9_turfsOf 3 = .ok (.istore_n 3, 1) := by decide +kernel
theorem dX9_turfsOf_4 : decode cX9_turfsOf 4 = .ok (.iload_n 3, 1) := by decide +kernel
theorem dX9_turfsOf_5 : decode cX9_turfsOf 5 = .ok (.aload_n 0, 1) := by decide +kernel
theorem dX9_turfsOf_6 : decode cX9_turfsOf 6 = .ok (.iload_n 1, 1) := by decide +kernel
theorem dX9_turfsOf_7 : decode cX9_turfsOf 7 = .ok (.invokevirtual 207, 3) := by decide +kernel
theorem dX9_turfsOf_10 : decode cX9_turfsOf 10 = .ok (.if_icmp .ge 18, 3) := by decide +kernel
theorem dX9_turfsOf_13 : decode cX9_turfsOf 13 = .ok (.iload_n 2, 1) := by decide +kernel
theorem dX9_turfsOf_14 : decode cX9_turfsOf 14 = .ok (.aload_n 0, 1) := by decide +kernel
theorem dX9_turfsOf_15 : decode cX9_turfsOf 15 = .ok (.iload_n 1, 1) := by decide +kernel
theorem dX9_turfsOf_16 : decode cX9_turfsOf 16 = .ok (.iload_n 3, 1) := by decide +kernel
theorem dX9_turfsOf_17 : decode cX9_turfsOf 17 = .ok (.invokevirtual 210, 3) := by decide +kernel
theorem dX9_turfsOf_20 : decode cX9_turfsOf 20 = .ok (.iadd, 1) := by decide +kernel
theorem dX9_turfsOf_21 : decode cX9_turfsOf 21 = .ok (.istore_n 2, 1) := by decide +kernel
theorem dX9_turfsOf_22 : decode cX9_turfsOf 22 = .ok (.iinc 3 1, 3) := by decide +kernel
theorem dX9_turfsOf_25 : decode cX9_turfsOf 25 = .ok (.goto (-21), 3) := by decide +kernel
theorem dX9_turfsOf_28 : decode cX9_turfsOf 28 = .ok (.iload_n 2, 1) := by decide +kernel
theorem dX9_turfsOf_29 : decode cX9_turfsOf 29 = .ok (.ireturn, 1) := by decide +kernel
theorem dX9_turnedHeap_0 : decode cX9_turnedHeap 0 = .ok (.iconst 0, 1) := by decide +kernel
theorem dX9_turnedHeap_1 : decode cX9_turnedHeap 1 = .ok (.istore_n 3, 1) := by decide +kernel
theorem dX9_turnedHeap_2 : decode cX9_turnedHeap 2 = .ok (.iload_n 3, 1) := by decide +kernel
theorem dX9_turnedHeap_3 : decode cX9_turnedHeap 3 = .ok (.aload_n 0, 1) := by decide +kernel
theorem dX9_turnedHeap_4 : decode cX9_turnedHeap 4 = .ok (.iload_n 1, 1) := by decide +kernel
theorem dX9_turnedHeap_5 : decode cX9_turnedHeap 5 = .ok (.invokevirtual 207, 3) := by decide +kernel
theorem dX9_turnedHeap_8 : decode cX9_turnedHeap 8 = .ok (.if_icmp .ge 19, 3) := by decide +kernel
theorem dX9_turnedHeap_11 : decode cX9_turnedHeap 11 = .ok (.aload_n 0, 1) := by decide +kernel
theorem dX9_turnedHeap_12 : decode cX9_turnedHeap 12 = .ok (.iload_n 1, 1) := by decide +kernel
theorem dX9_turnedHeap_13 : decode cX9_turnedHeap 13 = .ok (.iload_n 3, 1) := by decide +kernel
theorem dX9_turnedHeap_14 : decode cX9_turnedHeap 14 = .ok (.invokevirtual 210, 3) := by decide +kernel
theorem dX9_turnedHeap_17 : decode cX9_turnedHeap 17 = .ok (.iload_n 2, 1) := by decide +kernel
theorem dX9_turnedHeap_18 : decode cX9_turnedHeap 18 = .ok (.if_icmp .le 9, 3) := by decide +kernel
theorem dX9_turnedHeap_21 : decode cX9_turnedHeap 21 = .ok (.iinc 3 1, 3) := by decide +kernel
theorem dX9_turnedHeap_24 : decode cX9_turnedHeap 24 = .ok (.goto (-22), 3) := by decide +kernel
theorem dX9_turnedHeap_27 : decode cX9_turnedHeap 27 = .ok (.iload_n 3, 1) := by decide +kernel
theorem dX9_turnedHeap_28 : decode cX9_turnedHeap 28 = .ok (.ireturn, 1) := by decide +kernel
theorem dX9_undo_0 : decode cX9_undo 0 = .ok (.aload_n 0, 1) := by decide +kernel
theorem dX9_undo_1 : decode cX9_undo 1 = .ok (.invokevirtual 89, 3) := by decide +kernel
theorem dX9_undo_4 : decode cX9_undo 4 = .ok (.ifCond .ne 6, 3) := by decide +kernel
theorem dX9_undo_7 : decode cX9_undo 7 = .ok (.bipush (-2), 2) := by decide +kernel
theorem dX9_undo_9 : decode cX9_undo 9 = .ok (.ireturn, 1) := by decide +kernel
theorem dX9_undo_10 : decode cX9_undo 10 = .ok (.aload_n 0, 1) := by decide +kernel
theorem dX9_undo_11 : decode cX9_undo 11 = .ok (.getfield 9, 3) := by decide +kernel
theorem dX9_undo_14 : decode cX9_undo 14 = .ok (.iconst 5, 1) := by decide +kernel
theorem dX9_undo_15 : decode cX9_undo 15 = .ok (.iaload, 1) := by decide +kernel
theorem dX9_undo_16 : decode cX9_undo 16 = .ok (.ifCond .ne 6, 3) := by decide +kernel
theorem dX9_undo_19 : decode cX9_undo 19 = .ok (.bipush (-5), 2) := by decide +kernel
theorem dX9_undo_21 : decode cX9_undo 21 = .ok (.ireturn, 1) := by decide +kernel
theorem dX9_undo_22 : decode cX9_undo 22 = .ok (.aload_n 0, 1) := by decide +kernel
theorem dX9_undo_23 : decode cX9_undo 23 = .ok (.getfield 9, 3) := by decide +kernel
theorem dX9_undo_26 : decode cX9_undo 26 = .ok (.iconst 5, 1) := by decide +kernel
theorem dX9_undo_27 : decode cX9_undo 27 = .ok (.dup2, 1) := by decide +kernel
theorem dX9_undo_28 : decode cX9_undo 28 = .ok (.iaload, 1) := by decide +kernel
theorem dX9_undo_29 : decode cX9_undo 29 = .ok (.iconst 1, 1) := by decide +kernel
theorem dX9_undo_30 : decode cX9_undo 30 = .ok (.isub, 1) := by decide +kernel
theorem dX9_undo_31 : decode cX9_undo 31 = .ok (.iastore, 1) := by decide +kernel
theorem dX9_undo_32 : decode cX9_undo 32 = .ok (.aload_n 0, 1) := by decide +kernel
theorem dX9_undo_33 : decode cX9_undo 33 = .ok (.getfield 9, 3) := by decide +kernel
theorem dX9_undo_36 : decode cX9_undo 36 = .ok (.iconst 5, 1) := by decide +kernel
theorem dX9_undo_37 : decode cX9_undo 37 = .ok (.iaload, 1) := by decide +kernel
theorem dX9_undo_38 : decode cX9_undo 38 = .ok (.ireturn, 1) := by decide +kernel
theorem dX9_way_0 : decode cX9_way 0 = .ok (.aload_n 0, 1) := by decide +kernel
theorem dX9_way_1 : decode cX9_way 1 = .ok (.iload_n 1, 1) := by decide +kernel
theorem dX9_way_2 : decode cX9_way 2 = .ok (.invokevirtual 358, 3) := by decide +kernel
theorem dX9_way_5 : decode cX9_way 5 = .ok (.istore_n 2, 1) := by decide +kernel
theorem dX9_way_6 : decode cX9_way 6 = .ok (.iload_n 2, 1) := by decide +kernel
theorem dX9_way_7 : decode cX9_way 7 = .ok (.ifCond .ge 7, 3) := by decide +kernel
theorem dX9_way_10 : decode cX9_way 10 = .ok (.iload_n 2, 1) := by decide +kernel
theorem dX9_way_11 : decode cX9_way 11 = .ok (.goto 12, 3) := by decide +kernel
theorem dX9_way_14 : decode cX9_way 14 = .ok (.aload_n 0, 1) := by decide +kernel
theorem dX9_way_15 : decode cX9_way 15 = .ok (.getfield 55, 3) := by decide +kernel
theorem dX9_way_18 : decode cX9_way 18 = .ok (.aload_n 0, 1) := by decide +kernel
theorem dX9_way_19 : decode cX9_way 19 = .ok (.getfield 355, 3) := by decide +kernel
theorem dX9_way_22 : decode cX9_way 22 = .ok (.iaload, 1) := by decide +kernel
theorem dX9_way_23 : decode cX9_way 23 = .ok (.ireturn, 1) := by decide +kernel
theorem dX9_wins_0 : decode cX9_wins 0 = .ok (.aload_n 0, 1) := by decide +kernel
theorem dX9_wins_1 : decode cX9_wins 1 = .ok (.iload_n 1, 1) := by decide +kernel
theorem dX9_wins_2 : decode cX9_wins 2 = .ok (.iload_n 2, 1) := by decide +kernel
theorem dX9_wins_3 : decode cX9_wins 3 = .ok (.invokevirtual 416, 3) := by decide +kernel
theorem dX9_wins_6 : decode cX9_wins 6 = .ok (.ifCond .ne 6, 3) := by decide +kernel
theorem dX9_wins_9 : decode cX9_wins 9 = .ok (.bipush (-2), 2) := by decide +kernel
theorem dX9_wins_11 : decode cX9_wins 11 = .ok (.ireturn, 1) := by decide +kernel
theorem dX9_wins_12 : decode cX9_wins 12 = .ok (.aload_n 0, 1) := by decide +kernel
theorem dX9_wins_13 : decode cX9_wins 13 = .ok (.iload_n 1, 1) := by decide +kernel
theorem dX9_wins_14 : decode cX9_wins 14 = .ok (.iload_n 2, 1) := by decide +kernel
theorem dX9_wins_15 : decode cX9_wins 15 = .ok (.invokevirtual 419, 3) := by decide +kernel
theorem dX9_wins_18 : decode cX9_wins 18 = .ok (.ifCond .ne 7, 3) := by decide +kernel
theorem dX9_wins_21 : decode cX9_wins 21 = .ok (.iconst 0, 1) := by decide +kernel
theorem dX9_wins_22 : decode cX9_wins 22 = .ok (.goto 4, 3) := by decide +kernel
theorem dX9_wins_25 : decode cX9_wins 25 = .ok (.iconst 1, 1) := by decide +kernel
theorem dX9_wins_26 : decode cX9_wins 26 = .ok (.ireturn, 1) := by decide +kernel
theorem dX9_worstIn_0 : decode cX9_worstIn 0 = .ok (.iconst 0, 1) := by decide +kernel
theorem dX9_worstIn_1 : decode cX9_worstIn 1 = .ok (.istore_n 2, 1) := by decide +kernel
theorem dX9_worstIn_2 : decode cX9_worstIn 2 = .ok (.iconst 0, 1) := by decide +kernel
theorem dX9_worstIn_3 : decode cX9_worstIn 3 = .ok (.istore_n 3, 1) := by decide +kernel
theorem dX9_worstIn_4 : decode cX9_worstIn 4 = .ok (.iload_n 3, 1) := by decide +kernel
theorem dX9_worstIn_5 : decode cX9_worstIn 5 = .ok (.aload_n 0, 1) := by decide +kernel
theorem dX9_worstIn_6 : decode cX9_worstIn 6 = .ok (.getfield 372, 3) := by decide +kernel
theorem dX9_worstIn_9 : decode cX9_worstIn 9 = .ok (.if_icmp .ge 73, 3) := by decide +kernel
theorem dX9_worstIn_12 : decode cX9_worstIn 12 = .ok (.iconst 0, 1) := by decide +kernel
theorem dX9_worstIn_13 : decode cX9_worstIn 13 = .ok (.istore 4, 2) := by decide +kernel
theorem dX9_worstIn_15 : decode cX9_worstIn 15 = .ok (.iconst 0, 1) := by decide +kernel
theorem dX9_worstIn_16 : decode cX9_worstIn 16 = .ok (.istore 5, 2) := by decide +kernel
theorem dX9_worstIn_18 : decode cX9_worstIn 18 = .ok (.iload 5, 2) := by decide +kernel
theorem dX9_worstIn_20 : decode cX9_worstIn 20 = .ok (.aload_n 0, 1) := by decide +kernel
theorem dX9_worstIn_21 : decode cX9_worstIn 21 = .ok (.getfield 372, 3) := by decide +kernel
theorem dX9_worstIn_24 : decode cX9_worstIn 24 = .ok (.if_icmp .ge 45, 3) := by decide +kernel
theorem dX9_worstIn_27 : decode cX9_worstIn 27 = .ok (.iload 4, 2) := by decide +kernel
theorem dX9_worstIn_29 : decode cX9_worstIn 29 = .ok (.aload_n 0, 1) := by decide +kernel
theorem dX9_worstIn_30 : decode cX9_worstIn 30 = .ok (.getfield 61, 3) := by decide +kernel
theorem dX9_worstIn_33 : decode cX9_worstIn 33 = .ok (.bipush 17, 2) := by decide +kernel
theorem dX9_worstIn_35 : decode cX9_worstIn 35 = .ok (.iload_n 3, 1) := by decide +kernel
theorem dX9_worstIn_36 : decode cX9_worstIn 36 = .ok (.imul, 1) := by decide +kernel
theorem dX9_worstIn_37 : decode cX9_worstIn 37 = .ok (.iload_n 1, 1) := by decide +kernel
theorem dX9_worstIn_38 : decode cX9_worstIn 38 = .ok (.iadd, 1) := by decide +kernel
theorem dX9_worstIn_39 : decode cX9_worstIn 39 = .ok (.iaload, 1) := by decide +kernel
theorem dX9_worstIn_40 : decode cX9_worstIn 40 = .ok (.aload_n 0, 1) := by decide +kernel
theorem dX9_worstIn_41 : decode cX9_worstIn 41 = .ok (.getfield 61, 3) := by decide +kernel
theorem dX9_worstIn_44 : decode cX9_worstIn 44 = .ok (.bipush 17, 2) := by decide +kernel
theorem dX9_worstIn_46 : decode cX9_worstIn 46 = .ok (.iload 5, 2) := by decide +kernel
theorem dX9_worstIn_48 : decode cX9_worstIn 48 = .ok (.imul, 1) := by decide +kernel
theorem dX9_worstIn_49 : decode cX9_worstIn 49 = .ok (.iload_n 1, 1) := by decide +kernel
theorem dX9_worstIn_50 : decode cX9_worstIn 50 = .ok (.iadd, 1) := by decide +kernel
theorem dX9_worstIn_51 : decode cX9_worstIn 51 = .ok (.iaload, 1) := by decide +kernel
theorem dX9_worstIn_52 : decode cX9_worstIn 52 = .ok (.if_icmp .ne 7, 3) := by decide +kernel
theorem dX9_worstIn_55 : decode cX9_worstIn 55 = .ok (.iconst 1, 1) := by decide +kernel
theorem dX9_worstIn_56 : decode cX9_worstIn 56 = .ok (.goto 4, 3) := by decide +kernel
theorem dX9_worstIn_59 : decode cX9_worstIn 59 = .ok (.iconst 0, 1) := by decide +kernel
theorem dX9_worstIn_60 : decode cX9_worstIn 60 = .ok (.iadd, 1) := by decide +kernel
theorem dX9_worstIn_61 : decode cX9_worstIn 61 = .ok (.istore 4, 2) := by decide +kernel
theorem dX9_worstIn_63 : decode cX9_worstIn 63 = .ok (.iinc 5 1, 3) := by decide +kernel
theorem dX9_worstIn_66 : decode cX9_worstIn 66 = .ok (.goto (-48), 3) := by decide +kernel
theorem dX9_worstIn_69 : decode cX9_worstIn 69 = .ok (.iload_n 2, 1) := by decide +kernel
theorem dX9_worstIn_70 : decode cX9_worstIn 70 = .ok (.iload 4, 2) := by decide +kernel
theorem dX9_worstIn_72 : decode cX9_worstIn 72 = .ok (.invokestatic 283, 3) := by decide +kernel
theorem dX9_worstIn_75 : decode cX9_worstIn 75 = .ok (.istore_n 2, 1) := by decide +kernel
theorem dX9_worstIn_76 : decode cX9_worstIn 76 = .ok (.iinc 3 1, 3) := by decide +kernel
theorem dX9_worstIn_79 : decode cX9_worstIn 79 = .ok (.goto (-75), 3) := by decide +kernel
theorem dX9_worstIn_82 : decode cX9_worstIn 82 = .ok (.iload_n 2, 1) := by decide +kernel
theorem dX9_worstIn_83 : decode cX9_worstIn 83 = .ok (.ireturn, 1) := by decide +kernel
theorem dX9_worth_0 : decode cX9_worth 0 = .ok (.aload_n 0, 1) := by decide +kernel
theorem dX9_worth_1 : decode cX9_worth 1 = .ok (.invokevirtual 259, 3) := by decide +kernel
theorem dX9_worth_4 : decode cX9_worth 4 = .ok (.aload_n 0, 1) := by decide +kernel
theorem dX9_worth_5 : decode cX9_worth 5 = .ok (.invokevirtual 89, 3) := by decide +kernel
theorem dX9_worth_8 : decode cX9_worth 8 = .ok (.ifCond .eq 29, 3) := by decide +kernel
theorem dX9_worth_11 : decode cX9_worth 11 = .ok (.iload_n 1, 1) := by decide +kernel
theorem dX9_worth_12 : decode cX9_worth 12 = .ok (.i2l, 1) := by decide +kernel
theorem dX9_worth_13 : decode cX9_worth 13 = .ok (.lconst 0, 1) := by decide +kernel
theorem dX9_worth_14 : decode cX9_worth 14 = .ok (.iconst 1, 1) := by decide +kernel
theorem dX9_worth_15 : decode cX9_worth 15 = .ok (.aload_n 0, 1) := by decide +kernel
theorem dX9_worth_16 : decode cX9_worth 16 = .ok (.invokevirtual 97, 3) := by decide +kernel
theorem dX9_worth_19 : decode cX9_worth 19 = .ok (.ishl, 1) := by decide +kernel
theorem dX9_worth_20 : decode cX9_worth 20 = .ok (.iconst 1, 1) := by decide +kernel
theorem dX9_worth_21 : decode cX9_worth 21 = .ok (.isub, 1) := by decide +kernel
theorem dX9_worth_22 : decode cX9_worth 22 = .ok (.i2l, 1) := by decide +kernel
theorem dX9_worth_23 : decode cX9_worth 23 = .ok (.invokestatic 85, 3) := by decide +kernel
theorem dX9_worth_26 : decode cX9_worth 26 = .ok (.ifCond .eq 11, 3) := by decide +kernel
theorem dX9_worth_29 : decode cX9_worth 29 = .ok (.aload_n 0, 1) := by decide +kernel
theorem dX9_worth_30 : decode cX9_worth 30 = .ok (.iload_n 1, 1) := by decide +kernel
theorem dX9_worth_31 : decode cX9_worth 31 = .ok (.invokevirtual 395, 3) := by decide +kernel
theorem dX9_worth_34 : decode cX9_worth 34 = .ok (.goto 5, 3) := by decide +kernel
theorem dX9_worth_37 : decode cX9_worth 37 = .ok (.bipush (-2), 2) := by decide +kernel
theorem dX9_worth_39 : decode cX9_worth 39 = .ok (.ireturn, 1) := by decide +kernel
theorem dX9_worthOf_0 : decode cX9_worthOf 0 = .ok (.aload_n 0, 1) := by decide +kernel
theorem dX9_worthOf_1 : decode cX9_worthOf 1 = .ok (.iload_n 1, 1) := by decide +kernel
theorem dX9_worthOf_2 : decode cX9_worthOf 2 = .ok (.putfield 238, 3) := by decide +kernel
theorem dX9_worthOf_5 : decode cX9_worthOf 5 = .ok (.aload_n 0, 1) := by decide +kernel
theorem dX9_worthOf_6 : decode cX9_worthOf 6 = .ok (.invokevirtual 262, 3) := by decide +kernel
theorem dX9_worthOf_9 : decode cX9_worthOf 9 = .ok (.aload_n 0, 1) := by decide +kernel
theorem dX9_worthOf_10 : decode cX9_worthOf 10 = .ok (.invokevirtual 361, 3) := by decide +kernel
theorem dX9_worthOf_13 : decode cX9_worthOf 13 = .ok (.ireturn, 1) := by decide +kernel
theorem dX9_write_0 : decode cX9_write 0 = .ok (.iload_n 1, 1) := by decide +kernel
theorem dX9_write_1 : decode cX9_write 1 = .ok (.invokestatic 348, 3) := by decide +kernel
theorem dX9_write_4 : decode cX9_write 4 = .ok (.ifCond .ne 6, 3) := by decide +kernel
theorem dX9_write_7 : decode cX9_write 7 = .ok (.bipush (-2), 2) := by decide +kernel
theorem dX9_write_9 : decode cX9_write 9 = .ok (.ireturn, 1) := by decide +kernel
theorem dX9_write_10 : decode cX9_write 10 = .ok (.aload_n 0, 1) := by decide +kernel
theorem dX9_write_11 : decode cX9_write 11 = .ok (.getfield 67, 3) := by decide +kernel
theorem dX9_write_14 : decode cX9_write 14 = .ok (.iload_n 1, 1) := by decide +kernel
theorem dX9_write_15 : decode cX9_write 15 = .ok (.iaload, 1) := by decide +kernel
theorem dX9_write_16 : decode cX9_write 16 = .ok (.iconst (-1), 1) := by decide +kernel
theorem dX9_write_17 : decode cX9_write 17 = .ok (.if_icmp .ne 6, 3) := by decide +kernel
theorem dX9_write_20 : decode cX9_write 20 = .ok (.bipush (-6), 2) := by decide +kernel
theorem dX9_write_22 : decode cX9_write 22 = .ok (.ireturn, 1) := by decide +kernel
theorem dX9_write_23 : decode cX9_write 23 = .ok (.iload_n 2, 1) := by decide +kernel
theorem dX9_write_24 : decode cX9_write 24 = .ok (.i2l, 1) := by decide +kernel
theorem dX9_write_25 : decode cX9_write 25 = .ok (.lconst 0, 1) := by decide +kernel
theorem dX9_write_26 : decode cX9_write 26 = .ok (.aload_n 0, 1) := by decide +kernel
theorem dX9_write_27 : decode cX9_write 27 = .ok (.getfield 67, 3) := by decide +kernel
theorem dX9_write_30 : decode cX9_write 30 = .ok (.iload_n 1, 1) := by decide +kernel
theorem dX9_write_31 : decode cX9_write 31 = .ok (.iaload, 1) := by decide +kernel
theorem dX9_write_32 : decode cX9_write 32 = .ok (.iconst 1, 1) := by decide +kernel
theorem dX9_write_33 : decode cX9_write 33 = .ok (.isub, 1) := by decide +kernel
theorem dX9_write_34 : decode cX9_write 34 = .ok (.i2l, 1) := by decide +kernel
theorem dX9_write_35 : decode cX9_write 35 = .ok (.invokestatic 85, 3) := by decide +kernel
theorem dX9_write_38 : decode cX9_write 38 = .ok (.ifCond .ne 6, 3) := by decide +kernel
theorem dX9_write_41 : decode cX9_write 41 = .ok (.bipush (-7), 2) := by decide +kernel
theorem dX9_write_43 : decode cX9_write 43 = .ok (.ireturn, 1) := by decide +kernel
theorem dX9_write_44 : decode cX9_write 44 = .ok (.aload_n 0, 1) := by decide +kernel
theorem dX9_write_45 : decode cX9_write 45 = .ok (.getfield 73, 3) := by decide +kernel
theorem dX9_write_48 : decode cX9_write 48 = .ok (.bipush 60, 2) := by decide +kernel
theorem dX9_write_50 : decode cX9_write 50 = .ok (.iload_n 1, 1) := by decide +kernel
theorem dX9_write_51 : decode cX9_write 51 = .ok (.imul, 1) := by decide +kernel
theorem dX9_write_52 : decode cX9_write 52 = .ok (.iload_n 2, 1) := by decide +kernel
theorem dX9_write_53 : decode cX9_write 53 = .ok (.iadd, 1) := by decide +kernel
theorem dX9_write_54 : decode cX9_write 54 = .ok (.lload_n 3, 1) := by decide +kernel
theorem dX9_write_55 : decode cX9_write 55 = .ok (.aload_n 0, 1) := by decide +kernel
theorem dX9_write_56 : decode cX9_write 56 = .ok (.getfield 70, 3) := by decide +kernel
theorem dX9_write_59 : decode cX9_write 59 = .ok (.iload_n 1, 1) := by decide +kernel
theorem dX9_write_60 : decode cX9_write 60 = .ok (.iaload, 1) := by decide +kernel
theorem dX9_write_61 : decode cX9_write 61 = .ok (.invokestatic 480, 3) := by decide +kernel
theorem dX9_write_64 : decode cX9_write 64 = .ok (.lastore, 1) := by decide +kernel
theorem dX9_write_65 : decode cX9_write 65 = .ok (.iconst 0, 1) := by decide +kernel
theorem dX9_write_66 : decode cX9_write 66 = .ok (.ireturn, 1) := by decide +kernel

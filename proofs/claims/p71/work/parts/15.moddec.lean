theorem dX9_advance_0 : decode cX9_advance 0 = .ok (.aload_n 0, 1) := by decide +kernel
theorem dX9_advance_1 : decode cX9_advance 1 = .ok (.aload_n 0, 1) := by decide +kernel
theorem dX9_advance_2 : decode cX9_advance 2 = .ok (.getfield 106, 3) := by decide +kernel
theorem dX9_advance_5 : decode cX9_advance 5 = .ok (.invokevirtual 109, 3) := by decide +kernel
theorem dX9_advance_8 : decode cX9_advance 8 = .ok (.bipush 32, 2) := by decide +kernel
theorem dX9_advance_10 : decode cX9_advance 10 = .ok (.if_icmp .eq 16, 3) := by decide +kernel
theorem dX9_advance_13 : decode cX9_advance 13 = .ok (.aload_n 0, 1) := by decide +kernel
theorem dX9_advance_14 : decode cX9_advance 14 = .ok (.aload_n 0, 1) := by decide +kernel
theorem dX9_advance_15 : decode cX9_advance 15 = .ok (.getfield 106, 3) := by decide +kernel
theorem dX9_advance_18 : decode cX9_advance 18 = .ok (.invokevirtual 109, 3) := by decide +kernel
theorem dX9_advance_21 : decode cX9_advance 21 = .ok (.bipush 10, 2) := by decide +kernel
theorem dX9_advance_23 : decode cX9_advance 23 = .ok (.if_icmp .ne 16, 3) := by decide +kernel
theorem dX9_advance_26 : decode cX9_advance 26 = .ok (.aload_n 0, 1) := by decide +kernel
theorem dX9_advance_27 : decode cX9_advance 27 = .ok (.dup, 1) := by decide +kernel
theorem dX9_advance_28 : decode cX9_advance 28 = .ok (.getfield 106, 3) := by decide +kernel
theorem dX9_advance_31 : decode cX9_advance 31 = .ok (.iconst 1, 1) := by decide +kernel
theorem dX9_advance_32 : decode cX9_advance 32 = .ok (.iadd, 1) := by decide +kernel
theorem dX9_advance_33 : decode cX9_advance 33 = .ok (.putfield 106, 3) := by decide +kernel
theorem dX9_advance_36 : decode cX9_advance 36 = .ok (.goto (-36), 3) := by decide +kernel
theorem dX9_advance_39 : decode cX9_advance 39 = .ok (.aload_n 0, 1) := by decide +kernel
theorem dX9_advance_40 : decode cX9_advance 40 = .ok (.aload_n 0, 1) := by decide +kernel
theorem dX9_advance_41 : decode cX9_advance 41 = .ok (.getfield 106, 3) := by decide +kernel
theorem dX9_advance_44 : decode cX9_advance 44 = .ok (.putfield 113, 3) := by decide +kernel
theorem dX9_advance_47 : decode cX9_advance 47 = .ok (.aload_n 0, 1) := by decide +kernel
theorem dX9_advance_48 : decode cX9_advance 48 = .ok (.aload_n 0, 1) := by decide +kernel
theorem dX9_advance_49 : decode cX9_advance 49 = .ok (.getfield 106, 3) := by decide +kernel
theorem dX9_advance_52 : decode cX9_advance 52 = .ok (.invokevirtual 109, 3) := by decide +kernel
theorem dX9_advance_55 : decode cX9_advance 55 = .ok (.istore_n 1, 1) := by decide +kernel
theorem dX9_advance_56 : decode cX9_advance 56 = .ok (.iload_n 1, 1) := by decide +kernel
theorem dX9_advance_57 : decode cX9_advance 57 = .ok (.iconst (-1), 1) := by decide +kernel
theorem dX9_advance_58 : decode cX9_advance 58 = .ok (.if_icmp .ne 11, 3) := by decide +kernel
theorem dX9_advance_61 : decode cX9_advance 61 = .ok (.aload_n 0, 1) := by decide +kernel
theorem dX9_advance_62 : decode cX9_advance 62 = .ok (.iconst 0, 1) := by decide +kernel
theorem dX9_advance_63 : decode cX9_advance 63 = .ok (.putfield 116, 3) := by decide +kernel
theorem dX9_advance_66 : decode cX9_advance 66 = .ok (.goto 173, 3) := by decide +kernel
theorem dX9_advance_69 : decode cX9_advance 69 = .ok (.iload_n 1, 1) := by decide +kernel
theorem dX9_advance_70 : decode cX9_advance 70 = .ok (.i2l, 1) := by decide +kernel
theorem dX9_advance_71 : decode cX9_advance 71 = .ok (.ldc2_w 119, 3) := by decide +kernel
theorem dX9_advance_74 : decode cX9_advance 74 = .ok (.ldc2_w 121, 3) := by decide +kernel
theorem dX9_advance_77 : decode cX9_advance 77 = .ok (.invokestatic 85, 3) := by decide +kernel
theorem dX9_advance_80 : decode cX9_advance 80 = .ok (.ifCond .eq 45, 3) := by decide +kernel
theorem dX9_advance_83 : decode cX9_advance 83 = .ok (.aload_n 0, 1) := by decide +kernel
theorem dX9_advance_84 : decode cX9_advance 84 = .ok (.aload_n 0, 1) := by decide +kernel
theorem dX9_advance_85 : decode cX9_advance 85 = .ok (.getfield 106, 3) := by decide +kernel
theorem dX9_advance_88 : decode cX9_advance 88 = .ok (.invokevirtual 109, 3) := by decide +kernel
theorem dX9_advance_91 : decode cX9_advance 91 = .ok (.i2l, 1) := by decide +kernel
theorem dX9_advance_92 : decode cX9_advance 92 = .ok (.ldc2_w 119, 3) := by decide +kernel
theorem dX9_advance_95 : decode cX9_advance 95 = .ok (.ldc2_w 121, 3) := by decide +kernel
theorem dX9_advance_98 : decode cX9_advance 98 = .ok (.invokestatic 85, 3) := by decide +kernel
theorem dX9_advance_101 : decode cX9_advance 101 = .ok (.ifCond .eq 16, 3) := by decide +kernel
theorem dX9_advance_104 : decode cX9_advance 104 = .ok (.aload_n 0, 1) := by decide +kernel
theorem dX9_advance_105 : decode cX9_advance 105 = .ok (.dup, 1) := by decide +kernel
theorem dX9_advance_106 : decode cX9_advance 106 = .ok (.getfield 106, 3) := by decide +kernel
theorem dX9_advance_109 : decode cX9_advance 109 = .ok (.iconst 1, 1) := by decide +kernel
theorem dX9_advance_110 : decode cX9_advance 110 = .ok (.iadd, 1) := by decide +kernel
theorem dX9_advance_111 : decode cX9_advance 111 = .ok (.putfield 106, 3) := by decide +kernel
theorem dX9_advance_114 : decode cX9_advance 114 = .ok (.goto (-31), 3) := by decide +kernel
theorem dX9_advance_117 : decode cX9_advance 117 = .ok (.aload_n 0, 1) := by decide +kernel
theorem dX9_advance_118 : decode cX9_advance 118 = .ok (.iconst 1, 1) := by decide +kernel
theorem dX9_advance_119 : decode cX9_advance 119 = .ok (.putfield 116, 3) := by decide +kernel
theorem dX9_advance_122 : decode cX9_advance 122 = .ok (.goto 117, 3) := by decide +kernel
theorem dX9_advance_125 : decode cX9_advance 125 = .ok (.iload_n 1, 1) := by decide +kernel
theorem dX9_advance_126 : decode cX9_advance 126 = .ok (.i2l, 1) := by decide +kernel
theorem dX9_advance_127 : decode cX9_advance 127 = .ok (.ldc2_w 123, 3) := by decide +kernel
theorem dX9_advance_130 : decode cX9_advance 130 = .ok (.ldc2_w 125, 3) := by decide +kernel
theorem dX9_advance_133 : decode cX9_advance 133 = .ok (.invokestatic 85, 3) := by decide +kernel
theorem dX9_advance_136 : decode cX9_advance 136 = .ok (.ifCond .eq 78, 3) := by decide +kernel
theorem dX9_advance_139 : decode cX9_advance 139 = .ok (.aload_n 0, 1) := by decide +kernel
theorem dX9_advance_140 : decode cX9_advance 140 = .ok (.iconst 0, 1) := by decide +kernel
theorem dX9_advance_141 : decode cX9_advance 141 = .ok (.putfield 127, 3) := by decide +kernel
theorem dX9_advance_144 : decode cX9_advance 144 = .ok (.aload_n 0, 1) := by decide +kernel
theorem dX9_advance_145 : decode cX9_advance 145 = .ok (.aload_n 0, 1) := by decide +kernel
theorem dX9_advance_146 : decode cX9_advance 146 = .ok (.getfield 106, 3) := by decide +kernel
theorem dX9_advance_149 : decode cX9_advance 149 = .ok (.invokevirtual 109, 3) := by decide +kernel
theorem dX9_advance_152 : decode cX9_advance 152 = .ok (.i2l, 1) := by decide +kernel
theorem dX9_advance_153 : decode cX9_advance 153 = .ok (.ldc2_w 123, 3) := by decide +kernel
theorem dX9_advance_156 : decode cX9_advance 156 = .ok (.ldc2_w 125, 3) := by decide +kernel
theorem dX9_advance_159 : decode cX9_advance 159 = .ok (.invokestatic 85, 3) := by decide +kernel
theorem dX9_advance_162 : decode cX9_advance 162 = .ok (.ifCond .eq 44, 3) := by decide +kernel
theorem dX9_advance_165 : decode cX9_advance 165 = .ok (.aload_n 0, 1) := by decide +kernel
theorem dX9_advance_166 : decode cX9_advance 166 = .ok (.ldc 130, 2) := by decide +kernel
theorem dX9_advance_168 : decode cX9_advance 168 = .ok (.bipush 10, 2) := by decide +kernel
theorem dX9_advance_170 : decode cX9_advance 170 = .ok (.aload_n 0, 1) := by decide +kernel
theorem dX9_advance_171 : decode cX9_advance 171 = .ok (.getfield 127, 3) := by decide +kernel
theorem dX9_advance_174 : decode cX9_advance 174 = .ok (.imul, 1) := by decide +kernel
theorem dX9_advance_175 : decode cX9_advance 175 = .ok (.aload_n 0, 1) := by decide +kernel
theorem dX9_advance_176 : decode cX9_advance 176 = .ok (.aload_n 0, 1) := by decide +kernel
theorem dX9_advance_177 : decode cX9_advance 177 = .ok (.getfield 106, 3) := by decide +kernel
theorem dX9_advance_180 : decode cX9_advance 180 = .ok (.invokevirtual 109, 3) := by decide +kernel
theorem dX9_advance_183 : decode cX9_advance 183 = .ok (.iadd, 1) := by decide +kernel
theorem dX9_advance_184 : decode cX9_advance 184 = .ok (.bipush 48, 2) := by decide +kernel
theorem dX9_advance_186 : decode cX9_advance 186 = .ok (.isub, 1) := by decide +kernel
theorem dX9_advance_187 : decode cX9_advance 187 = .ok (.invokestatic 131, 3) := by decide +kernel
theorem dX9_advance_190 : decode cX9_advance 190 = .ok (.putfield 127, 3) := by decide +kernel
theorem dX9_advance_193 : decode cX9_advance 193 = .ok (.aload_n 0, 1) := by decide +kernel
theorem dX9_advance_194 : decode cX9_advance 194 = .ok (.dup, 1) := by decide +kernel
theorem dX9_advance_195 : decode cX9_advance 195 = .ok (.getfield 106, 3) := by decide +kernel
theorem dX9_advance_198 : decode cX9_advance 198 = .ok (.iconst 1, 1) := by decide +kernel
theorem dX9_advance_199 : decode cX9_advance 199 = .ok (.iadd, 1) := by decide +kernel
theorem dX9_advance_200 : decode cX9_advance 200 = .ok (.putfield 106, 3) := by decide +kernel
theorem dX9_advance_203 : decode cX9_advance 203 = .ok (.goto (-59), 3) := by decide +kernel
theorem dX9_advance_206 : decode cX9_advance 206 = .ok (.aload_n 0, 1) := by decide +kernel
theorem dX9_advance_207 : decode cX9_advance 207 = .ok (.iconst 2, 1) := by decide +kernel
theorem dX9_advance_208 : decode cX9_advance 208 = .ok (.putfield 116, 3) := by decide +kernel
theorem dX9_advance_211 : decode cX9_advance 211 = .ok (.goto 28, 3) := by decide +kernel
theorem dX9_advance_214 : decode cX9_advance 214 = .ok (.aload_n 0, 1) := by decide +kernel
theorem dX9_advance_215 : decode cX9_advance 215 = .ok (.iload_n 1, 1) := by decide +kernel
theorem dX9_advance_216 : decode cX9_advance 216 = .ok (.bipush 59, 2) := by decide +kernel
theorem dX9_advance_218 : decode cX9_advance 218 = .ok (.if_icmp .ne 7, 3) := by decide +kernel
theorem dX9_advance_221 : decode cX9_advance 221 = .ok (.iconst 3, 1) := by decide +kernel
theorem dX9_advance_222 : decode cX9_advance 222 = .ok (.goto 4, 3) := by decide +kernel
theorem dX9_advance_225 : decode cX9_advance 225 = .ok (.iconst 4, 1) := by decide +kernel
theorem dX9_advance_226 : decode cX9_advance 226 = .ok (.putfield 116, 3) := by decide +kernel
theorem dX9_advance_229 : decode cX9_advance 229 = .ok (.aload_n 0, 1) := by decide +kernel
theorem dX9_advance_230 : decode cX9_advance 230 = .ok (.dup, 1) := by decide +kernel
theorem dX9_advance_231 : decode cX9_advance 231 = .ok (.getfield 106, 3) := by decide +kernel
theorem dX9_advance_234 : decode cX9_advance 234 = .ok (.iconst 1, 1) := by decide +kernel
theorem dX9_advance_235 : decode cX9_advance 235 = .ok (.iadd, 1) := by decide +kernel
theorem dX9_advance_236 : decode cX9_advance 236 = .ok (.putfield 106, 3) := by decide +kernel
theorem dX9_advance_239 : decode cX9_advance 239 = .ok (.return_, 1) := by decide +kernel
theorem dX9_areSame_0 : decode cX9_areSame 0 = .ok (.aload_n 0, 1) := by decide +kernel
theorem dX9_areSame_1 : decode cX9_areSame 1 = .ok (.iload_n 1, 1) := by decide +kernel
theorem dX9_areSame_2 : decode cX9_areSame 2 = .ok (.invokevirtual 207, 3) := by decide +kernel
theorem dX9_areSame_5 : decode cX9_areSame 5 = .ok (.aload_n 0, 1) := by decide +kernel
theorem dX9_areSame_6 : decode cX9_areSame 6 = .ok (.iload_n 2, 1) := by decide +kernel
theorem dX9_areSame_7 : decode cX9_areSame 7 = .ok (.invokevirtual 207, 3) := by decide +kernel
theorem dX9_areSame_10 : decode cX9_areSame 10 = .ok (.if_icmp .ne 7, 3) := by decide +kernel
theorem dX9_areSame_13 : decode cX9_areSame 13 = .ok (.iconst 1, 1) := by decide +kernel
theorem dX9_areSame_14 : decode cX9_areSame 14 = .ok (.goto 4, 3) := by decide +kernel
theorem dX9_areSame_17 : decode cX9_areSame 17 = .ok (.iconst 0, 1) := by decide +kernel
theorem dX9_areSame_18 : decode cX9_areSame 18 = .ok (.istore_n 3, 1) := by decide +kernel
theorem dX9_areSame_19 : decode cX9_areSame 19 = .ok (.iconst 0, 1) := by decide +kernel
theorem dX9_areSame_20 : decode cX9_areSame 20 = .ok (.istore 4, 2) := by decide +kernel
theorem dX9_areSame_22 : decode cX9_areSame 22 = .ok (.iload 4, 2) := by decide +kernel
theorem dX9_areSame_24 : decode cX9_areSame 24 = .ok (.aload_n 0, 1) := by decide +kernel
theorem dX9_areSame_25 : decode cX9_areSame 25 = .ok (.iload_n 1, 1) := by decide +kernel
theorem dX9_areSame_26 : decode cX9_areSame 26 = .ok (.invokevirtual 207, 3) := by decide +kernel
theorem dX9_areSame_29 : decode cX9_areSame 29 = .ok (.if_icmp .ge 36, 3) := by decide +kernel
theorem dX9_areSame_32 : decode cX9_areSame 32 = .ok (.iload_n 3, 1) := by decide +kernel
theorem dX9_areSame_33 : decode cX9_areSame 33 = .ok (.ifCond .eq 32, 3) := by decide +kernel
theorem dX9_areSame_36 : decode cX9_areSame 36 = .ok (.aload_n 0, 1) := by decide +kernel
theorem dX9_areSame_37 : decode cX9_areSame 37 = .ok (.iload_n 1, 1) := by decide +kernel
theorem dX9_areSame_38 : decode cX9_areSame 38 = .ok (.iload 4, 2) := by decide +kernel
theorem dX9_areSame_40 : decode cX9_areSame 40 = .ok (.invokevirtual 210, 3) := by decide +kernel
theorem dX9_areSame_43 : decode cX9_areSame 43 = .ok (.aload_n 0, 1) := by decide +kernel
theorem dX9_areSame_44 : decode cX9_areSame 44 = .ok (.iload_n 2, 1) := by decide +kernel
theorem dX9_areSame_45 : decode cX9_areSame 45 = .ok (.iload 4, 2) := by decide +kernel
theorem dX9_areSame_47 : decode cX9_areSame 47 = .ok (.invokevirtual 210, 3) := by decide +kernel
theorem dX9_areSame_50 : decode cX9_areSame 50 = .ok (.if_icmp .ne 7, 3) := by decide +kernel
theorem dX9_areSame_53 : decode cX9_areSame 53 = .ok (.iconst 1, 1) := by decide +kernel
theorem dX9_areSame_54 : decode cX9_areSame 54 = .ok (.goto 4, 3) := by decide +kernel
theorem dX9_areSame_57 : decode cX9_areSame 57 = .ok (.iconst 0, 1) := by decide +kernel
theorem dX9_areSame_58 : decode cX9_areSame 58 = .ok (.istore_n 3, 1) := by decide +kernel
theorem dX9_areSame_59 : decode cX9_areSame 59 = .ok (.iinc 4 1, 3) := by decide +kernel
theorem dX9_areSame_62 : decode cX9_areSame 62 = .ok (.goto (-40), 3) := by decide +kernel
theorem dX9_areSame_65 : decode cX9_areSame 65 = .ok (.iload_n 3, 1) := by decide +kernel
theorem dX9_areSame_66 : decode cX9_areSame 66 = .ok (.ireturn, 1) := by decide +kernel
theorem dX9_asItIs_0 : decode cX9_asItIs 0 = .ok (.aload_n 0, 1) := by decide +kernel
theorem dX9_asItIs_1 : decode cX9_asItIs 1 = .ok (.aload_n 0, 1) := by decide +kernel
theorem dX9_asItIs_2 : decode cX9_asItIs 2 = .ok (.getfield 9, 3) := by decide +kernel
theorem dX9_asItIs_5 : decode cX9_asItIs 5 = .ok (.iconst 1, 1) := by decide +kernel
theorem dX9_asItIs_6 : decode cX9_asItIs 6 = .ok (.iaload, 1) := by decide +kernel
theorem dX9_asItIs_7 : decode cX9_asItIs 7 = .ok (.putfield 213, 3) := by decide +kernel
theorem dX9_asItIs_10 : decode cX9_asItIs 10 = .ok (.aload_n 0, 1) := by decide +kernel
theorem dX9_asItIs_11 : decode cX9_asItIs 11 = .ok (.iconst 0, 1) := by decide +kernel
theorem dX9_asItIs_12 : decode cX9_asItIs 12 = .ok (.putfield 235, 3) := by decide +kernel
theorem dX9_asItIs_15 : decode cX9_asItIs 15 = .ok (.aload_n 0, 1) := by decide +kernel
theorem dX9_asItIs_16 : decode cX9_asItIs 16 = .ok (.bipush 63, 2) := by decide +kernel
theorem dX9_asItIs_18 : decode cX9_asItIs 18 = .ok (.putfield 238, 3) := by decide +kernel
theorem dX9_asItIs_21 : decode cX9_asItIs 21 = .ok (.aload_n 0, 1) := by decide +kernel
theorem dX9_asItIs_22 : decode cX9_asItIs 22 = .ok (.iconst (-1), 1) := by decide +kernel
theorem dX9_asItIs_23 : decode cX9_asItIs 23 = .ok (.putfield 241, 3) := by decide +kernel
theorem dX9_asItIs_26 : decode cX9_asItIs 26 = .ok (.iconst 0, 1) := by decide +kernel
theorem dX9_asItIs_27 : decode cX9_asItIs 27 = .ok (.istore_n 1, 1) := by decide +kernel
theorem dX9_asItIs_28 : decode cX9_asItIs 28 = .ok (.iload_n 1, 1) := by decide +kernel
theorem dX9_asItIs_29 : decode cX9_asItIs 29 = .ok (.bipush 8, 2) := by decide +kernel
theorem dX9_asItIs_31 : decode cX9_asItIs 31 = .ok (.if_icmp .ge 24, 3) := by decide +kernel
theorem dX9_asItIs_34 : decode cX9_asItIs 34 = .ok (.aload_n 0, 1) := by decide +kernel
theorem dX9_asItIs_35 : decode cX9_asItIs 35 = .ok (.getfield 37, 3) := by decide +kernel
theorem dX9_asItIs_38 : decode cX9_asItIs 38 = .ok (.iload_n 1, 1) := by decide +kernel
theorem dX9_asItIs_39 : decode cX9_asItIs 39 = .ok (.aload_n 0, 1) := by decide +kernel
theorem dX9_asItIs_40 : decode cX9_asItIs 40 = .ok (.getfield 9, 3) := by decide +kernel
theorem dX9_asItIs_43 : decode cX9_asItIs 43 = .ok (.bipush 7, 2) := by decide +kernel
theorem dX9_asItIs_45 : decode cX9_asItIs 45 = .ok (.iload_n 1, 1) := by decide +kernel
theorem dX9_asItIs_46 : decode cX9_asItIs 46 = .ok (.iadd, 1) := by decide +kernel
theorem dX9_asItIs_47 : decode cX9_asItIs 47 = .ok (.iaload, 1) := by decide +kernel
theorem dX9_asItIs_48 : decode cX9_asItIs 48 = .ok (.iastore, 1) := by decide +kernel
theorem dX9_asItIs_49 : decode cX9_asItIs 49 = .ok (.iinc 1 1, 3) := by decide +kernel
theorem dX9_asItIs_52 : decode cX9_asItIs 52 = .ok (.goto (-24), 3) := by decide +kernel
theorem dX9_asItIs_55 : decode cX9_asItIs 55 = .ok (.iconst 0, 1) := by decide +kernel
theorem dX9_asItIs_56 : decode cX9_asItIs 56 = .ok (.istore_n 1, 1) := by decide +kernel
theorem dX9_asItIs_57 : decode cX9_asItIs 57 = .ok (.iload_n 1, 1) := by decide +kernel
theorem dX9_asItIs_58 : decode cX9_asItIs 58 = .ok (.bipush 6, 2) := by decide +kernel
theorem dX9_asItIs_60 : decode cX9_asItIs 60 = .ok (.if_icmp .ge 28, 3) := by decide +kernel
theorem dX9_asItIs_63 : decode cX9_asItIs 63 = .ok (.aload_n 0, 1) := by decide +kernel
theorem dX9_asItIs_64 : decode cX9_asItIs 64 = .ok (.getfield 40, 3) := by decide +kernel
theorem dX9_asItIs_67 : decode cX9_asItIs 67 = .ok (.iload_n 1, 1) := by decide +kernel
theorem dX9_asItIs_68 : decode cX9_asItIs 68 = .ok (.aload_n 0, 1) := by decide +kernel
theorem dX9_asItIs_69 : decode cX9_asItIs 69 = .ok (.getfield 9, 3) := by decide +kernel
theorem dX9_asItIs_72 : decode cX9_asItIs 72 = .ok (.bipush 15, 2) := by decide +kernel
theorem dX9_asItIs_74 : decode cX9_asItIs 74 = .ok (.iconst 2, 1) := by decide +kernel
theorem dX9_asItIs_75 : decode cX9_asItIs 75 = .ok (.iload_n 1, 1) := by decide +kernel
theorem dX9_asItIs_76 : decode cX9_asItIs 76 = .ok (.imul, 1) := by decide +kernel
theorem dX9_asItIs_77 : decode cX9_asItIs 77 = .ok (.iadd, 1) := by decide +kernel
theorem dX9_asItIs_78 : decode cX9_asItIs 78 = .ok (.iconst 1, 1) := by decide +kernel
theorem dX9_asItIs_79 : decode cX9_asItIs 79 = .ok (.iadd, 1) := by decide +kernel
theorem dX9_asItIs_80 : decode cX9_asItIs 80 = .ok (.iaload, 1) := by decide +kernel
theorem dX9_asItIs_81 : decode cX9_asItIs 81 = .ok (.iastore, 1) := by decide +kernel
theorem dX9_asItIs_82 : decode cX9_asItIs 82 = .ok (.iinc 1 1, 3) := by decide +kernel
theorem dX9_asItIs_85 : decode cX9_asItIs 85 = .ok (.goto (-28), 3) := by decide +kernel
theorem dX9_asItIs_88 : decode cX9_asItIs 88 = .ok (.return_, 1) := by decide +kernel
theorem dX9_asksDay_0 : decode cX9_asksDay 0 = .ok (.aload_n 0, 1) := by decide +kernel
theorem dX9_asksDay_1 : decode cX9_asksDay 1 = .ok (.invokevirtual 265, 3) := by decide +kernel
theorem dX9_asksDay_4 : decode cX9_asksDay 4 = .ok (.pop, 1) := by decide +kernel
theorem dX9_asksDay_5 : decode cX9_asksDay 5 = .ok (.aload_n 0, 1) := by decide +kernel
theorem dX9_asksDay_6 : decode cX9_asksDay 6 = .ok (.iload_n 1, 1) := by decide +kernel
theorem dX9_asksDay_7 : decode cX9_asksDay 7 = .ok (.i2l, 1) := by decide +kernel
theorem dX9_asksDay_8 : decode cX9_asksDay 8 = .ok (.invokevirtual 268, 3) := by decide +kernel
theorem dX9_asksDay_11 : decode cX9_asksDay 11 = .ok (.ireturn, 1) := by decide +kernel
theorem dX9_asksMoor_0 : decode cX9_asksMoor 0 = .ok (.aload_n 0, 1) := by decide +kernel
theorem dX9_asksMoor_1 : decode cX9_asksMoor 1 = .ok (.invokevirtual 259, 3) := by decide +kernel
theorem dX9_asksMoor_4 : decode cX9_asksMoor 4 = .ok (.aload_n 0, 1) := by decide +kernel
theorem dX9_asksMoor_5 : decode cX9_asksMoor 5 = .ok (.invokevirtual 262, 3) := by decide +kernel
theorem dX9_asksMoor_8 : decode cX9_asksMoor 8 = .ok (.aload_n 0, 1) := by decide +kernel
theorem dX9_asksMoor_9 : decode cX9_asksMoor 9 = .ok (.invokevirtual 89, 3) := by decide +kernel
theorem dX9_asksMoor_12 : decode cX9_asksMoor 12 = .ok (.ireturn, 1) := by decide +kernel
theorem dX9_back_0 : decode cX9_back 0 = .ok (.iload_n 1, 1) := by decide +kernel
theorem dX9_back_1 : decode cX9_back 1 = .ok (.i2l, 1) := by decide +kernel
theorem dX9_back_2 : decode cX9_back 2 = .ok (.lconst 0, 1) := by decide +kernel
theorem dX9_back_3 : decode cX9_back 3 = .ok (.ldc2_w 83, 3) := by decide +kernel
theorem dX9_back_6 : decode cX9_back 6 = .ok (.invokestatic 85, 3) := by decide +kernel
theorem dX9_back_9 : decode cX9_back 9 = .ok (.ifCond .ne 6, 3) := by decide +kernel
theorem dX9_back_12 : decode cX9_back 12 = .ok (.bipush (-2), 2) := by decide +kernel
theorem dX9_back_14 : decode cX9_back 14 = .ok (.ireturn, 1) := by decide +kernel
theorem dX9_back_15 : decode cX9_back 15 = .ok (.aload_n 0, 1) := by decide +kernel
theorem dX9_back_16 : decode cX9_back 16 = .ok (.getfield 16, 3) := by decide +kernel
theorem dX9_back_19 : decode cX9_back 19 = .ok (.iload_n 1, 1) := by decide +kernel
theorem dX9_back_20 : decode cX9_back 20 = .ok (.baload, 1) := by decide +kernel
theorem dX9_back_21 : decode cX9_back 21 = .ok (.ifCond .ne 6, 3) := by decide +kernel
theorem dX9_back_24 : decode cX9_back 24 = .ok (.bipush (-6), 2) := by decide +kernel
theorem dX9_back_26 : decode cX9_back 26 = .ok (.ireturn, 1) := by decide +kernel
theorem dX9_back_27 : decode cX9_back 27 = .ok (.iconst 0, 1) := by decide +kernel
theorem dX9_back_28 : decode cX9_back 28 = .ok (.istore_n 2, 1) := by decide +kernel
theorem dX9_back_29 : decode cX9_back 29 = .ok (.iload_n 2, 1) := by decide +kernel
theorem dX9_back_30 : decode cX9_back 30 = .ok (.bipush 47, 2) := by decide +kernel
theorem dX9_back_32 : decode cX9_back 32 = .ok (.if_icmp .ge 26, 3) := by decide +kernel
theorem dX9_back_35 : decode cX9_back 35 = .ok (.aload_n 0, 1) := by decide +kernel
theorem dX9_back_36 : decode cX9_back 36 = .ok (.getfield 9, 3) := by decide +kernel
theorem dX9_back_39 : decode cX9_back 39 = .ok (.iload_n 2, 1) := by decide +kernel
theorem dX9_back_40 : decode cX9_back 40 = .ok (.aload_n 0, 1) := by decide +kernel
theorem dX9_back_41 : decode cX9_back 41 = .ok (.getfield 13, 3) := by decide +kernel
theorem dX9_back_44 : decode cX9_back 44 = .ok (.bipush 47, 2) := by decide +kernel
theorem dX9_back_46 : decode cX9_back 46 = .ok (.iload_n 1, 1) := by decide +kernel
theorem dX9_back_47 : decode cX9_back 47 = .ok (.imul, 1) := by decide +kernel
theorem dX9_back_48 : decode cX9_back 48 = .ok (.iload_n 2, 1) := by decide +kernel
theorem dX9_back_49 : decode cX9_back 49 = .ok (.iadd, 1) := by decide +kernel
theorem dX9_back_50 : decode cX9_back 50 = .ok (.iaload, 1) := by decide +kernel
theorem dX9_back_51 : decode cX9_back 51 = .ok (.iastore, 1) := by decide +kernel
theorem dX9_back_52 : decode cX9_back 52 = .ok (.iinc 2 1, 3) := by decide +kernel
theorem dX9_back_55 : decode cX9_back 55 = .ok (.goto (-26), 3) := by decide +kernel
theorem dX9_back_58 : decode cX9_back 58 = .ok (.iconst 0, 1) := by decide +kernel
theorem dX9_back_59 : decode cX9_back 59 = .ok (.ireturn, 1) := by decide +kernel
theorem dX9_beginDay_0 : decode cX9_beginDay 0 = .ok (.iconst 0, 1) := by decide +kernel
theorem dX9_beginDay_1 : decode cX9_beginDay 1 = .ok (.istore_n 2, 1) := by decide +kernel
theorem dX9_beginDay_2 : decode cX9_beginDay 2 = .ok (.iload_n 2, 1) := by decide +kernel
theorem dX9_beginDay_3 : decode cX9_beginDay 3 = .ok (.aload_n 0, 1) := by decide +kernel
theorem dX9_beginDay_4 : decode cX9_beginDay 4 = .ok (.invokevirtual 97, 3) := by decide +kernel
theorem dX9_beginDay_7 : decode cX9_beginDay 7 = .ok (.if_icmp .ge 48, 3) := by decide +kernel
theorem dX9_beginDay_10 : decode cX9_beginDay 10 = .ok (.aload_n 0, 1) := by decide +kernel
theorem dX9_beginDay_11 : decode cX9_beginDay 11 = .ok (.getfield 40, 3) := by decide +kernel
theorem dX9_beginDay_14 : decode cX9_beginDay 14 = .ok (.iload_n 2, 1) := by decide +kernel
theorem dX9_beginDay_15 : decode cX9_beginDay 15 = .ok (.iaload, 1) := by decide +kernel
theorem dX9_beginDay_16 : decode cX9_beginDay 16 = .ok (.iload_n 1, 1) := by decide +kernel
theorem dX9_beginDay_17 : decode cX9_beginDay 17 = .ok (.if_icmp .ne 32, 3) := by decide +kernel
theorem dX9_beginDay_20 : decode cX9_beginDay 20 = .ok (.aload_n 0, 1) := by decide +kernel
theorem dX9_beginDay_21 : decode cX9_beginDay 21 = .ok (.getfield 238, 3) := by decide +kernel
theorem dX9_beginDay_24 : decode cX9_beginDay 24 = .ok (.iload_n 2, 1) := by decide +kernel
theorem dX9_beginDay_25 : decode cX9_beginDay 25 = .ok (.invokestatic 244, 3) := by decide +kernel
theorem dX9_beginDay_28 : decode cX9_beginDay 28 = .ok (.iconst 1, 1) := by decide +kernel
theorem dX9_beginDay_29 : decode cX9_beginDay 29 = .ok (.if_icmp .ne 20, 3) := by decide +kernel
theorem dX9_beginDay_32 : decode cX9_beginDay 32 = .ok (.aload_n 0, 1) := by decide +kernel
theorem dX9_beginDay_33 : decode cX9_beginDay 33 = .ok (.bipush 17, 2) := by decide +kernel
theorem dX9_beginDay_35 : decode cX9_beginDay 35 = .ok (.aload_n 0, 1) := by decide +kernel
theorem dX9_beginDay_36 : decode cX9_beginDay 36 = .ok (.getfield 9, 3) := by decide +kernel
theorem dX9_beginDay_39 : decode cX9_beginDay 39 = .ok (.bipush 15, 2) := by decide +kernel
theorem dX9_beginDay_41 : decode cX9_beginDay 41 = .ok (.iconst 2, 1) := by decide +kernel
theorem dX9_beginDay_42 : decode cX9_beginDay 42 = .ok (.iload_n 2, 1) := by decide +kernel
theorem dX9_beginDay_43 : decode cX9_beginDay 43 = .ok (.imul, 1) := by decide +kernel
theorem dX9_beginDay_44 : decode cX9_beginDay 44 = .ok (.iadd, 1) := by decide +kernel
theorem dX9_beginDay_45 : decode cX9_beginDay 45 = .ok (.iaload, 1) := by decide +kernel
theorem dX9_beginDay_46 : decode cX9_beginDay 46 = .ok (.invokevirtual 232, 3) := by decide +kernel
theorem dX9_beginDay_49 : decode cX9_beginDay 49 = .ok (.iinc 2 1, 3) := by decide +kernel
theorem dX9_beginDay_52 : decode cX9_beginDay 52 = .ok (.goto (-50), 3) := by decide +kernel
theorem dX9_beginDay_55 : decode cX9_beginDay 55 = .ok (.iconst 0, 1) := by decide +kernel
theorem dX9_beginDay_56 : decode cX9_beginDay 56 = .ok (.istore_n 2, 1) := by decide +kernel
theorem dX9_beginDay_57 : decode cX9_beginDay 57 = .ok (.iload_n 2, 1) := by decide +kernel
theorem dX9_beginDay_58 : decode cX9_beginDay 58 = .ok (.aload_n 0, 1) := by decide +kernel
theorem dX9_beginDay_59 : decode cX9_beginDay 59 = .ok (.getfield 9, 3) := by decide +kernel
theorem dX9_beginDay_62 : decode cX9_beginDay 62 = .ok (.iconst 5, 1) := by decide +kernel
theorem dX9_beginDay_63 : decode cX9_beginDay 63 = .ok (.iaload, 1) := by decide +kernel
theorem dX9_beginDay_64 : decode cX9_beginDay 64 = .ok (.if_icmp .ge 43, 3) := by decide +kernel
theorem dX9_beginDay_67 : decode cX9_beginDay 67 = .ok (.aload_n 0, 1) := by decide +kernel
theorem dX9_beginDay_68 : decode cX9_beginDay 68 = .ok (.getfield 9, 3) := by decide +kernel
theorem dX9_beginDay_71 : decode cX9_beginDay 71 = .ok (.bipush 27, 2) := by decide +kernel
theorem dX9_beginDay_73 : decode cX9_beginDay 73 = .ok (.iload_n 2, 1) := by decide +kernel
theorem dX9_beginDay_74 : decode cX9_beginDay 74 = .ok (.iadd, 1) := by decide +kernel
theorem dX9_beginDay_75 : decode cX9_beginDay 75 = .ok (.iaload, 1) := by decide +kernel
theorem dX9_beginDay_76 : decode cX9_beginDay 76 = .ok (.bipush 100, 2) := by decide +kernel
theorem dX9_beginDay_78 : decode cX9_beginDay 78 = .ok (.irem, 1) := by decide +kernel
theorem dX9_beginDay_79 : decode cX9_beginDay 79 = .ok (.iload_n 1, 1) := by decide +kernel
theorem dX9_beginDay_80 : decode cX9_beginDay 80 = .ok (.if_icmp .ne 21, 3) := by decide +kernel
theorem dX9_beginDay_83 : decode cX9_beginDay 83 = .ok (.aload_n 0, 1) := by decide +kernel
theorem dX9_beginDay_84 : decode cX9_beginDay 84 = .ok (.bipush 17, 2) := by decide +kernel
theorem dX9_beginDay_86 : decode cX9_beginDay 86 = .ok (.aload_n 0, 1) := by decide +kernel
theorem dX9_beginDay_87 : decode cX9_beginDay 87 = .ok (.getfield 9, 3) := by decide +kernel
theorem dX9_beginDay_90 : decode cX9_beginDay 90 = .ok (.bipush 27, 2) := by decide +kernel
theorem dX9_beginDay_92 : decode cX9_beginDay 92 = .ok (.iload_n 2, 1) := by decide +kernel
theorem dX9_beginDay_93 : decode cX9_beginDay 93 = .ok (.iadd, 1) := by decide +kernel
theorem dX9_beginDay_94 : decode cX9_beginDay 94 = .ok (.iaload, 1) := by decide +kernel
theorem dX9_beginDay_95 : decode cX9_beginDay 95 = .ok (.bipush 100, 2) := by decide +kernel
theorem dX9_beginDay_97 : decode cX9_beginDay 97 = .ok (.idiv, 1) := by decide +kernel
theorem dX9_beginDay_98 : decode cX9_beginDay 98 = .ok (.invokevirtual 232, 3) := by decide +kernel
theorem dX9_beginDay_101 : decode cX9_beginDay 101 = .ok (.iinc 2 1, 3) := by decide +kernel
theorem dX9_beginDay_104 : decode cX9_beginDay 104 = .ok (.goto (-47), 3) := by decide +kernel
theorem dX9_beginDay_107 : decode cX9_beginDay 107 = .ok (.aload_n 0, 1) := by decide +kernel
theorem dX9_beginDay_108 : decode cX9_beginDay 108 = .ok (.getfield 241, 3) := by decide +kernel
theorem dX9_beginDay_111 : decode cX9_beginDay 111 = .ok (.iload_n 1, 1) := by decide +kernel
theorem dX9_beginDay_112 : decode cX9_beginDay 112 = .ok (.if_icmp .ne 13, 3) := by decide +kernel
theorem dX9_beginDay_115 : decode cX9_beginDay 115 = .ok (.aload_n 0, 1) := by decide +kernel
theorem dX9_beginDay_116 : decode cX9_beginDay 116 = .ok (.bipush 17, 2) := by decide +kernel
theorem dX9_beginDay_118 : decode cX9_beginDay 118 = .ok (.aload_n 0, 1) := by decide +kernel
theorem dX9_beginDay_119 : decode cX9_beginDay 119 = .ok (.getfield 247, 3) := by decide +kernel
theorem dX9_beginDay_122 : decode cX9_beginDay 122 = .ok (.invokevirtual 232, 3) := by decide +kernel
theorem dX9_beginDay_125 : decode cX9_beginDay 125 = .ok (.iconst 0, 1) := by decide +kernel
theorem dX9_beginDay_126 : decode cX9_beginDay 126 = .ok (.istore_n 2, 1) := by decide +kernel
theorem dX9_beginDay_127 : decode cX9_beginDay 127 = .ok (.iload_n 2, 1) := by decide +kernel
theorem dX9_beginDay_128 : decode cX9_beginDay 128 = .ok (.aload_n 0, 1) := by decide +kernel
theorem dX9_beginDay_129 : decode cX9_beginDay 129 = .ok (.getfield 9, 3) := by decide +kernel
theorem dX9_beginDay_132 : decode cX9_beginDay 132 = .ok (.iconst 5, 1) := by decide +kernel
theorem dX9_beginDay_133 : decode cX9_beginDay 133 = .ok (.iaload, 1) := by decide +kernel
theorem dX9_beginDay_134 : decode cX9_beginDay 134 = .ok (.if_icmp .ge 28, 3) := by decide +kernel
theorem dX9_beginDay_137 : decode cX9_beginDay 137 = .ok (.aload_n 0, 1) := by decide +kernel
theorem dX9_beginDay_138 : decode cX9_beginDay 138 = .ok (.getfield 9, 3) := by decide +kernel
theorem dX9_beginDay_141 : decode cX9_beginDay 141 = .ok (.bipush 27, 2) := by decide +kernel
theorem dX9_beginDay_143 : decode cX9_beginDay 143 = .ok (.iload_n 2, 1) := by decide +kernel
theorem dX9_beginDay_144 : decode cX9_beginDay 144 = .ok (.iadd, 1) := by decide +kernel
theorem dX9_beginDay_145 : decode cX9_beginDay 145 = .ok (.iaload, 1) := by decide +kernel
theorem dX9_beginDay_146 : decode cX9_beginDay 146 = .ok (.iload_n 1, 1) := by decide +kernel
theorem dX9_beginDay_147 : decode cX9_beginDay 147 = .ok (.if_icmp .ne 9, 3) := by decide +kernel
theorem dX9_beginDay_150 : decode cX9_beginDay 150 = .ok (.aload_n 0, 1) := by decide +kernel
theorem dX9_beginDay_151 : decode cX9_beginDay 151 = .ok (.bipush 17, 2) := by decide +kernel
theorem dX9_beginDay_153 : decode cX9_beginDay 153 = .ok (.invokevirtual 250, 3) := by decide +kernel
theorem dX9_beginDay_156 : decode cX9_beginDay 156 = .ok (.iinc 2 1, 3) := by decide +kernel
theorem dX9_beginDay_159 : decode cX9_beginDay 159 = .ok (.goto (-32), 3) := by decide +kernel
theorem dX9_beginDay_162 : decode cX9_beginDay 162 = .ok (.return_, 1) := by decide +kernel
theorem dX9_bit_0 : decode cX9_bit 0 = .ok (.iload_n 0, 1) := by decide +kernel
theorem dX9_bit_1 : decode cX9_bit 1 = .ok (.iload_n 1, 1) := by decide +kernel
theorem dX9_bit_2 : decode cX9_bit 2 = .ok (.ishr, 1) := by decide +kernel
theorem dX9_bit_3 : decode cX9_bit 3 = .ok (.iconst 1, 1) := by decide +kernel
theorem dX9_bit_4 : decode cX9_bit 4 = .ok (.iand, 1) := by decide +kernel
theorem dX9_bit_5 : decode cX9_bit 5 = .ok (.ireturn, 1) := by decide +kernel
theorem dX9_bits_0 : decode cX9_bits 0 = .ok (.iconst 0, 1) := by decide +kernel
theorem dX9_bits_1 : decode cX9_bits 1 = .ok (.istore_n 1, 1) := by decide +kernel
theorem dX9_bits_2 : decode cX9_bits 2 = .ok (.iconst 0, 1) := by decide +kernel
theorem dX9_bits_3 : decode cX9_bits 3 = .ok (.istore_n 2, 1) := by decide +kernel
theorem dX9_bits_4 : decode cX9_bits 4 = .ok (.iload_n 2, 1) := by decide +kernel
theorem dX9_bits_5 : decode cX9_bits 5 = .ok (.bipush 16, 2) := by decide +kernel
theorem dX9_bits_7 : decode cX9_bits 7 = .ok (.if_icmp .ge 17, 3) := by decide +kernel
theorem dX9_bits_10 : decode cX9_bits 10 = .ok (.iload_n 1, 1) := by decide +kernel
theorem dX9_bits_11 : decode cX9_bits 11 = .ok (.iload_n 0, 1) := by decide +kernel
theorem dX9_bits_12 : decode cX9_bits 12 = .ok (.iload_n 2, 1) := by decide +kernel
theorem dX9_bits_13 : decode cX9_bits 13 = .ok (.ishr, 1) := by decide +kernel
theorem dX9_bits_14 : decode cX9_bits 14 = .ok (.iconst 1, 1) := by decide +kernel
theorem dX9_bits_15 : decode cX9_bits 15 = .ok (.iand, 1) := by decide +kernel
theorem dX9_bits_16 : decode cX9_bits 16 = .ok (.iadd, 1) := by decide +kernel
theorem dX9_bits_17 : decode cX9_bits 17 = .ok (.istore_n 1, 1) := by decide +kernel
theorem dX9_bits_18 : decode cX9_bits 18 = .ok (.iinc 2 1, 3) := by decide +kernel
theorem dX9_bits_21 : decode cX9_bits 21 = .ok (.goto (-17), 3) := by decide +kernel
theorem dX9_bits_24 : decode cX9_bits 24 = .ok (.iload_n 1, 1) := by decide +kernel
theorem dX9_bits_25 : decode cX9_bits 25 = .ok (.ireturn, 1) := by decide +kernel
theorem dX9_cart_0 : decode cX9_cart 0 = .ok (.aload_n 0, 1) := by decide +kernel
theorem dX9_cart_1 : decode cX9_cart 1 = .ok (.iload_n 1, 1) := by decide +kernel
theorem dX9_cart_2 : decode cX9_cart 2 = .ok (.invokevirtual 204, 3) := by decide +kernel
theorem dX9_cart_5 : decode cX9_cart 5 = .ok (.ifCond .eq 29, 3) := by decide +kernel
theorem dX9_cart_8 : decode cX9_cart 8 = .ok (.iload_n 2, 1) := by decide +kernel
theorem dX9_cart_9 : decode cX9_cart 9 = .ok (.i2l, 1) := by decide +kernel
theorem dX9_cart_10 : decode cX9_cart 10 = .ok (.lconst 0, 1) := by decide +kernel
theorem dX9_cart_11 : decode cX9_cart 11 = .ok (.lconst 1, 1) := by decide +kernel
theorem dX9_cart_12 : decode cX9_cart 12 = .ok (.invokestatic 85, 3) := by decide +kernel
theorem dX9_cart_15 : decode cX9_cart 15 = .ok (.ifCond .eq 19, 3) := by decide +kernel
theorem dX9_cart_18 : decode cX9_cart 18 = .ok (.aload_n 0, 1) := by decide +kernel
theorem dX9_cart_19 : decode cX9_cart 19 = .ok (.getfield 9, 3) := by decide +kernel
theorem dX9_cart_22 : decode cX9_cart 22 = .ok (.bipush 15, 2) := by decide +kernel
theorem dX9_cart_24 : decode cX9_cart 24 = .ok (.iconst 2, 1) := by decide +kernel
theorem dX9_cart_25 : decode cX9_cart 25 = .ok (.iload_n 1, 1) := by decide +kernel
theorem dX9_cart_26 : decode cX9_cart 26 = .ok (.imul, 1) := by decide +kernel
theorem dX9_cart_27 : decode cX9_cart 27 = .ok (.iadd, 1) := by decide +kernel
theorem dX9_cart_28 : decode cX9_cart 28 = .ok (.iload_n 2, 1) := by decide +kernel
theorem dX9_cart_29 : decode cX9_cart 29 = .ok (.iadd, 1) := by decide +kernel
theorem dX9_cart_30 : decode cX9_cart 30 = .ok (.iaload, 1) := by decide +kernel
theorem dX9_cart_31 : decode cX9_cart 31 = .ok (.goto 5, 3) := by decide +kernel
theorem dX9_cart_34 : decode cX9_cart 34 = .ok (.bipush (-2), 2) := by decide +kernel
theorem dX9_cart_36 : decode cX9_cart 36 = .ok (.ireturn, 1) := by decide +kernel
theorem dX9_cartMany_0 : decode cX9_cartMany 0 = .ok (.aload_n 0, 1) := by decide +kernel
theorem dX9_cartMany_1 : decode cX9_cartMany 1 = .ok (.getfield 9, 3) := by decide +kernel
theorem dX9_cartMany_4 : decode cX9_cartMany 4 = .ok (.iconst 4, 1) := by decide +kernel
theorem dX9_cartMany_5 : decode cX9_cartMany 5 = .ok (.iaload, 1) := by decide +kernel
theorem dX9_cartMany_6 : decode cX9_cartMany 6 = .ok (.ireturn, 1) := by decide +kernel
theorem dX9_copyRow_0 : decode cX9_copyRow 0 = .ok (.iconst 0, 1) := by decide +kernel
theorem dX9_copyRow_1 : decode cX9_copyRow 1 = .ok (.istore_n 3, 1) := by decide +kernel
theorem dX9_copyRow_2 : decode cX9_copyRow 2 = .ok (.iload_n 3, 1) := by decide +kernel
theorem dX9_copyRow_3 : decode cX9_copyRow 3 = .ok (.aload_n 0, 1) := by decide +kernel
theorem dX9_copyRow_4 : decode cX9_copyRow 4 = .ok (.iload_n 1, 1) := by decide +kernel
theorem dX9_copyRow_5 : decode cX9_copyRow 5 = .ok (.invokevirtual 207, 3) := by decide +kernel
theorem dX9_copyRow_8 : decode cX9_copyRow 8 = .ok (.if_icmp .gt 33, 3) := by decide +kernel
theorem dX9_copyRow_11 : decode cX9_copyRow 11 = .ok (.aload_n 0, 1) := by decide +kernel
theorem dX9_copyRow_12 : decode cX9_copyRow 12 = .ok (.getfield 34, 3) := by decide +kernel
theorem dX9_copyRow_15 : decode cX9_copyRow 15 = .ok (.sipush 701, 3) := by decide +kernel
theorem dX9_copyRow_18 : decode cX9_copyRow 18 = .ok (.iload_n 2, 1) := by decide +kernel
theorem dX9_copyRow_19 : decode cX9_copyRow 19 = .ok (.imul, 1) := by decide +kernel
theorem dX9_copyRow_20 : decode cX9_copyRow 20 = .ok (.iload_n 3, 1) := by decide +kernel
theorem dX9_copyRow_21 : decode cX9_copyRow 21 = .ok (.iadd, 1) := by decide +kernel
theorem dX9_copyRow_22 : decode cX9_copyRow 22 = .ok (.aload_n 0, 1) := by decide +kernel
theorem dX9_copyRow_23 : decode cX9_copyRow 23 = .ok (.getfield 34, 3) := by decide +kernel
theorem dX9_copyRow_26 : decode cX9_copyRow 26 = .ok (.sipush 701, 3) := by decide +kernel
theorem dX9_copyRow_29 : decode cX9_copyRow 29 = .ok (.iload_n 1, 1) := by decide +kernel
theorem dX9_copyRow_30 : decode cX9_copyRow 30 = .ok (.imul, 1) := by decide +kernel
theorem dX9_copyRow_31 : decode cX9_copyRow 31 = .ok (.iload_n 3, 1) := by decide +kernel
theorem dX9_copyRow_32 : decode cX9_copyRow 32 = .ok (.iadd, 1) := by decide +kernel
theorem dX9_copyRow_33 : decode cX9_copyRow 33 = .ok (.iaload, 1) := by decide +kernel
theorem dX9_copyRow_34 : decode cX9_copyRow 34 = .ok (.iastore, 1) := by decide +kernel
theorem dX9_copyRow_35 : decode cX9_copyRow 35 = .ok (.iinc 3 1, 3) := by decide +kernel
theorem dX9_copyRow_38 : decode cX9_copyRow 38 = .ok (.goto (-36), 3) := by decide +kernel
theorem dX9_copyRow_41 : decode cX9_copyRow 41 = .ok (.return_, 1) := by decide +kernel
theorem dX9_count_0 : decode cX9_count 0 = .ok (.iload_n 1, 1) := by decide +kernel
theorem dX9_count_1 : decode cX9_count 1 = .ok (.i2l, 1) := by decide +kernel
theorem dX9_count_2 : decode cX9_count 2 = .ok (.lconst 0, 1) := by decide +kernel
theorem dX9_count_3 : decode cX9_count 3 = .ok (.ldc2_w 478, 3) := by decide +kernel
theorem dX9_count_6 : decode cX9_count 6 = .ok (.invokestatic 85, 3) := by decide +kernel
theorem dX9_count_9 : decode cX9_count 9 = .ok (.ifCond .eq 10, 3) := by decide +kernel
theorem dX9_count_12 : decode cX9_count 12 = .ok (.aload_n 0, 1) := by decide +kernel
theorem dX9_count_13 : decode cX9_count 13 = .ok (.getfield 9, 3) := by decide +kernel
theorem dX9_count_16 : decode cX9_count 16 = .ok (.iload_n 1, 1) := by decide +kernel
theorem dX9_count_17 : decode cX9_count 17 = .ok (.iaload, 1) := by decide +kernel
theorem dX9_count_18 : decode cX9_count 18 = .ok (.ireturn, 1) := by decide +kernel
theorem dX9_count_19 : decode cX9_count 19 = .ok (.iload_n 1, 1) := by decide +kernel
theorem dX9_count_20 : decode cX9_count 20 = .ok (.bipush 7, 2) := by decide +kernel
theorem dX9_count_22 : decode cX9_count 22 = .ok (.if_icmp .ne 8, 3) := by decide +kernel
theorem dX9_count_25 : decode cX9_count 25 = .ok (.aload_n 0, 1) := by decide +kernel
theorem dX9_count_26 : decode cX9_count 26 = .ok (.getfield 100, 3) := by decide +kernel
theorem dX9_count_29 : decode cX9_count 29 = .ok (.ireturn, 1) := by decide +kernel
theorem dX9_count_30 : decode cX9_count 30 = .ok (.iload_n 1, 1) := by decide +kernel
theorem dX9_count_31 : decode cX9_count 31 = .ok (.bipush 8, 2) := by decide +kernel
theorem dX9_count_33 : decode cX9_count 33 = .ok (.if_icmp .eq 5, 3) := by decide +kernel
theorem dX9_count_36 : decode cX9_count 36 = .ok (.iconst (-1), 1) := by decide +kernel
theorem dX9_count_37 : decode cX9_count 37 = .ok (.ireturn, 1) := by decide +kernel
theorem dX9_count_38 : decode cX9_count 38 = .ok (.iconst 0, 1) := by decide +kernel
theorem dX9_count_39 : decode cX9_count 39 = .ok (.istore_n 2, 1) := by decide +kernel
theorem dX9_count_40 : decode cX9_count 40 = .ok (.iconst 0, 1) := by decide +kernel
theorem dX9_count_41 : decode cX9_count 41 = .ok (.istore_n 3, 1) := by decide +kernel
theorem dX9_count_42 : decode cX9_count 42 = .ok (.iload_n 3, 1) := by decide +kernel
theorem dX9_count_43 : decode cX9_count 43 = .ok (.iconst 4, 1) := by decide +kernel
theorem dX9_count_44 : decode cX9_count 44 = .ok (.if_icmp .ge 27, 3) := by decide +kernel
theorem dX9_count_47 : decode cX9_count 47 = .ok (.iload_n 2, 1) := by decide +kernel
theorem dX9_count_48 : decode cX9_count 48 = .ok (.aload_n 0, 1) := by decide +kernel
theorem dX9_count_49 : decode cX9_count 49 = .ok (.getfield 67, 3) := by decide +kernel
theorem dX9_count_52 : decode cX9_count 52 = .ok (.iload_n 3, 1) := by decide +kernel
theorem dX9_count_53 : decode cX9_count 53 = .ok (.iaload, 1) := by decide +kernel
theorem dX9_count_54 : decode cX9_count 54 = .ok (.iconst (-1), 1) := by decide +kernel
theorem dX9_count_55 : decode cX9_count 55 = .ok (.if_icmp .ne 7, 3) := by decide +kernel
theorem dX9_count_58 : decode cX9_count 58 = .ok (.iconst 0, 1) := by decide +kernel
theorem dX9_count_59 : decode cX9_count 59 = .ok (.goto 4, 3) := by decide +kernel
theorem dX9_count_62 : decode cX9_count 62 = .ok (.iconst 1, 1) := by decide +kernel
theorem dX9_count_63 : decode cX9_count 63 = .ok (.iadd, 1) := by decide +kernel
theorem dX9_count_64 : decode cX9_count 64 = .ok (.istore_n 2, 1) := by decide +kernel
theorem dX9_count_65 : decode cX9_count 65 = .ok (.iinc 3 1, 3) := by decide +kernel
theorem dX9_count_68 : decode cX9_count 68 = .ok (.goto (-26), 3) := by decide +kernel
theorem dX9_count_71 : decode cX9_count 71 = .ok (.iload_n 2, 1) := by decide +kernel
theorem dX9_count_72 : decode cX9_count 72 = .ok (.ireturn, 1) := by decide +kernel
theorem dX9_days_0 : decode cX9_days 0 = .ok (.aload_n 0, 1) := by decide +kernel
theorem dX9_days_1 : decode cX9_days 1 = .ok (.getfield 9, 3) := by decide +kernel
theorem dX9_days_4 : decode cX9_days 4 = .ok (.iconst 0, 1) := by decide +kernel
theorem dX9_days_5 : decode cX9_days 5 = .ok (.iaload, 1) := by decide +kernel
theorem dX9_days_6 : decode cX9_days 6 = .ok (.ireturn, 1) := by decide +kernel
theorem dX9_empty_0 : decode cX9_empty 0 = .ok (.aload_n 0, 1) := by decide +kernel
theorem dX9_empty_1 : decode cX9_empty 1 = .ok (.getfield 34, 3) := by decide +kernel
theorem dX9_empty_4 : decode cX9_empty 4 = .ok (.sipush 701, 3) := by decide +kernel
theorem dX9_empty_7 : decode cX9_empty 7 = .ok (.iload_n 1, 1) := by decide +kernel
theorem dX9_empty_8 : decode cX9_empty 8 = .ok (.imul, 1) := by decide +kernel
theorem dX9_empty_9 : decode cX9_empty 9 = .ok (.iconst 0, 1) := by decide +kernel
theorem dX9_empty_10 : decode cX9_empty 10 = .ok (.iastore, 1) := by decide +kernel
theorem dX9_empty_11 : decode cX9_empty 11 = .ok (.return_, 1) := by decide +kernel
theorem dX9_end_0 : decode cX9_end 0 = .ok (.iload_n 1, 1) := by decide +kernel
theorem dX9_end_1 : decode cX9_end 1 = .ok (.i2l, 1) := by decide +kernel
theorem dX9_end_2 : decode cX9_end 2 = .ok (.lconst 0, 1) := by decide +kernel
theorem dX9_end_3 : decode cX9_end 3 = .ok (.aload_n 0, 1) := by decide +kernel
theorem dX9_end_4 : decode cX9_end 4 = .ok (.getfield 100, 3) := by decide +kernel
theorem dX9_end_7 : decode cX9_end 7 = .ok (.i2l, 1) := by decide +kernel
theorem dX9_end_8 : decode cX9_end 8 = .ok (.invokestatic 85, 3) := by decide +kernel
theorem dX9_end_11 : decode cX9_end 11 = .ok (.ifCond .ne 5, 3) := by decide +kernel
theorem dX9_end_14 : decode cX9_end 14 = .ok (.iconst (-1), 1) := by decide +kernel
theorem dX9_end_15 : decode cX9_end 15 = .ok (.ireturn, 1) := by decide +kernel
theorem dX9_end_16 : decode cX9_end 16 = .ok (.aload_n 0, 1) := by decide +kernel
theorem dX9_end_17 : decode cX9_end 17 = .ok (.iload_n 1, 1) := by decide +kernel
theorem dX9_end_18 : decode cX9_end 18 = .ok (.putfield 100, 3) := by decide +kernel
theorem dX9_end_21 : decode cX9_end 21 = .ok (.iload_n 1, 1) := by decide +kernel
theorem dX9_end_22 : decode cX9_end 22 = .ok (.ireturn, 1) := by decide +kernel
theorem dX9_errs_0 : decode cX9_errs 0 = .ok (.aload_n 0, 1) := by decide +kernel
theorem dX9_errs_1 : decode cX9_errs 1 = .ok (.invokevirtual 140, 3) := by decide +kernel
theorem dX9_errs_4 : decode cX9_errs 4 = .ok (.ifCond .ne 4, 3) := by decide +kernel
theorem dX9_errs_7 : decode cX9_errs 7 = .ok (.return_, 1) := by decide +kernel
theorem dX9_errs_8 : decode cX9_errs 8 = .ok (.aload_n 0, 1) := by decide +kernel
theorem dX9_errs_9 : decode cX9_errs 9 = .ok (.iload_n 1, 1) := by decide +kernel
theorem dX9_errs_10 : decode cX9_errs 10 = .ok (.putfield 137, 3) := by decide +kernel
theorem dX9_errs_13 : decode cX9_errs 13 = .ok (.aload_n 0, 1) := by decide +kernel
theorem dX9_errs_14 : decode cX9_errs 14 = .ok (.aload_n 0, 1) := by decide +kernel
theorem dX9_errs_15 : decode cX9_errs 15 = .ok (.getfield 113, 3) := by decide +kernel
theorem dX9_errs_18 : decode cX9_errs 18 = .ok (.putfield 27, 3) := by decide +kernel
theorem dX9_errs_21 : decode cX9_errs 21 = .ok (.return_, 1) := by decide +kernel
theorem dX9_expects_0 : decode cX9_expects 0 = .ok (.aload_n 0, 1) := by decide +kernel
theorem dX9_expects_1 : decode cX9_expects 1 = .ok (.aload_n 1, 1) := by decide +kernel
theorem dX9_expects_2 : decode cX9_expects 2 = .ok (.invokevirtual 159, 3) := by decide +kernel
theorem dX9_expects_5 : decode cX9_expects 5 = .ok (.ifCond .ne 8, 3) := by decide +kernel
theorem dX9_expects_8 : decode cX9_expects 8 = .ok (.aload_n 0, 1) := by decide +kernel
theorem dX9_expects_9 : decode cX9_expects 9 = .ok (.iconst 1, 1) := by decide +kernel
theorem dX9_expects_10 : decode cX9_expects 10 = .ok (.invokevirtual 162, 3) := by decide +kernel
theorem dX9_expects_13 : decode cX9_expects 13 = .ok (.return_, 1) := by decide +kernel
theorem dX9_fault_0 : decode cX9_fault 0 = .ok (.iload_n 1, 1) := by decide +kernel
theorem dX9_fault_1 : decode cX9_fault 1 = .ok (.ifCond .ne 10, 3) := by decide +kernel
theorem dX9_fault_4 : decode cX9_fault 4 = .ok (.aload_n 0, 1) := by decide +kernel
theorem dX9_fault_5 : decode cX9_fault 5 = .ok (.getfield 137, 3) := by decide +kernel
theorem dX9_fault_8 : decode cX9_fault 8 = .ok (.goto 16, 3) := by decide +kernel
theorem dX9_fault_11 : decode cX9_fault 11 = .ok (.iload_n 1, 1) := by decide +kernel
theorem dX9_fault_12 : decode cX9_fault 12 = .ok (.iconst 1, 1) := by decide +kernel
theorem dX9_fault_13 : decode cX9_fault 13 = .ok (.if_icmp .ne 10, 3) := by decide +kernel
theorem dX9_fault_16 : decode cX9_fault 16 = .ok (.aload_n 0, 1) := by decide +kernel
theorem dX9_fault_17 : decode cX9_fault 17 = .ok (.getfield 27, 3) := by decide +kernel
theorem dX9_fault_20 : decode cX9_fault 20 = .ok (.goto 4, 3) := by decide +kernel
theorem dX9_fault_23 : decode cX9_fault 23 = .ok (.iconst (-1), 1) := by decide +kernel
theorem dX9_fault_24 : decode cX9_fault 24 = .ok (.ireturn, 1) := by decide +kernel
theorem dX9_feed_0 : decode cX9_feed 0 = .ok (.aload_n 0, 1) := by decide +kernel
theorem dX9_feed_1 : decode cX9_feed 1 = .ok (.getfield 100, 3) := by decide +kernel
theorem dX9_feed_4 : decode cX9_feed 4 = .ok (.bipush 20, 2) := by decide +kernel
theorem dX9_feed_6 : decode cX9_feed 6 = .ok (.iadd, 1) := by decide +kernel
theorem dX9_feed_7 : decode cX9_feed 7 = .ok (.sipush 500, 3) := by decide +kernel
theorem dX9_feed_10 : decode cX9_feed 10 = .ok (.if_icmp .le 5, 3) := by decide +kernel
theorem dX9_feed_13 : decode cX9_feed 13 = .ok (.iconst (-1), 1) := by decide +kernel
theorem dX9_feed_14 : decode cX9_feed 14 = .ok (.ireturn, 1) := by decide +kernel
theorem dX9_feed_15 : decode cX9_feed 15 = .ok (.aload_n 0, 1) := by decide +kernel
theorem dX9_feed_16 : decode cX9_feed 16 = .ok (.getfield 24, 3) := by decide +kernel
theorem dX9_feed_19 : decode cX9_feed 19 = .ok (.iconst 0, 1) := by decide +kernel
theorem dX9_feed_20 : decode cX9_feed 20 = .ok (.iload_n 1, 1) := by decide +kernel
theorem dX9_feed_21 : decode cX9_feed 21 = .ok (.iastore, 1) := by decide +kernel
theorem dX9_feed_22 : decode cX9_feed 22 = .ok (.aload_n 0, 1) := by decide +kernel
theorem dX9_feed_23 : decode cX9_feed 23 = .ok (.getfield 24, 3) := by decide +kernel
theorem dX9_feed_26 : decode cX9_feed 26 = .ok (.iconst 1, 1) := by decide +kernel
theorem dX9_feed_27 : decode cX9_feed 27 = .ok (.iload_n 2, 1) := by decide +kernel
theorem dX9_feed_28 : decode cX9_feed 28 = .ok (.iastore, 1) := by decide +kernel
theorem dX9_feed_29 : decode cX9_feed 29 = .ok (.aload_n 0, 1) := by decide +kernel
theorem dX9_feed_30 : decode cX9_feed 30 = .ok (.getfield 24, 3) := by decide +kernel
theorem dX9_feed_33 : decode cX9_feed 33 = .ok (.iconst 2, 1) := by decide +kernel
theorem dX9_feed_34 : decode cX9_feed 34 = .ok (.iload_n 3, 1) := by decide +kernel
theorem dX9_feed_35 : decode cX9_feed 35 = .ok (.iastore, 1) := by decide +kernel
theorem dX9_feed_36 : decode cX9_feed 36 = .ok (.aload_n 0, 1) := by decide +kernel
theorem dX9_feed_37 : decode cX9_feed 37 = .ok (.getfield 24, 3) := by decide +kernel
theorem dX9_feed_40 : decode cX9_feed 40 = .ok (.iconst 3, 1) := by decide +kernel
theorem dX9_feed_41 : decode cX9_feed 41 = .ok (.iload 4, 2) := by decide +kernel
theorem dX9_feed_43 : decode cX9_feed 43 = .ok (.iastore, 1) := by decide +kernel
theorem dX9_feed_44 : decode cX9_feed 44 = .ok (.aload_n 0, 1) := by decide +kernel
theorem dX9_feed_45 : decode cX9_feed 45 = .ok (.getfield 24, 3) := by decide +kernel
theorem dX9_feed_48 : decode cX9_feed 48 = .ok (.iconst 4, 1) := by decide +kernel
theorem dX9_feed_49 : decode cX9_feed 49 = .ok (.iload 5, 2) := by decide +kernel
theorem dX9_feed_51 : decode cX9_feed 51 = .ok (.iastore, 1) := by decide +kernel
theorem dX9_feed_52 : decode cX9_feed 52 = .ok (.iconst 0, 1) := by decide +kernel
theorem dX9_feed_53 : decode cX9_feed 53 = .ok (.istore 6, 2) := by decide +kernel
theorem dX9_feed_55 : decode cX9_feed 55 = .ok (.iload 6, 2) := by decide +kernel
theorem dX9_feed_57 : decode cX9_feed 57 = .ok (.bipush 20, 2) := by decide +kernel
theorem dX9_feed_59 : decode cX9_feed 59 = .ok (.if_icmp .ge 42, 3) := by decide +kernel
theorem dX9_feed_62 : decode cX9_feed 62 = .ok (.aload_n 0, 1) := by decide +kernel
theorem dX9_feed_63 : decode cX9_feed 63 = .ok (.getfield 20, 3) := by decide +kernel
theorem dX9_feed_66 : decode cX9_feed 66 = .ok (.aload_n 0, 1) := by decide +kernel
theorem dX9_feed_67 : decode cX9_feed 67 = .ok (.getfield 100, 3) := by decide +kernel
theorem dX9_feed_70 : decode cX9_feed 70 = .ok (.iload 6, 2) := by decide +kernel
theorem dX9_feed_72 : decode cX9_feed 72 = .ok (.iadd, 1) := by decide +kernel
theorem dX9_feed_73 : decode cX9_feed 73 = .ok (.aload_n 0, 1) := by decide +kernel
theorem dX9_feed_74 : decode cX9_feed 74 = .ok (.getfield 24, 3) := by decide +kernel
theorem dX9_feed_77 : decode cX9_feed 77 = .ok (.iload 6, 2) := by decide +kernel
theorem dX9_feed_79 : decode cX9_feed 79 = .ok (.iconst 4, 1) := by decide +kernel
theorem dX9_feed_80 : decode cX9_feed 80 = .ok (.idiv, 1) := by decide +kernel
theorem dX9_feed_81 : decode cX9_feed 81 = .ok (.iaload, 1) := by decide +kernel
theorem dX9_feed_82 : decode cX9_feed 82 = .ok (.bipush 24, 2) := by decide +kernel
theorem dX9_feed_84 : decode cX9_feed 84 = .ok (.bipush 8, 2) := by decide +kernel
theorem dX9_feed_86 : decode cX9_feed 86 = .ok (.iload 6, 2) := by decide +kernel
theorem dX9_feed_88 : decode cX9_feed 88 = .ok (.iconst 4, 1) := by decide +kernel
theorem dX9_feed_89 : decode cX9_feed 89 = .ok (.irem, 1) := by decide +kernel
theorem dX9_feed_90 : decode cX9_feed 90 = .ok (.imul, 1) := by decide +kernel
theorem dX9_feed_91 : decode cX9_feed 91 = .ok (.isub, 1) := by decide +kernel
theorem dX9_feed_92 : decode cX9_feed 92 = .ok (.ishr, 1) := by decide +kernel
theorem dX9_feed_93 : decode cX9_feed 93 = .ok (.i2b, 1) := by decide +kernel
theorem dX9_feed_94 : decode cX9_feed 94 = .ok (.bastore, 1) := by decide +kernel
theorem dX9_feed_95 : decode cX9_feed 95 = .ok (.iinc 6 1, 3) := by decide +kernel
theorem dX9_feed_98 : decode cX9_feed 98 = .ok (.goto (-43), 3) := by decide +kernel
theorem dX9_feed_101 : decode cX9_feed 101 = .ok (.aload_n 0, 1) := by decide +kernel
theorem dX9_feed_102 : decode cX9_feed 102 = .ok (.dup, 1) := by decide +kernel
theorem dX9_feed_103 : decode cX9_feed 103 = .ok (.getfield 100, 3) := by decide +kernel
theorem dX9_feed_106 : decode cX9_feed 106 = .ok (.bipush 20, 2) := by decide +kernel
theorem dX9_feed_108 : decode cX9_feed 108 = .ok (.iadd, 1) := by decide +kernel
theorem dX9_feed_109 : decode cX9_feed 109 = .ok (.putfield 100, 3) := by decide +kernel
theorem dX9_feed_112 : decode cX9_feed 112 = .ok (.aload_n 0, 1) := by decide +kernel
theorem dX9_feed_113 : decode cX9_feed 113 = .ok (.getfield 100, 3) := by decide +kernel
theorem dX9_feed_116 : decode cX9_feed 116 = .ok (.ireturn, 1) := by decide +kernel
theorem dX9_goAll_0 : decode cX9_goAll 0 = .ok (.aload_n 0, 1) := by decide +kernel
theorem dX9_goAll_1 : decode cX9_goAll 1 = .ok (.bipush 17, 2) := by decide +kernel
theorem dX9_goAll_3 : decode cX9_goAll 3 = .ok (.invokevirtual 229, 3) := by decide +kernel
theorem dX9_goAll_6 : decode cX9_goAll 6 = .ok (.iconst 0, 1) := by decide +kernel
theorem dX9_goAll_7 : decode cX9_goAll 7 = .ok (.istore_n 1, 1) := by decide +kernel
theorem dX9_goAll_8 : decode cX9_goAll 8 = .ok (.iload_n 1, 1) := by decide +kernel
theorem dX9_goAll_9 : decode cX9_goAll 9 = .ok (.aload_n 0, 1) := by decide +kernel
theorem dX9_goAll_10 : decode cX9_goAll 10 = .ok (.getfield 9, 3) := by decide +kernel
theorem dX9_goAll_13 : decode cX9_goAll 13 = .ok (.iconst 3, 1) := by decide +kernel
theorem dX9_goAll_14 : decode cX9_goAll 14 = .ok (.iaload, 1) := by decide +kernel
theorem dX9_goAll_15 : decode cX9_goAll 15 = .ok (.if_icmp .ge 21, 3) := by decide +kernel
theorem dX9_goAll_18 : decode cX9_goAll 18 = .ok (.aload_n 0, 1) := by decide +kernel
theorem dX9_goAll_19 : decode cX9_goAll 19 = .ok (.bipush 17, 2) := by decide +kernel
theorem dX9_goAll_21 : decode cX9_goAll 21 = .ok (.aload_n 0, 1) := by decide +kernel
theorem dX9_goAll_22 : decode cX9_goAll 22 = .ok (.getfield 37, 3) := by decide +kernel
theorem dX9_goAll_25 : decode cX9_goAll 25 = .ok (.iload_n 1, 1) := by decide +kernel
theorem dX9_goAll_26 : decode cX9_goAll 26 = .ok (.iaload, 1) := by decide +kernel
theorem dX9_goAll_27 : decode cX9_goAll 27 = .ok (.invokevirtual 232, 3) := by decide +kernel
theorem dX9_goAll_30 : decode cX9_goAll 30 = .ok (.iinc 1 1, 3) := by decide +kernel
theorem dX9_goAll_33 : decode cX9_goAll 33 = .ok (.goto (-25), 3) := by decide +kernel
theorem dX9_goAll_36 : decode cX9_goAll 36 = .ok (.iconst 0, 1) := by decide +kernel
theorem dX9_goAll_37 : decode cX9_goAll 37 = .ok (.istore_n 1, 1) := by decide +kernel
theorem dX9_goAll_38 : decode cX9_goAll 38 = .ok (.iload_n 1, 1) := by decide +kernel
theorem dX9_goAll_39 : decode cX9_goAll 39 = .ok (.aload_n 0, 1) := by decide +kernel
theorem dX9_goAll_40 : decode cX9_goAll 40 = .ok (.invokevirtual 93, 3) := by decide +kernel
theorem dX9_goAll_43 : decode cX9_goAll 43 = .ok (.if_icmp .gt 77, 3) := by decide +kernel
theorem dX9_goAll_46 : decode cX9_goAll 46 = .ok (.aload_n 0, 1) := by decide +kernel
theorem dX9_goAll_47 : decode cX9_goAll 47 = .ok (.iload_n 1, 1) := by decide +kernel
theorem dX9_goAll_48 : decode cX9_goAll 48 = .ok (.invokevirtual 253, 3) := by decide +kernel
theorem dX9_goAll_51 : decode cX9_goAll 51 = .ok (.aload_n 0, 1) := by decide +kernel
theorem dX9_goAll_52 : decode cX9_goAll 52 = .ok (.bipush 17, 2) := by decide +kernel
theorem dX9_goAll_54 : decode cX9_goAll 54 = .ok (.iload_n 1, 1) := by decide +kernel
theorem dX9_goAll_55 : decode cX9_goAll 55 = .ok (.invokevirtual 225, 3) := by decide +kernel
theorem dX9_goAll_58 : decode cX9_goAll 58 = .ok (.iload_n 1, 1) := by decide +kernel
theorem dX9_goAll_59 : decode cX9_goAll 59 = .ok (.aload_n 0, 1) := by decide +kernel
theorem dX9_goAll_60 : decode cX9_goAll 60 = .ok (.invokevirtual 93, 3) := by decide +kernel
theorem dX9_goAll_63 : decode cX9_goAll 63 = .ok (.if_icmp .ne 4, 3) := by decide +kernel
theorem dX9_goAll_66 : decode cX9_goAll 66 = .ok (.return_, 1) := by decide +kernel
theorem dX9_goAll_67 : decode cX9_goAll 67 = .ok (.aload_n 0, 1) := by decide +kernel
theorem dX9_goAll_68 : decode cX9_goAll 68 = .ok (.iconst 0, 1) := by decide +kernel
theorem dX9_goAll_69 : decode cX9_goAll 69 = .ok (.putfield 216, 3) := by decide +kernel
theorem dX9_goAll_72 : decode cX9_goAll 72 = .ok (.aload_n 0, 1) := by decide +kernel
theorem dX9_goAll_73 : decode cX9_goAll 73 = .ok (.iconst 0, 1) := by decide +kernel
theorem dX9_goAll_74 : decode cX9_goAll 74 = .ok (.putfield 219, 3) := by decide +kernel
theorem dX9_goAll_77 : decode cX9_goAll 77 = .ok (.aload_n 0, 1) := by decide +kernel
theorem dX9_goAll_78 : decode cX9_goAll 78 = .ok (.getfield 235, 3) := by decide +kernel
theorem dX9_goAll_81 : decode cX9_goAll 81 = .ok (.iload_n 1, 1) := by decide +kernel
theorem dX9_goAll_82 : decode cX9_goAll 82 = .ok (.invokestatic 244, 3) := by decide +kernel
theorem dX9_goAll_85 : decode cX9_goAll 85 = .ok (.ifCond .ne 9, 3) := by decide +kernel
theorem dX9_goAll_88 : decode cX9_goAll 88 = .ok (.aload_n 0, 1) := by decide +kernel
theorem dX9_goAll_89 : decode cX9_goAll 89 = .ok (.bipush 17, 2) := by decide +kernel
theorem dX9_goAll_91 : decode cX9_goAll 91 = .ok (.invokevirtual 256, 3) := by decide +kernel
theorem dX9_goAll_94 : decode cX9_goAll 94 = .ok (.aload_n 0, 1) := by decide +kernel
theorem dX9_goAll_95 : decode cX9_goAll 95 = .ok (.getfield 43, 3) := by decide +kernel
theorem dX9_goAll_98 : decode cX9_goAll 98 = .ok (.iload_n 1, 1) := by decide +kernel
theorem dX9_goAll_99 : decode cX9_goAll 99 = .ok (.aload_n 0, 1) := by decide +kernel
theorem dX9_goAll_100 : decode cX9_goAll 100 = .ok (.getfield 216, 3) := by decide +kernel
theorem dX9_goAll_103 : decode cX9_goAll 103 = .ok (.iastore, 1) := by decide +kernel
theorem dX9_goAll_104 : decode cX9_goAll 104 = .ok (.aload_n 0, 1) := by decide +kernel
theorem dX9_goAll_105 : decode cX9_goAll 105 = .ok (.getfield 46, 3) := by decide +kernel
theorem dX9_goAll_108 : decode cX9_goAll 108 = .ok (.iload_n 1, 1) := by decide +kernel
theorem dX9_goAll_109 : decode cX9_goAll 109 = .ok (.aload_n 0, 1) := by decide +kernel
theorem dX9_goAll_110 : decode cX9_goAll 110 = .ok (.getfield 219, 3) := by decide +kernel
theorem dX9_goAll_113 : decode cX9_goAll 113 = .ok (.iastore, 1) := by decide +kernel
theorem dX9_goAll_114 : decode cX9_goAll 114 = .ok (.iinc 1 1, 3) := by decide +kernel
theorem dX9_goAll_117 : decode cX9_goAll 117 = .ok (.goto (-79), 3) := by decide +kernel
theorem dX9_goAll_120 : decode cX9_goAll 120 = .ok (.return_, 1) := by decide +kernel
theorem dX9_good_0 : decode cX9_good 0 = .ok (.aload_n 0, 1) := by decide +kernel
theorem dX9_good_1 : decode cX9_good 1 = .ok (.getfield 137, 3) := by decide +kernel
theorem dX9_good_4 : decode cX9_good 4 = .ok (.ifCond .ne 7, 3) := by decide +kernel
theorem dX9_good_7 : decode cX9_good 7 = .ok (.iconst 1, 1) := by decide +kernel
theorem dX9_good_8 : decode cX9_good 8 = .ok (.goto 4, 3) := by decide +kernel
theorem dX9_good_11 : decode cX9_good 11 = .ok (.iconst 0, 1) := by decide +kernel
theorem dX9_good_12 : decode cX9_good 12 = .ok (.ireturn, 1) := by decide +kernel
theorem dX9_heightOf_0 : decode cX9_heightOf 0 = .ok (.aload_n 0, 1) := by decide +kernel
theorem dX9_heightOf_1 : decode cX9_heightOf 1 = .ok (.getfield 34, 3) := by decide +kernel
theorem dX9_heightOf_4 : decode cX9_heightOf 4 = .ok (.sipush 701, 3) := by decide +kernel
theorem dX9_heightOf_7 : decode cX9_heightOf 7 = .ok (.iload_n 1, 1) := by decide +kernel
theorem dX9_heightOf_8 : decode cX9_heightOf 8 = .ok (.imul, 1) := by decide +kernel
theorem dX9_heightOf_9 : decode cX9_heightOf 9 = .ok (.iconst 1, 1) := by decide +kernel
theorem dX9_heightOf_10 : decode cX9_heightOf 10 = .ok (.iadd, 1) := by decide +kernel
theorem dX9_heightOf_11 : decode cX9_heightOf 11 = .ok (.iload_n 2, 1) := by decide +kernel
theorem dX9_heightOf_12 : decode cX9_heightOf 12 = .ok (.iadd, 1) := by decide +kernel
theorem dX9_heightOf_13 : decode cX9_heightOf 13 = .ok (.iaload, 1) := by decide +kernel
theorem dX9_heightOf_14 : decode cX9_heightOf 14 = .ok (.ireturn, 1) := by decide +kernel
theorem dX9_highestOf_0 : decode cX9_highestOf 0 = .ok (.aload_n 0, 1) := by decide +kernel
theorem dX9_highestOf_1 : decode cX9_highestOf 1 = .ok (.iload_n 1, 1) := by decide +kernel
theorem dX9_highestOf_2 : decode cX9_highestOf 2 = .ok (.invokevirtual 207, 3) := by decide +kernel
theorem dX9_highestOf_5 : decode cX9_highestOf 5 = .ok (.ifCond .ne 7, 3) := by decide +kernel
theorem dX9_highestOf_8 : decode cX9_highestOf 8 = .ok (.iconst 0, 1) := by decide +kernel
theorem dX9_highestOf_9 : decode cX9_highestOf 9 = .ok (.goto 9, 3) := by decide +kernel
theorem dX9_highestOf_12 : decode cX9_highestOf 12 = .ok (.aload_n 0, 1) := by decide +kernel
theorem dX9_highestOf_13 : decode cX9_highestOf 13 = .ok (.iload_n 1, 1) := by decide +kernel
theorem dX9_highestOf_14 : decode cX9_highestOf 14 = .ok (.iconst 0, 1) := by decide +kernel
theorem dX9_highestOf_15 : decode cX9_highestOf 15 = .ok (.invokevirtual 210, 3) := by decide +kernel
theorem dX9_highestOf_18 : decode cX9_highestOf 18 = .ok (.ireturn, 1) := by decide +kernel
theorem dX9_image_0 : decode cX9_image 0 = .ok (.iload_n 1, 1) := by decide +kernel
theorem dX9_image_1 : decode cX9_image 1 = .ok (.i2l, 1) := by decide +kernel
theorem dX9_image_2 : decode cX9_image 2 = .ok (.lconst 0, 1) := by decide +kernel
theorem dX9_image_3 : decode cX9_image 3 = .ok (.ldc2_w 83, 3) := by decide +kernel
theorem dX9_image_6 : decode cX9_image 6 = .ok (.invokestatic 85, 3) := by decide +kernel
theorem dX9_image_9 : decode cX9_image 9 = .ok (.ifCond .ne 6, 3) := by decide +kernel
theorem dX9_image_12 : decode cX9_image 12 = .ok (.bipush (-2), 2) := by decide +kernel
theorem dX9_image_14 : decode cX9_image 14 = .ok (.ireturn, 1) := by decide +kernel
theorem dX9_image_15 : decode cX9_image 15 = .ok (.iconst 0, 1) := by decide +kernel
theorem dX9_image_16 : decode cX9_image 16 = .ok (.istore_n 2, 1) := by decide +kernel
theorem dX9_image_17 : decode cX9_image 17 = .ok (.iload_n 2, 1) := by decide +kernel
theorem dX9_image_18 : decode cX9_image 18 = .ok (.bipush 47, 2) := by decide +kernel
theorem dX9_image_20 : decode cX9_image 20 = .ok (.if_icmp .ge 26, 3) := by decide +kernel
theorem dX9_image_23 : decode cX9_image 23 = .ok (.aload_n 0, 1) := by decide +kernel
theorem dX9_image_24 : decode cX9_image 24 = .ok (.getfield 13, 3) := by decide +kernel
theorem dX9_image_27 : decode cX9_image 27 = .ok (.bipush 47, 2) := by decide +kernel
theorem dX9_image_29 : decode cX9_image 29 = .ok (.iload_n 1, 1) := by decide +kernel
theorem dX9_image_30 : decode cX9_image 30 = .ok (.imul, 1) := by decide +kernel
theorem dX9_image_31 : decode cX9_image 31 = .ok (.iload_n 2, 1) := by decide +kernel
theorem dX9_image_32 : decode cX9_image 32 = .ok (.iadd, 1) := by decide +kernel
theorem dX9_image_33 : decode cX9_image 33 = .ok (.aload_n 0, 1) := by decide +kernel
theorem dX9_image_34 : decode cX9_image 34 = .ok (.getfield 9, 3) := by decide +kernel
theorem dX9_image_37 : decode cX9_image 37 = .ok (.iload_n 2, 1) := by decide +kernel
theorem dX9_image_38 : decode cX9_image 38 = .ok (.iaload, 1) := by decide +kernel
theorem dX9_image_39 : decode cX9_image 39 = .ok (.iastore, 1) := by decide +kernel
theorem dX9_image_40 : decode cX9_image 40 = .ok (.iinc 2 1, 3) := by decide +kernel
theorem dX9_image_43 : decode cX9_image 43 = .ok (.goto (-26), 3) := by decide +kernel
theorem dX9_image_46 : decode cX9_image 46 = .ok (.aload_n 0, 1) := by decide +kernel
theorem dX9_image_47 : decode cX9_image 47 = .ok (.getfield 16, 3) := by decide +kernel
theorem dX9_image_50 : decode cX9_image 50 = .ok (.iload_n 1, 1) := by decide +kernel
theorem dX9_image_51 : decode cX9_image 51 = .ok (.iconst 1, 1) := by decide +kernel
theorem dX9_image_52 : decode cX9_image 52 = .ok (.bastore, 1) := by decide +kernel
theorem dX9_image_53 : decode cX9_image 53 = .ok (.iconst 0, 1) := by decide +kernel
theorem dX9_image_54 : decode cX9_image 54 = .ok (.ireturn, 1) := by decide +kernel
theorem dX9_in_0 : decode cX9_in 0 = .ok (.lload_n 0, 1) := by decide +kernel
theorem dX9_in_1 : decode cX9_in 1 = .ok (.lload_n 2, 1) := by decide +kernel
theorem dX9_in_2 : decode cX9_in 2 = .ok (.lcmp, 1) := by decide +kernel
theorem dX9_in_3 : decode cX9_in 3 = .ok (.ifCond .lt 14, 3) := by decide +kernel
theorem dX9_in_6 : decode cX9_in 6 = .ok (.lload_n 0, 1) := by decide +kernel
theorem dX9_in_7 : decode cX9_in 7 = .ok (.lload 4, 2) := by decide +kernel
theorem dX9_in_9 : decode cX9_in 9 = .ok (.lcmp, 1) := by decide +kernel
theorem dX9_in_10 : decode cX9_in 10 = .ok (.ifCond .gt 7, 3) := by decide +kernel
theorem dX9_in_13 : decode cX9_in 13 = .ok (.iconst 1, 1) := by decide +kernel
theorem dX9_in_14 : decode cX9_in 14 = .ok (.goto 4, 3) := by decide +kernel
theorem dX9_in_17 : decode cX9_in 17 = .ok (.iconst 0, 1) := by decide +kernel
theorem dX9_in_18 : decode cX9_in 18 = .ok (.ireturn, 1) := by decide +kernel
theorem dX9_is_0 : decode cX9_is 0 = .ok (.aload_n 0, 1) := by decide +kernel
theorem dX9_is_1 : decode cX9_is 1 = .ok (.invokevirtual 140, 3) := by decide +kernel
theorem dX9_is_4 : decode cX9_is 4 = .ok (.ifCond .eq 31, 3) := by decide +kernel
theorem dX9_is_7 : decode cX9_is 7 = .ok (.aload_n 0, 1) := by decide +kernel
theorem dX9_is_8 : decode cX9_is 8 = .ok (.getfield 116, 3) := by decide +kernel
theorem dX9_is_11 : decode cX9_is 11 = .ok (.iconst 1, 1) := by decide +kernel
theorem dX9_is_12 : decode cX9_is 12 = .ok (.if_icmp .ne 23, 3) := by decide +kernel
theorem dX9_is_15 : decode cX9_is 15 = .ok (.aload_n 0, 1) := by decide +kernel
theorem dX9_is_16 : decode cX9_is 16 = .ok (.getfield 106, 3) := by decide +kernel
theorem dX9_is_19 : decode cX9_is 19 = .ok (.aload_n 0, 1) := by decide +kernel
theorem dX9_is_20 : decode cX9_is 20 = .ok (.getfield 113, 3) := by decide +kernel
theorem dX9_is_23 : decode cX9_is 23 = .ok (.isub, 1) := by decide +kernel
theorem dX9_is_24 : decode cX9_is 24 = .ok (.aload_n 1, 1) := by decide +kernel
theorem dX9_is_25 : decode cX9_is 25 = .ok (.invokevirtual 143, 3) := by decide +kernel
theorem dX9_is_28 : decode cX9_is 28 = .ok (.if_icmp .ne 7, 3) := by decide +kernel
theorem dX9_is_31 : decode cX9_is 31 = .ok (.iconst 1, 1) := by decide +kernel
theorem dX9_is_32 : decode cX9_is 32 = .ok (.goto 4, 3) := by decide +kernel
theorem dX9_is_35 : decode cX9_is 35 = .ok (.iconst 0, 1) := by decide +kernel
theorem dX9_is_36 : decode cX9_is 36 = .ok (.istore_n 2, 1) := by decide +kernel
theorem dX9_is_37 : decode cX9_is 37 = .ok (.iconst 0, 1) := by decide +kernel
theorem dX9_is_38 : decode cX9_is 38 = .ok (.istore_n 3, 1) := by decide +kernel
theorem dX9_is_39 : decode cX9_is 39 = .ok (.iload_n 3, 1) := by decide +kernel
theorem dX9_is_40 : decode cX9_is 40 = .ok (.aload_n 1, 1) := by decide +kernel
theorem dX9_is_41 : decode cX9_is 41 = .ok (.invokevirtual 143, 3) := by decide +kernel
theorem dX9_is_44 : decode cX9_is 44 = .ok (.if_icmp .ge 38, 3) := by decide +kernel
theorem dX9_is_47 : decode cX9_is 47 = .ok (.iload_n 2, 1) := by decide +kernel
theorem dX9_is_48 : decode cX9_is 48 = .ok (.ifCond .eq 34, 3) := by decide +kernel
theorem dX9_is_51 : decode cX9_is 51 = .ok (.aload_n 0, 1) := by decide +kernel
theorem dX9_is_52 : decode cX9_is 52 = .ok (.getfield 20, 3) := by decide +kernel
theorem dX9_is_55 : decode cX9_is 55 = .ok (.aload_n 0, 1) := by decide +kernel
theorem dX9_is_56 : decode cX9_is 56 = .ok (.getfield 113, 3) := by decide +kernel
theorem dX9_is_59 : decode cX9_is 59 = .ok (.iload_n 3, 1) := by decide +kernel
theorem dX9_is_60 : decode cX9_is 60 = .ok (.iadd, 1) := by decide +kernel
theorem dX9_is_61 : decode cX9_is 61 = .ok (.baload, 1) := by decide +kernel
theorem dX9_is_62 : decode cX9_is 62 = .ok (.aload_n 1, 1) := by decide +kernel
theorem dX9_is_63 : decode cX9_is 63 = .ok (.iload_n 3, 1) := by decide +kernel
theorem dX9_is_64 : decode cX9_is 64 = .ok (.invokevirtual 148, 3) := by decide +kernel
theorem dX9_is_67 : decode cX9_is 67 = .ok (.if_icmp .ne 7, 3) := by decide +kernel
theorem dX9_is_70 : decode cX9_is 70 = .ok (.iconst 1, 1) := by decide +kernel
theorem dX9_is_71 : decode cX9_is 71 = .ok (.goto 4, 3) := by decide +kernel
theorem dX9_is_74 : decode cX9_is 74 = .ok (.iconst 0, 1) := by decide +kernel
theorem dX9_is_75 : decode cX9_is 75 = .ok (.istore_n 2, 1) := by decide +kernel
theorem dX9_is_76 : decode cX9_is 76 = .ok (.iinc 3 1, 3) := by decide +kernel
theorem dX9_is_79 : decode cX9_is 79 = .ok (.goto (-40), 3) := by decide +kernel
theorem dX9_is_82 : decode cX9_is 82 = .ok (.iload_n 2, 1) := by decide +kernel
theorem dX9_is_83 : decode cX9_is 83 = .ok (.ireturn, 1) := by decide +kernel
theorem dX9_isAhead_0 : decode cX9_isAhead 0 = .ok (.aload_n 0, 1) := by decide +kernel
theorem dX9_isAhead_1 : decode cX9_isAhead 1 = .ok (.invokevirtual 89, 3) := by decide +kernel
theorem dX9_isAhead_4 : decode cX9_isAhead 4 = .ok (.ifCond .eq 22, 3) := by decide +kernel
theorem dX9_isAhead_7 : decode cX9_isAhead 7 = .ok (.lload_n 1, 1) := by decide +kernel
theorem dX9_isAhead_8 : decode cX9_isAhead 8 = .ok (.lconst 0, 1) := by decide +kernel
theorem dX9_isAhead_9 : decode cX9_isAhead 9 = .ok (.aload_n 0, 1) := by decide +kernel
theorem dX9_isAhead_10 : decode cX9_isAhead 10 = .ok (.invokevirtual 93, 3) := by decide +kernel
theorem dX9_isAhead_13 : decode cX9_isAhead 13 = .ok (.iconst 1, 1) := by decide +kernel
theorem dX9_isAhead_14 : decode cX9_isAhead 14 = .ok (.isub, 1) := by decide +kernel
theorem dX9_isAhead_15 : decode cX9_isAhead 15 = .ok (.i2l, 1) := by decide +kernel
theorem dX9_isAhead_16 : decode cX9_isAhead 16 = .ok (.invokestatic 85, 3) := by decide +kernel
theorem dX9_isAhead_19 : decode cX9_isAhead 19 = .ok (.ifCond .eq 7, 3) := by decide +kernel
theorem dX9_isAhead_22 : decode cX9_isAhead 22 = .ok (.iconst 1, 1) := by decide +kernel
theorem dX9_isAhead_23 : decode cX9_isAhead 23 = .ok (.goto 4, 3) := by decide +kernel
theorem dX9_isAhead_26 : decode cX9_isAhead 26 = .ok (.iconst 0, 1) := by decide +kernel
theorem dX9_isAhead_27 : decode cX9_isAhead 27 = .ok (.ireturn, 1) := by decide +kernel
theorem dX9_isCart_0 : decode cX9_isCart 0 = .ok (.iload_n 1, 1) := by decide +kernel
theorem dX9_isCart_1 : decode cX9_isCart 1 = .ok (.i2l, 1) := by decide +kernel
theorem dX9_isCart_2 : decode cX9_isCart 2 = .ok (.lconst 0, 1) := by decide +kernel
theorem dX9_isCart_3 : decode cX9_isCart 3 = .ok (.aload_n 0, 1) := by decide +kernel
theorem dX9_isCart_4 : decode cX9_isCart 4 = .ok (.invokevirtual 97, 3) := by decide +kernel
theorem dX9_isCart_7 : decode cX9_isCart 7 = .ok (.iconst 1, 1) := by decide +kernel
theorem dX9_isCart_8 : decode cX9_isCart 8 = .ok (.isub, 1) := by decide +kernel
theorem dX9_isCart_9 : decode cX9_isCart 9 = .ok (.i2l, 1) := by decide +kernel
theorem dX9_isCart_10 : decode cX9_isCart 10 = .ok (.invokestatic 85, 3) := by decide +kernel
theorem dX9_isCart_13 : decode cX9_isCart 13 = .ok (.ireturn, 1) := by decide +kernel
theorem dX9_isDay_0 : decode cX9_isDay 0 = .ok (.aload_n 0, 1) := by decide +kernel
theorem dX9_isDay_1 : decode cX9_isDay 1 = .ok (.invokevirtual 89, 3) := by decide +kernel
theorem dX9_isDay_4 : decode cX9_isDay 4 = .ok (.ifCond .eq 20, 3) := by decide +kernel
theorem dX9_isDay_7 : decode cX9_isDay 7 = .ok (.lload_n 1, 1) := by decide +kernel
theorem dX9_isDay_8 : decode cX9_isDay 8 = .ok (.lconst 0, 1) := by decide +kernel
theorem dX9_isDay_9 : decode cX9_isDay 9 = .ok (.aload_n 0, 1) := by decide +kernel
theorem dX9_isDay_10 : decode cX9_isDay 10 = .ok (.invokevirtual 93, 3) := by decide +kernel
theorem dX9_isDay_13 : decode cX9_isDay 13 = .ok (.i2l, 1) := by decide +kernel
theorem dX9_isDay_14 : decode cX9_isDay 14 = .ok (.invokestatic 85, 3) := by decide +kernel
theorem dX9_isDay_17 : decode cX9_isDay 17 = .ok (.ifCond .eq 7, 3) := by decide +kernel
theorem dX9_isDay_20 : decode cX9_isDay 20 = .ok (.iconst 1, 1) := by decide +kernel
theorem dX9_isDay_21 : decode cX9_isDay 21 = .ok (.goto 4, 3) := by decide +kernel
theorem dX9_isDay_24 : decode cX9_isDay 24 = .ok (.iconst 0, 1) := by decide +kernel
theorem dX9_isDay_25 : decode cX9_isDay 25 = .ok (.ireturn, 1) := by decide +kernel
theorem dX9_isHeap_0 : decode cX9_isHeap 0 = .ok (.iload_n 1, 1) := by decide +kernel
theorem dX9_isHeap_1 : decode cX9_isHeap 1 = .ok (.i2l, 1) := by decide +kernel
theorem dX9_isHeap_2 : decode cX9_isHeap 2 = .ok (.lconst 0, 1) := by decide +kernel
theorem dX9_isHeap_3 : decode cX9_isHeap 3 = .ok (.aload_n 0, 1) := by decide +kernel
theorem dX9_isHeap_4 : decode cX9_isHeap 4 = .ok (.getfield 9, 3) := by decide +kernel
theorem dX9_isHeap_7 : decode cX9_isHeap 7 = .ok (.iconst 3, 1) := by decide +kernel
theorem dX9_isHeap_8 : decode cX9_isHeap 8 = .ok (.iaload, 1) := by decide +kernel
theorem dX9_isHeap_9 : decode cX9_isHeap 9 = .ok (.iconst 1, 1) := by decide +kernel
theorem dX9_isHeap_10 : decode cX9_isHeap 10 = .ok (.isub, 1) := by decide +kernel
theorem dX9_isHeap_11 : decode cX9_isHeap 11 = .ok (.i2l, 1) := by decide +kernel
theorem dX9_isHeap_12 : decode cX9_isHeap 12 = .ok (.invokestatic 85, 3) := by decide +kernel
theorem dX9_isHeap_15 : decode cX9_isHeap 15 = .ok (.ireturn, 1) := by decide +kernel
theorem dX9_isMoor_0 : decode cX9_isMoor 0 = .ok (.aload_n 0, 1) := by decide +kernel
theorem dX9_isMoor_1 : decode cX9_isMoor 1 = .ok (.getfield 9, 3) := by decide +kernel
theorem dX9_isMoor_4 : decode cX9_isMoor 4 = .ok (.bipush 6, 2) := by decide +kernel
theorem dX9_isMoor_6 : decode cX9_isMoor 6 = .ok (.iaload, 1) := by decide +kernel
theorem dX9_isMoor_7 : decode cX9_isMoor 7 = .ok (.ifCond .le 7, 3) := by decide +kernel
theorem dX9_isMoor_10 : decode cX9_isMoor 10 = .ok (.iconst 1, 1) := by decide +kernel
theorem dX9_isMoor_11 : decode cX9_isMoor 11 = .ok (.goto 4, 3) := by decide +kernel
theorem dX9_isMoor_14 : decode cX9_isMoor 14 = .ok (.iconst 0, 1) := by decide +kernel
theorem dX9_isMoor_15 : decode cX9_isMoor 15 = .ok (.ireturn, 1) := by decide +kernel
theorem dX9_isSlot_0 : decode cX9_isSlot 0 = .ok (.iload_n 0, 1) := by decide +kernel
theorem dX9_isSlot_1 : decode cX9_isSlot 1 = .ok (.i2l, 1) := by decide +kernel
theorem dX9_isSlot_2 : decode cX9_isSlot 2 = .ok (.lconst 0, 1) := by decide +kernel
theorem dX9_isSlot_3 : decode cX9_isSlot 3 = .ok (.ldc2_w 390, 3) := by decide +kernel
theorem dX9_isSlot_6 : decode cX9_isSlot 6 = .ok (.invokestatic 85, 3) := by decide +kernel
theorem dX9_isSlot_9 : decode cX9_isSlot 9 = .ok (.ireturn, 1) := by decide +kernel
theorem dX9_isStair_0 : decode cX9_isStair 0 = .ok (.aload_n 0, 1) := by decide +kernel
theorem dX9_isStair_1 : decode cX9_isStair 1 = .ok (.iload_n 1, 1) := by decide +kernel
theorem dX9_isStair_2 : decode cX9_isStair 2 = .ok (.invokevirtual 207, 3) := by decide +kernel
theorem dX9_isStair_5 : decode cX9_isStair 5 = .ok (.istore_n 2, 1) := by decide +kernel
theorem dX9_isStair_6 : decode cX9_isStair 6 = .ok (.iload_n 2, 1) := by decide +kernel
theorem dX9_isStair_7 : decode cX9_isStair 7 = .ok (.ifCond .le 7, 3) := by decide +kernel
theorem dX9_isStair_10 : decode cX9_isStair 10 = .ok (.iconst 1, 1) := by decide +kernel
theorem dX9_isStair_11 : decode cX9_isStair 11 = .ok (.goto 4, 3) := by decide +kernel
theorem dX9_isStair_14 : decode cX9_isStair 14 = .ok (.iconst 0, 1) := by decide +kernel
theorem dX9_isStair_15 : decode cX9_isStair 15 = .ok (.istore_n 3, 1) := by decide +kernel
theorem dX9_isStair_16 : decode cX9_isStair 16 = .ok (.iconst 0, 1) := by decide +kernel
theorem dX9_isStair_17 : decode cX9_isStair 17 = .ok (.istore 4, 2) := by decide +kernel
theorem dX9_isStair_19 : decode cX9_isStair 19 = .ok (.iload 4, 2) := by decide +kernel
theorem dX9_isStair_21 : decode cX9_isStair 21 = .ok (.iload_n 2, 1) := by decide +kernel
theorem dX9_isStair_22 : decode cX9_isStair 22 = .ok (.if_icmp .ge 33, 3) := by decide +kernel
theorem dX9_isStair_25 : decode cX9_isStair 25 = .ok (.iload_n 3, 1) := by decide +kernel
theorem dX9_isStair_26 : decode cX9_isStair 26 = .ok (.ifCond .eq 29, 3) := by decide +kernel
theorem dX9_isStair_29 : decode cX9_isStair 29 = .ok (.aload_n 0, 1) := by decide +kernel
theorem dX9_isStair_30 : decode cX9_isStair 30 = .ok (.iload_n 1, 1) := by decide +kernel
theorem dX9_isStair_31 : decode cX9_isStair 31 = .ok (.iload 4, 2) := by decide +kernel
theorem dX9_isStair_33 : decode cX9_isStair 33 = .ok (.invokevirtual 210, 3) := by decide +kernel
theorem dX9_isStair_36 : decode cX9_isStair 36 = .ok (.iload_n 2, 1) := by decide +kernel
theorem dX9_isStair_37 : decode cX9_isStair 37 = .ok (.iload 4, 2) := by decide +kernel
theorem dX9_isStair_39 : decode cX9_isStair 39 = .ok (.isub, 1) := by decide +kernel
theorem dX9_isStair_40 : decode cX9_isStair 40 = .ok (.if_icmp .ne 7, 3) := by decide +kernel
theorem dX9_isStair_43 : decode cX9_isStair 43 = .ok (.iconst 1, 1) := by decide +kernel
theorem dX9_isStair_44 : decode cX9_isStair 44 = .ok (.goto 4, 3) := by decide +kernel
theorem dX9_isStair_47 : decode cX9_isStair 47 = .ok (.iconst 0, 1) := by decide +kernel
theorem dX9_isStair_48 : decode cX9_isStair 48 = .ok (.istore_n 3, 1) := by decide +kernel
theorem dX9_isStair_49 : decode cX9_isStair 49 = .ok (.iinc 4 1, 3) := by decide +kernel
theorem dX9_isStair_52 : decode cX9_isStair 52 = .ok (.goto (-33), 3) := by decide +kernel
theorem dX9_isStair_55 : decode cX9_isStair 55 = .ok (.iload_n 3, 1) := by decide +kernel
theorem dX9_isStair_56 : decode cX9_isStair 56 = .ok (.ireturn, 1) := by decide +kernel
theorem dX9_lay_0 : decode cX9_lay 0 = .ok (.iload_n 2, 1) := by decide +kernel
theorem dX9_lay_1 : decode cX9_lay 1 = .ok (.ifCond .ne 4, 3) := by decide +kernel
theorem dX9_lay_4 : decode cX9_lay 4 = .ok (.return_, 1) := by decide +kernel
theorem dX9_lay_5 : decode cX9_lay 5 = .ok (.aload_n 0, 1) := by decide +kernel
theorem dX9_lay_6 : decode cX9_lay 6 = .ok (.iload_n 1, 1) := by decide +kernel
theorem dX9_lay_7 : decode cX9_lay 7 = .ok (.invokevirtual 207, 3) := by decide +kernel
theorem dX9_lay_10 : decode cX9_lay 10 = .ok (.istore_n 3, 1) := by decide +kernel
theorem dX9_lay_11 : decode cX9_lay 11 = .ok (.iload_n 3, 1) := by decide +kernel
theorem dX9_lay_12 : decode cX9_lay 12 = .ok (.ifCond .le 43, 3) := by decide +kernel
theorem dX9_lay_15 : decode cX9_lay 15 = .ok (.aload_n 0, 1) := by decide +kernel
theorem dX9_lay_16 : decode cX9_lay 16 = .ok (.iload_n 1, 1) := by decide +kernel
theorem dX9_lay_17 : decode cX9_lay 17 = .ok (.iload_n 3, 1) := by decide +kernel
theorem dX9_lay_18 : decode cX9_lay 18 = .ok (.iconst 1, 1) := by decide +kernel
theorem dX9_lay_19 : decode cX9_lay 19 = .ok (.isub, 1) := by decide +kernel
theorem dX9_lay_20 : decode cX9_lay 20 = .ok (.invokevirtual 210, 3) := by decide +kernel
theorem dX9_lay_23 : decode cX9_lay 23 = .ok (.iload_n 2, 1) := by decide +kernel
theorem dX9_lay_24 : decode cX9_lay 24 = .ok (.if_icmp .ge 31, 3) := by decide +kernel
theorem dX9_lay_27 : decode cX9_lay 27 = .ok (.aload_n 0, 1) := by decide +kernel
theorem dX9_lay_28 : decode cX9_lay 28 = .ok (.getfield 34, 3) := by decide +kernel
theorem dX9_lay_31 : decode cX9_lay 31 = .ok (.sipush 701, 3) := by decide +kernel
theorem dX9_lay_34 : decode cX9_lay 34 = .ok (.iload_n 1, 1) := by decide +kernel
theorem dX9_lay_35 : decode cX9_lay 35 = .ok (.imul, 1) := by decide +kernel
theorem dX9_lay_36 : decode cX9_lay 36 = .ok (.iconst 1, 1) := by decide +kernel
theorem dX9_lay_37 : decode cX9_lay 37 = .ok (.iadd, 1) := by decide +kernel
theorem dX9_lay_38 : decode cX9_lay 38 = .ok (.iload_n 3, 1) := by decide +kernel
theorem dX9_lay_39 : decode cX9_lay 39 = .ok (.iadd, 1) := by decide +kernel
theorem dX9_lay_40 : decode cX9_lay 40 = .ok (.aload_n 0, 1) := by decide +kernel
theorem dX9_lay_41 : decode cX9_lay 41 = .ok (.iload_n 1, 1) := by decide +kernel
theorem dX9_lay_42 : decode cX9_lay 42 = .ok (.iload_n 3, 1) := by decide +kernel
theorem dX9_lay_43 : decode cX9_lay 43 = .ok (.iconst 1, 1) := by decide +kernel
theorem dX9_lay_44 : decode cX9_lay 44 = .ok (.isub, 1) := by decide +kernel
theorem dX9_lay_45 : decode cX9_lay 45 = .ok (.invokevirtual 210, 3) := by decide +kernel
theorem dX9_lay_48 : decode cX9_lay 48 = .ok (.iastore, 1) := by decide +kernel
theorem dX9_lay_49 : decode cX9_lay 49 = .ok (.iinc 3 (-1), 3) := by decide +kernel
theorem dX9_lay_52 : decode cX9_lay 52 = .ok (.goto (-41), 3) := by decide +kernel
theorem dX9_lay_55 : decode cX9_lay 55 = .ok (.aload_n 0, 1) := by decide +kernel
theorem dX9_lay_56 : decode cX9_lay 56 = .ok (.getfield 34, 3) := by decide +kernel
theorem dX9_lay_59 : decode cX9_lay 59 = .ok (.sipush 701, 3) := by decide +kernel
theorem dX9_lay_62 : decode cX9_lay 62 = .ok (.iload_n 1, 1) := by decide +kernel
theorem dX9_lay_63 : decode cX9_lay 63 = .ok (.imul, 1) := by decide +kernel
theorem dX9_lay_64 : decode cX9_lay 64 = .ok (.iconst 1, 1) := by decide +kernel
theorem dX9_lay_65 : decode cX9_lay 65 = .ok (.iadd, 1) := by decide +kernel
theorem dX9_lay_66 : decode cX9_lay 66 = .ok (.iload_n 3, 1) := by decide +kernel
theorem dX9_lay_67 : decode cX9_lay 67 = .ok (.iadd, 1) := by decide +kernel
theorem dX9_lay_68 : decode cX9_lay 68 = .ok (.iload_n 2, 1) := by decide +kernel
theorem dX9_lay_69 : decode cX9_lay 69 = .ok (.iastore, 1) := by decide +kernel
theorem dX9_lay_70 : decode cX9_lay 70 = .ok (.aload_n 0, 1) := by decide +kernel
theorem dX9_lay_71 : decode cX9_lay 71 = .ok (.getfield 34, 3) := by decide +kernel
theorem dX9_lay_74 : decode cX9_lay 74 = .ok (.sipush 701, 3) := by decide +kernel
theorem dX9_lay_77 : decode cX9_lay 77 = .ok (.iload_n 1, 1) := by decide +kernel
theorem dX9_lay_78 : decode cX9_lay 78 = .ok (.imul, 1) := by decide +kernel
theorem dX9_lay_79 : decode cX9_lay 79 = .ok (.dup2, 1) := by decide +kernel
theorem dX9_lay_80 : decode cX9_lay 80 = .ok (.iaload, 1) := by decide +kernel
theorem dX9_lay_81 : decode cX9_lay 81 = .ok (.iconst 1, 1) := by decide +kernel
theorem dX9_lay_82 : decode cX9_lay 82 = .ok (.iadd, 1) := by decide +kernel
theorem dX9_lay_83 : decode cX9_lay 83 = .ok (.iastore, 1) := by decide +kernel
theorem dX9_lay_84 : decode cX9_lay 84 = .ok (.return_, 1) := by decide +kernel
theorem dX9_manyOf_0 : decode cX9_manyOf 0 = .ok (.aload_n 0, 1) := by decide +kernel
theorem dX9_manyOf_1 : decode cX9_manyOf 1 = .ok (.getfield 34, 3) := by decide +kernel
theorem dX9_manyOf_4 : decode cX9_manyOf 4 = .ok (.sipush 701, 3) := by decide +kernel
theorem dX9_manyOf_7 : decode cX9_manyOf 7 = .ok (.iload_n 1, 1) := by decide +kernel
theorem dX9_manyOf_8 : decode cX9_manyOf 8 = .ok (.imul, 1) := by decide +kernel
theorem dX9_manyOf_9 : decode cX9_manyOf 9 = .ok (.iaload, 1) := by decide +kernel
theorem dX9_manyOf_10 : decode cX9_manyOf 10 = .ok (.ireturn, 1) := by decide +kernel
theorem dX9_moor_0 : decode cX9_moor 0 = .ok (.aload_n 0, 1) := by decide +kernel
theorem dX9_moor_1 : decode cX9_moor 1 = .ok (.aload_n 0, 1) := by decide +kernel
theorem dX9_moor_2 : decode cX9_moor 2 = .ok (.getfield 100, 3) := by decide +kernel
theorem dX9_moor_5 : decode cX9_moor 5 = .ok (.putfield 103, 3) := by decide +kernel
theorem dX9_moor_8 : decode cX9_moor 8 = .ok (.aload_n 0, 1) := by decide +kernel
theorem dX9_moor_9 : decode cX9_moor 9 = .ok (.iconst 0, 1) := by decide +kernel
theorem dX9_moor_10 : decode cX9_moor 10 = .ok (.putfield 100, 3) := by decide +kernel
theorem dX9_moor_13 : decode cX9_moor 13 = .ok (.aload_n 0, 1) := by decide +kernel
theorem dX9_moor_14 : decode cX9_moor 14 = .ok (.iconst 0, 1) := by decide +kernel
theorem dX9_moor_15 : decode cX9_moor 15 = .ok (.putfield 106, 3) := by decide +kernel
theorem dX9_moor_18 : decode cX9_moor 18 = .ok (.aload_n 0, 1) := by decide +kernel
theorem dX9_moor_19 : decode cX9_moor 19 = .ok (.iconst 0, 1) := by decide +kernel
theorem dX9_moor_20 : decode cX9_moor 20 = .ok (.putfield 137, 3) := by decide +kernel
theorem dX9_moor_23 : decode cX9_moor 23 = .ok (.aload_n 0, 1) := by decide +kernel
theorem dX9_moor_24 : decode cX9_moor 24 = .ok (.iconst (-1), 1) := by decide +kernel
theorem dX9_moor_25 : decode cX9_moor 25 = .ok (.putfield 27, 3) := by decide +kernel
theorem dX9_moor_28 : decode cX9_moor 28 = .ok (.iconst 0, 1) := by decide +kernel
theorem dX9_moor_29 : decode cX9_moor 29 = .ok (.istore_n 1, 1) := by decide +kernel
theorem dX9_moor_30 : decode cX9_moor 30 = .ok (.iload_n 1, 1) := by decide +kernel
theorem dX9_moor_31 : decode cX9_moor 31 = .ok (.bipush 47, 2) := by decide +kernel
theorem dX9_moor_33 : decode cX9_moor 33 = .ok (.if_icmp .ge 16, 3) := by decide +kernel
theorem dX9_moor_36 : decode cX9_moor 36 = .ok (.aload_n 0, 1) := by decide +kernel
theorem dX9_moor_37 : decode cX9_moor 37 = .ok (.getfield 31, 3) := by decide +kernel
theorem dX9_moor_40 : decode cX9_moor 40 = .ok (.iload_n 1, 1) := by decide +kernel
theorem dX9_moor_41 : decode cX9_moor 41 = .ok (.iconst 0, 1) := by decide +kernel
theorem dX9_moor_42 : decode cX9_moor 42 = .ok (.iastore, 1) := by decide +kernel
theorem dX9_moor_43 : decode cX9_moor 43 = .ok (.iinc 1 1, 3) := by decide +kernel
theorem dX9_moor_46 : decode cX9_moor 46 = .ok (.goto (-16), 3) := by decide +kernel
theorem dX9_moor_49 : decode cX9_moor 49 = .ok (.aload_n 0, 1) := by decide +kernel
theorem dX9_moor_50 : decode cX9_moor 50 = .ok (.invokevirtual 156, 3) := by decide +kernel
theorem dX9_moor_53 : decode cX9_moor 53 = .ok (.aload_n 0, 1) := by decide +kernel
theorem dX9_moor_54 : decode cX9_moor 54 = .ok (.invokevirtual 140, 3) := by decide +kernel
theorem dX9_moor_57 : decode cX9_moor 57 = .ok (.ifCond .eq 17, 3) := by decide +kernel
theorem dX9_moor_60 : decode cX9_moor 60 = .ok (.aload_n 0, 1) := by decide +kernel
theorem dX9_moor_61 : decode cX9_moor 61 = .ok (.getfield 116, 3) := by decide +kernel
theorem dX9_moor_64 : decode cX9_moor 64 = .ok (.ifCond .eq 10, 3) := by decide +kernel
theorem dX9_moor_67 : decode cX9_moor 67 = .ok (.aload_n 0, 1) := by decide +kernel
theorem dX9_moor_68 : decode cX9_moor 68 = .ok (.invokevirtual 197, 3) := by decide +kernel
theorem dX9_moor_71 : decode cX9_moor 71 = .ok (.goto (-18), 3) := by decide +kernel
theorem dX9_moor_74 : decode cX9_moor 74 = .ok (.aload_n 0, 1) := by decide +kernel
theorem dX9_moor_75 : decode cX9_moor 75 = .ok (.invokevirtual 140, 3) := by decide +kernel
theorem dX9_moor_78 : decode cX9_moor 78 = .ok (.ifCond .ne 6, 3) := by decide +kernel
theorem dX9_moor_81 : decode cX9_moor 81 = .ok (.bipush (-4), 2) := by decide +kernel
theorem dX9_moor_83 : decode cX9_moor 83 = .ok (.ireturn, 1) := by decide +kernel
theorem dX9_moor_84 : decode cX9_moor 84 = .ok (.iconst 0, 1) := by decide +kernel
theorem dX9_moor_85 : decode cX9_moor 85 = .ok (.istore_n 1, 1) := by decide +kernel
theorem dX9_moor_86 : decode cX9_moor 86 = .ok (.iload_n 1, 1) := by decide +kernel
theorem dX9_moor_87 : decode cX9_moor 87 = .ok (.bipush 47, 2) := by decide +kernel
theorem dX9_moor_89 : decode cX9_moor 89 = .ok (.if_icmp .ge 21, 3) := by decide +kernel
theorem dX9_moor_92 : decode cX9_moor 92 = .ok (.aload_n 0, 1) := by decide +kernel
theorem dX9_moor_93 : decode cX9_moor 93 = .ok (.getfield 9, 3) := by decide +kernel
theorem dX9_moor_96 : decode cX9_moor 96 = .ok (.iload_n 1, 1) := by decide +kernel
theorem dX9_moor_97 : decode cX9_moor 97 = .ok (.aload_n 0, 1) := by decide +kernel
theorem dX9_moor_98 : decode cX9_moor 98 = .ok (.getfield 31, 3) := by decide +kernel
theorem dX9_moor_101 : decode cX9_moor 101 = .ok (.iload_n 1, 1) := by decide +kernel
theorem dX9_moor_102 : decode cX9_moor 102 = .ok (.iaload, 1) := by decide +kernel
theorem dX9_moor_103 : decode cX9_moor 103 = .ok (.iastore, 1) := by decide +kernel
theorem dX9_moor_104 : decode cX9_moor 104 = .ok (.iinc 1 1, 3) := by decide +kernel
theorem dX9_moor_107 : decode cX9_moor 107 = .ok (.goto (-21), 3) := by decide +kernel
theorem dX9_moor_110 : decode cX9_moor 110 = .ok (.aload_n 0, 1) := by decide +kernel
theorem dX9_moor_111 : decode cX9_moor 111 = .ok (.getfield 9, 3) := by decide +kernel
theorem dX9_moor_114 : decode cX9_moor 114 = .ok (.bipush 6, 2) := by decide +kernel
theorem dX9_moor_116 : decode cX9_moor 116 = .ok (.iaload, 1) := by decide +kernel
theorem dX9_moor_117 : decode cX9_moor 117 = .ok (.ireturn, 1) := by decide +kernel
theorem dX9_number_0 : decode cX9_number 0 = .ok (.aload_n 0, 1) := by decide +kernel
theorem dX9_number_1 : decode cX9_number 1 = .ok (.invokevirtual 140, 3) := by decide +kernel
theorem dX9_number_4 : decode cX9_number 4 = .ok (.ifCond .eq 16, 3) := by decide +kernel
theorem dX9_number_7 : decode cX9_number 7 = .ok (.aload_n 0, 1) := by decide +kernel
theorem dX9_number_8 : decode cX9_number 8 = .ok (.getfield 116, 3) := by decide +kernel
theorem dX9_number_11 : decode cX9_number 11 = .ok (.iconst 2, 1) := by decide +kernel
theorem dX9_number_12 : decode cX9_number 12 = .ok (.if_icmp .eq 8, 3) := by decide +kernel
theorem dX9_number_15 : decode cX9_number 15 = .ok (.aload_n 0, 1) := by decide +kernel
theorem dX9_number_16 : decode cX9_number 16 = .ok (.iconst 1, 1) := by decide +kernel
theorem dX9_number_17 : decode cX9_number 17 = .ok (.invokevirtual 162, 3) := by decide +kernel
theorem dX9_number_20 : decode cX9_number 20 = .ok (.aload_n 0, 1) := by decide +kernel
theorem dX9_number_21 : decode cX9_number 21 = .ok (.invokevirtual 140, 3) := by decide +kernel
theorem dX9_number_24 : decode cX9_number 24 = .ok (.ifCond .eq 23, 3) := by decide +kernel
theorem dX9_number_27 : decode cX9_number 27 = .ok (.aload_n 0, 1) := by decide +kernel
theorem dX9_number_28 : decode cX9_number 28 = .ok (.getfield 127, 3) := by decide +kernel
theorem dX9_number_31 : decode cX9_number 31 = .ok (.i2l, 1) := by decide +kernel
theorem dX9_number_32 : decode cX9_number 32 = .ok (.iload_n 1, 1) := by decide +kernel
theorem dX9_number_33 : decode cX9_number 33 = .ok (.i2l, 1) := by decide +kernel
theorem dX9_number_34 : decode cX9_number 34 = .ok (.iload_n 2, 1) := by decide +kernel
theorem dX9_number_35 : decode cX9_number 35 = .ok (.i2l, 1) := by decide +kernel
theorem dX9_number_36 : decode cX9_number 36 = .ok (.invokestatic 85, 3) := by decide +kernel
theorem dX9_number_39 : decode cX9_number 39 = .ok (.ifCond .ne 8, 3) := by decide +kernel
theorem dX9_number_42 : decode cX9_number 42 = .ok (.aload_n 0, 1) := by decide +kernel
theorem dX9_number_43 : decode cX9_number 43 = .ok (.iconst 2, 1) := by decide +kernel
theorem dX9_number_44 : decode cX9_number 44 = .ok (.invokevirtual 162, 3) := by decide +kernel
theorem dX9_number_47 : decode cX9_number 47 = .ok (.aload_n 0, 1) := by decide +kernel
theorem dX9_number_48 : decode cX9_number 48 = .ok (.invokevirtual 140, 3) := by decide +kernel
theorem dX9_number_51 : decode cX9_number 51 = .ok (.ifCond .ne 5, 3) := by decide +kernel
theorem dX9_number_54 : decode cX9_number 54 = .ok (.iconst 0, 1) := by decide +kernel
theorem dX9_number_55 : decode cX9_number 55 = .ok (.ireturn, 1) := by decide +kernel
theorem dX9_number_56 : decode cX9_number 56 = .ok (.aload_n 0, 1) := by decide +kernel
theorem dX9_number_57 : decode cX9_number 57 = .ok (.getfield 127, 3) := by decide +kernel
theorem dX9_number_60 : decode cX9_number 60 = .ok (.istore_n 3, 1) := by decide +kernel
theorem dX9_number_61 : decode cX9_number 61 = .ok (.aload_n 0, 1) := by decide +kernel
theorem dX9_number_62 : decode cX9_number 62 = .ok (.invokevirtual 156, 3) := by decide +kernel
theorem dX9_number_65 : decode cX9_number 65 = .ok (.iload_n 3, 1) := by decide +kernel
theorem dX9_number_66 : decode cX9_number 66 = .ok (.ireturn, 1) := by decide +kernel
theorem dX9_offHeap_0 : decode cX9_offHeap 0 = .ok (.aload_n 0, 1) := by decide +kernel
theorem dX9_offHeap_1 : decode cX9_offHeap 1 = .ok (.iload_n 1, 1) := by decide +kernel
theorem dX9_offHeap_2 : decode cX9_offHeap 2 = .ok (.iload_n 2, 1) := by decide +kernel
theorem dX9_offHeap_3 : decode cX9_offHeap 3 = .ok (.invokevirtual 210, 3) := by decide +kernel
theorem dX9_offHeap_6 : decode cX9_offHeap 6 = .ok (.istore_n 3, 1) := by decide +kernel
theorem dX9_offHeap_7 : decode cX9_offHeap 7 = .ok (.aload_n 0, 1) := by decide +kernel
theorem dX9_offHeap_8 : decode cX9_offHeap 8 = .ok (.getfield 213, 3) := by decide +kernel
theorem dX9_offHeap_11 : decode cX9_offHeap 11 = .ok (.iconst 1, 1) := by decide +kernel
theorem dX9_offHeap_12 : decode cX9_offHeap 12 = .ok (.if_icmp .ne 7, 3) := by decide +kernel
theorem dX9_offHeap_15 : decode cX9_offHeap 15 = .ok (.iload_n 2, 1) := by decide +kernel
theorem dX9_offHeap_16 : decode cX9_offHeap 16 = .ok (.ifCond .eq 16, 3) := by decide +kernel
theorem dX9_offHeap_19 : decode cX9_offHeap 19 = .ok (.aload_n 0, 1) := by decide +kernel
theorem dX9_offHeap_20 : decode cX9_offHeap 20 = .ok (.getfield 213, 3) := by decide +kernel
theorem dX9_offHeap_23 : decode cX9_offHeap 23 = .ok (.iconst 2, 1) := by decide +kernel
theorem dX9_offHeap_24 : decode cX9_offHeap 24 = .ok (.if_icmp .ne 10, 3) := by decide +kernel
theorem dX9_offHeap_27 : decode cX9_offHeap 27 = .ok (.iload_n 3, 1) := by decide +kernel
theorem dX9_offHeap_28 : decode cX9_offHeap 28 = .ok (.iconst 1, 1) := by decide +kernel
theorem dX9_offHeap_29 : decode cX9_offHeap 29 = .ok (.if_icmp .ne 5, 3) := by decide +kernel
theorem dX9_offHeap_32 : decode cX9_offHeap 32 = .ok (.iconst 0, 1) := by decide +kernel
theorem dX9_offHeap_33 : decode cX9_offHeap 33 = .ok (.ireturn, 1) := by decide +kernel
theorem dX9_offHeap_34 : decode cX9_offHeap 34 = .ok (.aload_n 0, 1) := by decide +kernel
theorem dX9_offHeap_35 : decode cX9_offHeap 35 = .ok (.getfield 213, 3) := by decide +kernel
theorem dX9_offHeap_38 : decode cX9_offHeap 38 = .ok (.iconst 3, 1) := by decide +kernel
theorem dX9_offHeap_39 : decode cX9_offHeap 39 = .ok (.if_icmp .ne 12, 3) := by decide +kernel
theorem dX9_offHeap_42 : decode cX9_offHeap 42 = .ok (.iload_n 3, 1) := by decide +kernel
theorem dX9_offHeap_43 : decode cX9_offHeap 43 = .ok (.iconst 1, 1) := by decide +kernel
theorem dX9_offHeap_44 : decode cX9_offHeap 44 = .ok (.if_icmp .le 7, 3) := by decide +kernel
theorem dX9_offHeap_47 : decode cX9_offHeap 47 = .ok (.iconst 2, 1) := by decide +kernel
theorem dX9_offHeap_48 : decode cX9_offHeap 48 = .ok (.goto 4, 3) := by decide +kernel
theorem dX9_offHeap_51 : decode cX9_offHeap 51 = .ok (.iconst 1, 1) := by decide +kernel
theorem dX9_offHeap_52 : decode cX9_offHeap 52 = .ok (.ireturn, 1) := by decide +kernel
theorem dX9_readFirst_0 : decode cX9_readFirst 0 = .ok (.aload_n 0, 1) := by decide +kernel
theorem dX9_readFirst_1 : decode cX9_readFirst 1 = .ok (.ldc 173, 2) := by decide +kernel
theorem dX9_readFirst_3 : decode cX9_readFirst 3 = .ok (.invokevirtual 166, 3) := by decide +kernel
theorem dX9_readFirst_6 : decode cX9_readFirst 6 = .ok (.aload_n 0, 1) := by decide +kernel
theorem dX9_readFirst_7 : decode cX9_readFirst 7 = .ok (.getfield 31, 3) := by decide +kernel
theorem dX9_readFirst_10 : decode cX9_readFirst 10 = .ok (.iconst 0, 1) := by decide +kernel
theorem dX9_readFirst_11 : decode cX9_readFirst 11 = .ok (.aload_n 0, 1) := by decide +kernel
theorem dX9_readFirst_12 : decode cX9_readFirst 12 = .ok (.ldc 175, 2) := by decide +kernel
theorem dX9_readFirst_14 : decode cX9_readFirst 14 = .ok (.iconst 1, 1) := by decide +kernel
theorem dX9_readFirst_15 : decode cX9_readFirst 15 = .ok (.bipush 16, 2) := by decide +kernel
theorem dX9_readFirst_17 : decode cX9_readFirst 17 = .ok (.invokevirtual 176, 3) := by decide +kernel
theorem dX9_readFirst_20 : decode cX9_readFirst 20 = .ok (.iastore, 1) := by decide +kernel
theorem dX9_readFirst_21 : decode cX9_readFirst 21 = .ok (.aload_n 0, 1) := by decide +kernel
theorem dX9_readFirst_22 : decode cX9_readFirst 22 = .ok (.getfield 31, 3) := by decide +kernel
theorem dX9_readFirst_25 : decode cX9_readFirst 25 = .ok (.iconst 1, 1) := by decide +kernel
theorem dX9_readFirst_26 : decode cX9_readFirst 26 = .ok (.aload_n 0, 1) := by decide +kernel
theorem dX9_readFirst_27 : decode cX9_readFirst 27 = .ok (.ldc 180, 2) := by decide +kernel
theorem dX9_readFirst_29 : decode cX9_readFirst 29 = .ok (.iconst 0, 1) := by decide +kernel
theorem dX9_readFirst_30 : decode cX9_readFirst 30 = .ok (.iconst 3, 1) := by decide +kernel
theorem dX9_readFirst_31 : decode cX9_readFirst 31 = .ok (.invokevirtual 176, 3) := by decide +kernel
theorem dX9_readFirst_34 : decode cX9_readFirst 34 = .ok (.iastore, 1) := by decide +kernel
theorem dX9_readFirst_35 : decode cX9_readFirst 35 = .ok (.aload_n 0, 1) := by decide +kernel
theorem dX9_readFirst_36 : decode cX9_readFirst 36 = .ok (.getfield 31, 3) := by decide +kernel
theorem dX9_readFirst_39 : decode cX9_readFirst 39 = .ok (.iconst 2, 1) := by decide +kernel
theorem dX9_readFirst_40 : decode cX9_readFirst 40 = .ok (.aload_n 0, 1) := by decide +kernel
theorem dX9_readFirst_41 : decode cX9_readFirst 41 = .ok (.ldc 182, 2) := by decide +kernel
theorem dX9_readFirst_43 : decode cX9_readFirst 43 = .ok (.iconst 0, 1) := by decide +kernel
theorem dX9_readFirst_44 : decode cX9_readFirst 44 = .ok (.bipush 10, 2) := by decide +kernel
theorem dX9_readFirst_46 : decode cX9_readFirst 46 = .ok (.invokevirtual 176, 3) := by decide +kernel
theorem dX9_readFirst_49 : decode cX9_readFirst 49 = .ok (.iastore, 1) := by decide +kernel
theorem dX9_readFirst_50 : decode cX9_readFirst 50 = .ok (.return_, 1) := by decide +kernel
theorem dX9_readLine_0 : decode cX9_readLine 0 = .ok (.aload_n 0, 1) := by decide +kernel
theorem dX9_readLine_1 : decode cX9_readLine 1 = .ok (.getfield 31, 3) := by decide +kernel
theorem dX9_readLine_4 : decode cX9_readLine 4 = .ok (.bipush 6, 2) := by decide +kernel
theorem dX9_readLine_6 : decode cX9_readLine 6 = .ok (.iaload, 1) := by decide +kernel
theorem dX9_readLine_7 : decode cX9_readLine 7 = .ok (.ifCond .ne 10, 3) := by decide +kernel
theorem dX9_readLine_10 : decode cX9_readLine 10 = .ok (.aload_n 0, 1) := by decide +kernel
theorem dX9_readLine_11 : decode cX9_readLine 11 = .ok (.invokevirtual 191, 3) := by decide +kernel
theorem dX9_readLine_14 : decode cX9_readLine 14 = .ok (.goto 7, 3) := by decide +kernel
theorem dX9_readLine_17 : decode cX9_readLine 17 = .ok (.aload_n 0, 1) := by decide +kernel
theorem dX9_readLine_18 : decode cX9_readLine 18 = .ok (.invokevirtual 194, 3) := by decide +kernel
theorem dX9_readLine_21 : decode cX9_readLine 21 = .ok (.aload_n 0, 1) := by decide +kernel
theorem dX9_readLine_22 : decode cX9_readLine 22 = .ok (.invokevirtual 140, 3) := by decide +kernel
theorem dX9_readLine_25 : decode cX9_readLine 25 = .ok (.ifCond .eq 16, 3) := by decide +kernel
theorem dX9_readLine_28 : decode cX9_readLine 28 = .ok (.aload_n 0, 1) := by decide +kernel
theorem dX9_readLine_29 : decode cX9_readLine 29 = .ok (.getfield 116, 3) := by decide +kernel
theorem dX9_readLine_32 : decode cX9_readLine 32 = .ok (.iconst 3, 1) := by decide +kernel
theorem dX9_readLine_33 : decode cX9_readLine 33 = .ok (.if_icmp .eq 8, 3) := by decide +kernel
theorem dX9_readLine_36 : decode cX9_readLine 36 = .ok (.aload_n 0, 1) := by decide +kernel
theorem dX9_readLine_37 : decode cX9_readLine 37 = .ok (.iconst 1, 1) := by decide +kernel
theorem dX9_readLine_38 : decode cX9_readLine 38 = .ok (.invokevirtual 162, 3) := by decide +kernel
theorem dX9_readLine_41 : decode cX9_readLine 41 = .ok (.aload_n 0, 1) := by decide +kernel
theorem dX9_readLine_42 : decode cX9_readLine 42 = .ok (.invokevirtual 140, 3) := by decide +kernel
theorem dX9_readLine_45 : decode cX9_readLine 45 = .ok (.ifCond .eq 7, 3) := by decide +kernel
theorem dX9_readLine_48 : decode cX9_readLine 48 = .ok (.aload_n 0, 1) := by decide +kernel
theorem dX9_readLine_49 : decode cX9_readLine 49 = .ok (.invokevirtual 156, 3) := by decide +kernel
theorem dX9_readLine_52 : decode cX9_readLine 52 = .ok (.aload_n 0, 1) := by decide +kernel
theorem dX9_readLine_53 : decode cX9_readLine 53 = .ok (.getfield 31, 3) := by decide +kernel
theorem dX9_readLine_56 : decode cX9_readLine 56 = .ok (.bipush 6, 2) := by decide +kernel
theorem dX9_readLine_58 : decode cX9_readLine 58 = .ok (.dup2, 1) := by decide +kernel
theorem dX9_readLine_59 : decode cX9_readLine 59 = .ok (.iaload, 1) := by decide +kernel
theorem dX9_readLine_60 : decode cX9_readLine 60 = .ok (.iconst 1, 1) := by decide +kernel
theorem dX9_readLine_61 : decode cX9_readLine 61 = .ok (.iadd, 1) := by decide +kernel
theorem dX9_readLine_62 : decode cX9_readLine 62 = .ok (.iastore, 1) := by decide +kernel
theorem dX9_readLine_63 : decode cX9_readLine 63 = .ok (.return_, 1) := by decide +kernel
theorem dX9_readNext_0 : decode cX9_readNext 0 = .ok (.aload_n 0, 1) := by decide +kernel
theorem dX9_readNext_1 : decode cX9_readNext 1 = .ok (.ldc 184, 2) := by decide +kernel
theorem dX9_readNext_3 : decode cX9_readNext 3 = .ok (.invokevirtual 152, 3) := by decide +kernel
theorem dX9_readNext_6 : decode cX9_readNext 6 = .ok (.ifCond .ne 17, 3) := by decide +kernel
theorem dX9_readNext_9 : decode cX9_readNext 9 = .ok (.aload_n 0, 1) := by decide +kernel
theorem dX9_readNext_10 : decode cX9_readNext 10 = .ok (.ldc 186, 2) := by decide +kernel
theorem dX9_readNext_12 : decode cX9_readNext 12 = .ok (.invokevirtual 152, 3) := by decide +kernel
theorem dX9_readNext_15 : decode cX9_readNext 15 = .ok (.ifCond .ne 8, 3) := by decide +kernel
theorem dX9_readNext_18 : decode cX9_readNext 18 = .ok (.aload_n 0, 1) := by decide +kernel
theorem dX9_readNext_19 : decode cX9_readNext 19 = .ok (.iconst 1, 1) := by decide +kernel
theorem dX9_readNext_20 : decode cX9_readNext 20 = .ok (.invokevirtual 162, 3) := by decide +kernel
theorem dX9_readNext_23 : decode cX9_readNext 23 = .ok (.aload_n 0, 1) := by decide +kernel
theorem dX9_readNext_24 : decode cX9_readNext 24 = .ok (.ldc 184, 2) := by decide +kernel
theorem dX9_readNext_26 : decode cX9_readNext 26 = .ok (.invokevirtual 152, 3) := by decide +kernel
theorem dX9_readNext_29 : decode cX9_readNext 29 = .ok (.ifCond .eq 14, 3) := by decide +kernel
theorem dX9_readNext_32 : decode cX9_readNext 32 = .ok (.aload_n 0, 1) := by decide +kernel
theorem dX9_readNext_33 : decode cX9_readNext 33 = .ok (.getfield 31, 3) := by decide +kernel
theorem dX9_readNext_36 : decode cX9_readNext 36 = .ok (.iconst 3, 1) := by decide +kernel
theorem dX9_readNext_37 : decode cX9_readNext 37 = .ok (.iaload, 1) := by decide +kernel
theorem dX9_readNext_38 : decode cX9_readNext 38 = .ok (.bipush 8, 2) := by decide +kernel
theorem dX9_readNext_40 : decode cX9_readNext 40 = .ok (.if_icmp .eq 23, 3) := by decide +kernel
theorem dX9_readNext_43 : decode cX9_readNext 43 = .ok (.aload_n 0, 1) := by decide +kernel
theorem dX9_readNext_44 : decode cX9_readNext 44 = .ok (.ldc 186, 2) := by decide +kernel
theorem dX9_readNext_46 : decode cX9_readNext 46 = .ok (.invokevirtual 152, 3) := by decide +kernel
theorem dX9_readNext_49 : decode cX9_readNext 49 = .ok (.ifCond .eq 19, 3) := by decide +kernel
theorem dX9_readNext_52 : decode cX9_readNext 52 = .ok (.aload_n 0, 1) := by decide +kernel
theorem dX9_readNext_53 : decode cX9_readNext 53 = .ok (.getfield 31, 3) := by decide +kernel
theorem dX9_readNext_56 : decode cX9_readNext 56 = .ok (.iconst 4, 1) := by decide +kernel
theorem dX9_readNext_57 : decode cX9_readNext 57 = .ok (.iaload, 1) := by decide +kernel
theorem dX9_readNext_58 : decode cX9_readNext 58 = .ok (.bipush 6, 2) := by decide +kernel
theorem dX9_readNext_60 : decode cX9_readNext 60 = .ok (.if_icmp .ne 8, 3) := by decide +kernel
theorem dX9_readNext_63 : decode cX9_readNext 63 = .ok (.aload_n 0, 1) := by decide +kernel
theorem dX9_readNext_64 : decode cX9_readNext 64 = .ok (.iconst 3, 1) := by decide +kernel
theorem dX9_readNext_65 : decode cX9_readNext 65 = .ok (.invokevirtual 162, 3) := by decide +kernel
theorem dX9_readNext_68 : decode cX9_readNext 68 = .ok (.aload_n 0, 1) := by decide +kernel
theorem dX9_readNext_69 : decode cX9_readNext 69 = .ok (.invokevirtual 140, 3) := by decide +kernel
theorem dX9_readNext_72 : decode cX9_readNext 72 = .ok (.ifCond .ne 4, 3) := by decide +kernel
theorem dX9_readNext_75 : decode cX9_readNext 75 = .ok (.return_, 1) := by decide +kernel
theorem dX9_readNext_76 : decode cX9_readNext 76 = .ok (.aload_n 0, 1) := by decide +kernel
theorem dX9_readNext_77 : decode cX9_readNext 77 = .ok (.ldc 184, 2) := by decide +kernel
theorem dX9_readNext_79 : decode cX9_readNext 79 = .ok (.invokevirtual 159, 3) := by decide +kernel
theorem dX9_readNext_82 : decode cX9_readNext 82 = .ok (.ifCond .eq 39, 3) := by decide +kernel
theorem dX9_readNext_85 : decode cX9_readNext 85 = .ok (.aload_n 0, 1) := by decide +kernel
theorem dX9_readNext_86 : decode cX9_readNext 86 = .ok (.getfield 31, 3) := by decide +kernel
theorem dX9_readNext_89 : decode cX9_readNext 89 = .ok (.bipush 7, 2) := by decide +kernel
theorem dX9_readNext_91 : decode cX9_readNext 91 = .ok (.aload_n 0, 1) := by decide +kernel
theorem dX9_readNext_92 : decode cX9_readNext 92 = .ok (.getfield 31, 3) := by decide +kernel
theorem dX9_readNext_95 : decode cX9_readNext 95 = .ok (.iconst 3, 1) := by decide +kernel
theorem dX9_readNext_96 : decode cX9_readNext 96 = .ok (.iaload, 1) := by decide +kernel
theorem dX9_readNext_97 : decode cX9_readNext 97 = .ok (.iadd, 1) := by decide +kernel
theorem dX9_readNext_98 : decode cX9_readNext 98 = .ok (.aload_n 0, 1) := by decide +kernel
theorem dX9_readNext_99 : decode cX9_readNext 99 = .ok (.ldc 188, 2) := by decide +kernel
theorem dX9_readNext_101 : decode cX9_readNext 101 = .ok (.iconst 1, 1) := by decide +kernel
theorem dX9_readNext_102 : decode cX9_readNext 102 = .ok (.bipush 20, 2) := by decide +kernel
theorem dX9_readNext_104 : decode cX9_readNext 104 = .ok (.invokevirtual 176, 3) := by decide +kernel
theorem dX9_readNext_107 : decode cX9_readNext 107 = .ok (.iastore, 1) := by decide +kernel
theorem dX9_readNext_108 : decode cX9_readNext 108 = .ok (.aload_n 0, 1) := by decide +kernel
theorem dX9_readNext_109 : decode cX9_readNext 109 = .ok (.getfield 31, 3) := by decide +kernel
theorem dX9_readNext_112 : decode cX9_readNext 112 = .ok (.iconst 3, 1) := by decide +kernel
theorem dX9_readNext_113 : decode cX9_readNext 113 = .ok (.dup2, 1) := by decide +kernel
theorem dX9_readNext_114 : decode cX9_readNext 114 = .ok (.iaload, 1) := by decide +kernel
theorem dX9_readNext_115 : decode cX9_readNext 115 = .ok (.iconst 1, 1) := by decide +kernel
theorem dX9_readNext_116 : decode cX9_readNext 116 = .ok (.iadd, 1) := by decide +kernel
theorem dX9_readNext_117 : decode cX9_readNext 117 = .ok (.iastore, 1) := by decide +kernel
theorem dX9_readNext_118 : decode cX9_readNext 118 = .ok (.goto 61, 3) := by decide +kernel
theorem dX9_readNext_121 : decode cX9_readNext 121 = .ok (.aload_n 0, 1) := by decide +kernel
theorem dX9_readNext_122 : decode cX9_readNext 122 = .ok (.invokevirtual 156, 3) := by decide +kernel
theorem dX9_readNext_125 : decode cX9_readNext 125 = .ok (.bipush 15, 2) := by decide +kernel
theorem dX9_readNext_127 : decode cX9_readNext 127 = .ok (.iconst 2, 1) := by decide +kernel
theorem dX9_readNext_128 : decode cX9_readNext 128 = .ok (.aload_n 0, 1) := by decide +kernel
theorem dX9_readNext_129 : decode cX9_readNext 129 = .ok (.getfield 31, 3) := by decide +kernel
theorem dX9_readNext_132 : decode cX9_readNext 132 = .ok (.iconst 4, 1) := by decide +kernel
theorem dX9_readNext_133 : decode cX9_readNext 133 = .ok (.iaload, 1) := by decide +kernel
theorem dX9_readNext_134 : decode cX9_readNext 134 = .ok (.imul, 1) := by decide +kernel
theorem dX9_readNext_135 : decode cX9_readNext 135 = .ok (.iadd, 1) := by decide +kernel
theorem dX9_readNext_136 : decode cX9_readNext 136 = .ok (.istore_n 1, 1) := by decide +kernel
theorem dX9_readNext_137 : decode cX9_readNext 137 = .ok (.aload_n 0, 1) := by decide +kernel
theorem dX9_readNext_138 : decode cX9_readNext 138 = .ok (.getfield 31, 3) := by decide +kernel
theorem dX9_readNext_141 : decode cX9_readNext 141 = .ok (.iload_n 1, 1) := by decide +kernel
theorem dX9_readNext_142 : decode cX9_readNext 142 = .ok (.aload_n 0, 1) := by decide +kernel
theorem dX9_readNext_143 : decode cX9_readNext 143 = .ok (.ldc 188, 2) := by decide +kernel
theorem dX9_readNext_145 : decode cX9_readNext 145 = .ok (.iconst 1, 1) := by decide +kernel
theorem dX9_readNext_146 : decode cX9_readNext 146 = .ok (.bipush 20, 2) := by decide +kernel
theorem dX9_readNext_148 : decode cX9_readNext 148 = .ok (.invokevirtual 176, 3) := by decide +kernel
theorem dX9_readNext_151 : decode cX9_readNext 151 = .ok (.iastore, 1) := by decide +kernel
theorem dX9_readNext_152 : decode cX9_readNext 152 = .ok (.aload_n 0, 1) := by decide +kernel
theorem dX9_readNext_153 : decode cX9_readNext 153 = .ok (.getfield 31, 3) := by decide +kernel
theorem dX9_readNext_156 : decode cX9_readNext 156 = .ok (.iload_n 1, 1) := by decide +kernel
theorem dX9_readNext_157 : decode cX9_readNext 157 = .ok (.iconst 1, 1) := by decide +kernel
theorem dX9_readNext_158 : decode cX9_readNext 158 = .ok (.iadd, 1) := by decide +kernel
theorem dX9_readNext_159 : decode cX9_readNext 159 = .ok (.aload_n 0, 1) := by decide +kernel
theorem dX9_readNext_160 : decode cX9_readNext 160 = .ok (.ldc 190, 2) := by decide +kernel
theorem dX9_readNext_162 : decode cX9_readNext 162 = .ok (.iconst 0, 1) := by decide +kernel
theorem dX9_readNext_163 : decode cX9_readNext 163 = .ok (.bipush 15, 2) := by decide +kernel
theorem dX9_readNext_165 : decode cX9_readNext 165 = .ok (.invokevirtual 176, 3) := by decide +kernel
theorem dX9_readNext_168 : decode cX9_readNext 168 = .ok (.iastore, 1) := by decide +kernel
theorem dX9_readNext_169 : decode cX9_readNext 169 = .ok (.aload_n 0, 1) := by decide +kernel
theorem dX9_readNext_170 : decode cX9_readNext 170 = .ok (.getfield 31, 3) := by decide +kernel
theorem dX9_readNext_173 : decode cX9_readNext 173 = .ok (.iconst 4, 1) := by decide +kernel
theorem dX9_readNext_174 : decode cX9_readNext 174 = .ok (.dup2, 1) := by decide +kernel
theorem dX9_readNext_175 : decode cX9_readNext 175 = .ok (.iaload, 1) := by decide +kernel
theorem dX9_readNext_176 : decode cX9_readNext 176 = .ok (.iconst 1, 1) := by decide +kernel
theorem dX9_readNext_177 : decode cX9_readNext 177 = .ok (.iadd, 1) := by decide +kernel
theorem dX9_readNext_178 : decode cX9_readNext 178 = .ok (.iastore, 1) := by decide +kernel
theorem dX9_readNext_179 : decode cX9_readNext 179 = .ok (.return_, 1) := by decide +kernel
theorem dX9_see_0 : decode cX9_see 0 = .ok (.iload_n 1, 1) := by decide +kernel
theorem dX9_see_1 : decode cX9_see 1 = .ok (.aload_n 0, 1) := by decide +kernel
theorem dX9_see_2 : decode cX9_see 2 = .ok (.getfield 103, 3) := by decide +kernel
theorem dX9_see_5 : decode cX9_see 5 = .ok (.if_icmp .ge 16, 3) := by decide +kernel
theorem dX9_see_8 : decode cX9_see 8 = .ok (.aload_n 0, 1) := by decide +kernel
theorem dX9_see_9 : decode cX9_see 9 = .ok (.getfield 20, 3) := by decide +kernel
theorem dX9_see_12 : decode cX9_see 12 = .ok (.iload_n 1, 1) := by decide +kernel
theorem dX9_see_13 : decode cX9_see 13 = .ok (.baload, 1) := by decide +kernel
theorem dX9_see_14 : decode cX9_see 14 = .ok (.sipush 255, 3) := by decide +kernel
theorem dX9_see_17 : decode cX9_see 17 = .ok (.iand, 1) := by decide +kernel
theorem dX9_see_18 : decode cX9_see 18 = .ok (.goto 4, 3) := by decide +kernel
theorem dX9_see_21 : decode cX9_see 21 = .ok (.iconst (-1), 1) := by decide +kernel
theorem dX9_see_22 : decode cX9_see 22 = .ok (.ireturn, 1) := by decide +kernel
theorem dX9_step_0 : decode cX9_step 0 = .ok (.aload_n 0, 1) := by decide +kernel
theorem dX9_step_1 : decode cX9_step 1 = .ok (.iload_n 1, 1) := by decide +kernel
theorem dX9_step_2 : decode cX9_step 2 = .ok (.invokevirtual 207, 3) := by decide +kernel
theorem dX9_step_5 : decode cX9_step 5 = .ok (.istore_n 2, 1) := by decide +kernel
theorem dX9_step_6 : decode cX9_step 6 = .ok (.aload_n 0, 1) := by decide +kernel
theorem dX9_step_7 : decode cX9_step 7 = .ok (.iconst 0, 1) := by decide +kernel
theorem dX9_step_8 : decode cX9_step 8 = .ok (.putfield 216, 3) := by decide +kernel
theorem dX9_step_11 : decode cX9_step 11 = .ok (.aload_n 0, 1) := by decide +kernel
theorem dX9_step_12 : decode cX9_step 12 = .ok (.iconst 0, 1) := by decide +kernel
theorem dX9_step_13 : decode cX9_step 13 = .ok (.putfield 219, 3) := by decide +kernel
theorem dX9_step_16 : decode cX9_step 16 = .ok (.iconst 0, 1) := by decide +kernel
theorem dX9_step_17 : decode cX9_step 17 = .ok (.istore_n 3, 1) := by decide +kernel
theorem dX9_step_18 : decode cX9_step 18 = .ok (.iload_n 3, 1) := by decide +kernel
theorem dX9_step_19 : decode cX9_step 19 = .ok (.iload_n 2, 1) := by decide +kernel
theorem dX9_step_20 : decode cX9_step 20 = .ok (.if_icmp .ge 24, 3) := by decide +kernel
theorem dX9_step_23 : decode cX9_step 23 = .ok (.aload_n 0, 1) := by decide +kernel
theorem dX9_step_24 : decode cX9_step 24 = .ok (.dup, 1) := by decide +kernel
theorem dX9_step_25 : decode cX9_step 25 = .ok (.getfield 216, 3) := by decide +kernel
theorem dX9_step_28 : decode cX9_step 28 = .ok (.aload_n 0, 1) := by decide +kernel
theorem dX9_step_29 : decode cX9_step 29 = .ok (.iload_n 1, 1) := by decide +kernel
theorem dX9_step_30 : decode cX9_step 30 = .ok (.iload_n 3, 1) := by decide +kernel
theorem dX9_step_31 : decode cX9_step 31 = .ok (.invokevirtual 222, 3) := by decide +kernel
theorem dX9_step_34 : decode cX9_step 34 = .ok (.iadd, 1) := by decide +kernel
theorem dX9_step_35 : decode cX9_step 35 = .ok (.putfield 216, 3) := by decide +kernel
theorem dX9_step_38 : decode cX9_step 38 = .ok (.iinc 3 1, 3) := by decide +kernel
theorem dX9_step_41 : decode cX9_step 41 = .ok (.goto (-23), 3) := by decide +kernel
theorem dX9_step_44 : decode cX9_step 44 = .ok (.aload_n 0, 1) := by decide +kernel
theorem dX9_step_45 : decode cX9_step 45 = .ok (.iload_n 1, 1) := by decide +kernel
theorem dX9_step_46 : decode cX9_step 46 = .ok (.bipush 20, 2) := by decide +kernel
theorem dX9_step_48 : decode cX9_step 48 = .ok (.invokevirtual 225, 3) := by decide +kernel
theorem dX9_step_51 : decode cX9_step 51 = .ok (.aload_n 0, 1) := by decide +kernel
theorem dX9_step_52 : decode cX9_step 52 = .ok (.iload_n 1, 1) := by decide +kernel
theorem dX9_step_53 : decode cX9_step 53 = .ok (.invokevirtual 229, 3) := by decide +kernel
theorem dX9_step_56 : decode cX9_step 56 = .ok (.iconst 0, 1) := by decide +kernel
theorem dX9_step_57 : decode cX9_step 57 = .ok (.istore_n 3, 1) := by decide +kernel
theorem dX9_step_58 : decode cX9_step 58 = .ok (.iload_n 3, 1) := by decide +kernel
theorem dX9_step_59 : decode cX9_step 59 = .ok (.iload_n 2, 1) := by decide +kernel
theorem dX9_step_60 : decode cX9_step 60 = .ok (.if_icmp .ge 52, 3) := by decide +kernel
theorem dX9_step_63 : decode cX9_step 63 = .ok (.aload_n 0, 1) := by decide +kernel
theorem dX9_step_64 : decode cX9_step 64 = .ok (.bipush 20, 2) := by decide +kernel
theorem dX9_step_66 : decode cX9_step 66 = .ok (.iload_n 3, 1) := by decide +kernel
theorem dX9_step_67 : decode cX9_step 67 = .ok (.invokevirtual 210, 3) := by decide +kernel
theorem dX9_step_70 : decode cX9_step 70 = .ok (.aload_n 0, 1) := by decide +kernel
theorem dX9_step_71 : decode cX9_step 71 = .ok (.bipush 20, 2) := by decide +kernel
theorem dX9_step_73 : decode cX9_step 73 = .ok (.iload_n 3, 1) := by decide +kernel
theorem dX9_step_74 : decode cX9_step 74 = .ok (.invokevirtual 222, 3) := by decide +kernel
theorem dX9_step_77 : decode cX9_step 77 = .ok (.isub, 1) := by decide +kernel
theorem dX9_step_78 : decode cX9_step 78 = .ok (.istore 4, 2) := by decide +kernel
theorem dX9_step_80 : decode cX9_step 80 = .ok (.aload_n 0, 1) := by decide +kernel
theorem dX9_step_81 : decode cX9_step 81 = .ok (.dup, 1) := by decide +kernel
theorem dX9_step_82 : decode cX9_step 82 = .ok (.getfield 219, 3) := by decide +kernel
theorem dX9_step_85 : decode cX9_step 85 = .ok (.iload 4, 2) := by decide +kernel
theorem dX9_step_87 : decode cX9_step 87 = .ok (.ifCond .ne 7, 3) := by decide +kernel
theorem dX9_step_90 : decode cX9_step 90 = .ok (.iconst 1, 1) := by decide +kernel
theorem dX9_step_91 : decode cX9_step 91 = .ok (.goto 4, 3) := by decide +kernel
theorem dX9_step_94 : decode cX9_step 94 = .ok (.iconst 0, 1) := by decide +kernel
theorem dX9_step_95 : decode cX9_step 95 = .ok (.iadd, 1) := by decide +kernel
theorem dX9_step_96 : decode cX9_step 96 = .ok (.putfield 219, 3) := by decide +kernel
theorem dX9_step_99 : decode cX9_step 99 = .ok (.aload_n 0, 1) := by decide +kernel
theorem dX9_step_100 : decode cX9_step 100 = .ok (.iload_n 1, 1) := by decide +kernel
theorem dX9_step_101 : decode cX9_step 101 = .ok (.iload 4, 2) := by decide +kernel
theorem dX9_step_103 : decode cX9_step 103 = .ok (.invokevirtual 232, 3) := by decide +kernel
theorem dX9_step_106 : decode cX9_step 106 = .ok (.iinc 3 1, 3) := by decide +kernel
theorem dX9_step_109 : decode cX9_step 109 = .ok (.goto (-51), 3) := by decide +kernel
theorem dX9_step_112 : decode cX9_step 112 = .ok (.aload_n 0, 1) := by decide +kernel
theorem dX9_step_113 : decode cX9_step 113 = .ok (.iload_n 1, 1) := by decide +kernel
theorem dX9_step_114 : decode cX9_step 114 = .ok (.aload_n 0, 1) := by decide +kernel
theorem dX9_step_115 : decode cX9_step 115 = .ok (.getfield 216, 3) := by decide +kernel
theorem dX9_step_118 : decode cX9_step 118 = .ok (.invokevirtual 232, 3) := by decide +kernel
theorem dX9_step_121 : decode cX9_step 121 = .ok (.return_, 1) := by decide +kernel
theorem dX9_takeHighest_0 : decode cX9_takeHighest 0 = .ok (.aload_n 0, 1) := by decide +kernel
theorem dX9_takeHighest_1 : decode cX9_takeHighest 1 = .ok (.iload_n 1, 1) := by decide +kernel
theorem dX9_takeHighest_2 : decode cX9_takeHighest 2 = .ok (.invokevirtual 207, 3) := by decide +kernel
theorem dX9_takeHighest_5 : decode cX9_takeHighest 5 = .ok (.ifCond .ne 4, 3) := by decide +kernel
theorem dX9_takeHighest_8 : decode cX9_takeHighest 8 = .ok (.return_, 1) := by decide +kernel
theorem dX9_takeHighest_9 : decode cX9_takeHighest 9 = .ok (.aload_n 0, 1) := by decide +kernel
theorem dX9_takeHighest_10 : decode cX9_takeHighest 10 = .ok (.getfield 34, 3) := by decide +kernel
theorem dX9_takeHighest_13 : decode cX9_takeHighest 13 = .ok (.sipush 701, 3) := by decide +kernel
theorem dX9_takeHighest_16 : decode cX9_takeHighest 16 = .ok (.iload_n 1, 1) := by decide +kernel
theorem dX9_takeHighest_17 : decode cX9_takeHighest 17 = .ok (.imul, 1) := by decide +kernel
theorem dX9_takeHighest_18 : decode cX9_takeHighest 18 = .ok (.dup2, 1) := by decide +kernel
theorem dX9_takeHighest_19 : decode cX9_takeHighest 19 = .ok (.iaload, 1) := by decide +kernel
theorem dX9_takeHighest_20 : decode cX9_takeHighest 20 = .ok (.iconst 1, 1) := by decide +kernel
theorem dX9_takeHighest_21 : decode cX9_takeHighest 21 = .ok (.isub, 1) := by decide +kernel
theorem dX9_takeHighest_22 : decode cX9_takeHighest 22 = .ok (.iastore, 1) := by decide +kernel
theorem dX9_takeHighest_23 : decode cX9_takeHighest 23 = .ok (.iconst 0, 1) := by decide +kernel
theorem dX9_takeHighest_24 : decode cX9_takeHighest 24 = .ok (.istore_n 2, 1) := by decide +kernel
theorem dX9_takeHighest_25 : decode cX9_takeHighest 25 = .ok (.iload_n 2, 1) := by decide +kernel
theorem dX9_takeHighest_26 : decode cX9_takeHighest 26 = .ok (.aload_n 0, 1) := by decide +kernel
theorem dX9_takeHighest_27 : decode cX9_takeHighest 27 = .ok (.iload_n 1, 1) := by decide +kernel
theorem dX9_takeHighest_28 : decode cX9_takeHighest 28 = .ok (.invokevirtual 207, 3) := by decide +kernel
theorem dX9_takeHighest_31 : decode cX9_takeHighest 31 = .ok (.if_icmp .ge 31, 3) := by decide +kernel
theorem dX9_takeHighest_34 : decode cX9_takeHighest 34 = .ok (.aload_n 0, 1) := by decide +kernel
theorem dX9_takeHighest_35 : decode cX9_takeHighest 35 = .ok (.getfield 34, 3) := by decide +kernel
theorem dX9_takeHighest_38 : decode cX9_takeHighest 38 = .ok (.sipush 701, 3) := by decide +kernel
theorem dX9_takeHighest_41 : decode cX9_takeHighest 41 = .ok (.iload_n 1, 1) := by decide +kernel
theorem dX9_takeHighest_42 : decode cX9_takeHighest 42 = .ok (.imul, 1) := by decide +kernel
theorem dX9_takeHighest_43 : decode cX9_takeHighest 43 = .ok (.iconst 1, 1) := by decide +kernel
theorem dX9_takeHighest_44 : decode cX9_takeHighest 44 = .ok (.iadd, 1) := by decide +kernel
theorem dX9_takeHighest_45 : decode cX9_takeHighest 45 = .ok (.iload_n 2, 1) := by decide +kernel
theorem dX9_takeHighest_46 : decode cX9_takeHighest 46 = .ok (.iadd, 1) := by decide +kernel
theorem dX9_takeHighest_47 : decode cX9_takeHighest 47 = .ok (.aload_n 0, 1) := by decide +kernel
theorem dX9_takeHighest_48 : decode cX9_takeHighest 48 = .ok (.iload_n 1, 1) := by decide +kernel
theorem dX9_takeHighest_49 : decode cX9_takeHighest 49 = .ok (.iload_n 2, 1) := by decide +kernel
theorem dX9_takeHighest_50 : decode cX9_takeHighest 50 = .ok (.iconst 1, 1) := by decide +kernel
theorem dX9_takeHighest_51 : decode cX9_takeHighest 51 = .ok (.iadd, 1) := by decide +kernel
theorem dX9_takeHighest_52 : decode cX9_takeHighest 52 = .ok (.invokevirtual 210, 3) := by decide +kernel
theorem dX9_takeHighest_55 : decode cX9_takeHighest 55 = .ok (.iastore, 1) := by decide +kernel
theorem dX9_takeHighest_56 : decode cX9_takeHighest 56 = .ok (.iinc 2 1, 3) := by decide +kernel
theorem dX9_takeHighest_59 : decode cX9_takeHighest 59 = .ok (.goto (-34), 3) := by decide +kernel
theorem dX9_takeHighest_62 : decode cX9_takeHighest 62 = .ok (.return_, 1) := by decide +kernel
theorem dX9_takes_0 : decode cX9_takes 0 = .ok (.aload_n 0, 1) := by decide +kernel
theorem dX9_takes_1 : decode cX9_takes 1 = .ok (.aload_n 1, 1) := by decide +kernel
theorem dX9_takes_2 : decode cX9_takes 2 = .ok (.invokevirtual 152, 3) := by decide +kernel
theorem dX9_takes_5 : decode cX9_takes 5 = .ok (.istore_n 2, 1) := by decide +kernel
theorem dX9_takes_6 : decode cX9_takes 6 = .ok (.iload_n 2, 1) := by decide +kernel
theorem dX9_takes_7 : decode cX9_takes 7 = .ok (.ifCond .eq 7, 3) := by decide +kernel
theorem dX9_takes_10 : decode cX9_takes 10 = .ok (.aload_n 0, 1) := by decide +kernel
theorem dX9_takes_11 : decode cX9_takes 11 = .ok (.invokevirtual 156, 3) := by decide +kernel
theorem dX9_takes_14 : decode cX9_takes 14 = .ok (.iload_n 2, 1) := by decide +kernel
theorem dX9_takes_15 : decode cX9_takes 15 = .ok (.ireturn, 1) := by decide +kernel
theorem dX9_told_0 : decode cX9_told 0 = .ok (.aload_n 0, 1) := by decide +kernel
theorem dX9_told_1 : decode cX9_told 1 = .ok (.iload_n 1, 1) := by decide +kernel
theorem dX9_told_2 : decode cX9_told 2 = .ok (.invokevirtual 200, 3) := by decide +kernel
theorem dX9_told_5 : decode cX9_told 5 = .ok (.ifCond .eq 15, 3) := by decide +kernel
theorem dX9_told_8 : decode cX9_told 8 = .ok (.aload_n 0, 1) := by decide +kernel
theorem dX9_told_9 : decode cX9_told 9 = .ok (.getfield 9, 3) := by decide +kernel
theorem dX9_told_12 : decode cX9_told 12 = .ok (.bipush 7, 2) := by decide +kernel
theorem dX9_told_14 : decode cX9_told 14 = .ok (.iload_n 1, 1) := by decide +kernel
theorem dX9_told_15 : decode cX9_told 15 = .ok (.iadd, 1) := by decide +kernel
theorem dX9_told_16 : decode cX9_told 16 = .ok (.iaload, 1) := by decide +kernel
theorem dX9_told_17 : decode cX9_told 17 = .ok (.goto 5, 3) := by decide +kernel
theorem dX9_told_20 : decode cX9_told 20 = .ok (.bipush (-2), 2) := by decide +kernel
theorem dX9_told_22 : decode cX9_told 22 = .ok (.ireturn, 1) := by decide +kernel
theorem dX9_toldBy_0 : decode cX9_toldBy 0 = .ok (.aload_n 0, 1) := by decide +kernel
theorem dX9_toldBy_1 : decode cX9_toldBy 1 = .ok (.aload_n 1, 1) := by decide +kernel
theorem dX9_toldBy_2 : decode cX9_toldBy 2 = .ok (.invokevirtual 166, 3) := by decide +kernel
theorem dX9_toldBy_5 : decode cX9_toldBy 5 = .ok (.aload_n 0, 1) := by decide +kernel
theorem dX9_toldBy_6 : decode cX9_toldBy 6 = .ok (.iload_n 2, 1) := by decide +kernel
theorem dX9_toldBy_7 : decode cX9_toldBy 7 = .ok (.iload_n 3, 1) := by decide +kernel
theorem dX9_toldBy_8 : decode cX9_toldBy 8 = .ok (.invokevirtual 170, 3) := by decide +kernel
theorem dX9_toldBy_11 : decode cX9_toldBy 11 = .ok (.ireturn, 1) := by decide +kernel
theorem dX9_turfsOf_0 : decode cX9_turfsOf 0 = .ok (.iconst 0, 1) := by decide +kernel
theorem dX9_turfsOf_1 : decode cX9_turfsOf 1 = .ok (.istore_n 2, 1) := by decide +kernel
theorem dX9_turfsOf_2 : decode cX9_turfsOf 2 = .ok (.iconst 0, 1) := by decide +kernel
theorem dX9_turfsOf_3 : decode cX9_turfsOf 3 = .ok (.istore_n 3, 1) := by decide +kernel
theorem dX9_turfsOf_4 : decode cX9_turfsOf 4 = .ok (.iload_n 3, 1) := by decide +kernel
theorem dX9_turfsOf_5 : decode cX9_turfsOf 5 = .ok (.aload_n 0, 1) := by decide +kernel
theorem dX9_turfsOf_6 : decode cX9_turfsOf 6 = .ok (.iload_n 1, 1) := by decide +kernel
theorem dX9_turfsOf_7 : decode cX9_turfsOf 7 = .ok (.invokevirtual 207, 3) := by decide +kernel
theorem dX9_turfsOf_10 : decode cX9_turfsOf 10 = .ok (.if_icmp .ge 18, 3) := by decide +kernel
theorem dX9_turfsOf_13 : decode cX9_turfsOf 13 = .ok (.iload_n 2, 1) := by decide +kernel
theorem dX9_turfsOf_14 : decode cX9_turfsOf 14 = .ok (.aload_n 0, 1) := by decide +kernel
theorem dX9_turfsOf_15 : decode cX9_turfsOf 15 = .ok (.iload_n 1, 1) := by decide +kernel
theorem dX9_turfsOf_16 : decode cX9_turfsOf 16 = .ok (.iload_n 3, 1) := by decide +kernel
theorem dX9_turfsOf_17 : decode cX9_turfsOf 17 = .ok (.invokevirtual 210, 3) := by decide +kernel
theorem dX9_turfsOf_20 : decode cX9_turfsOf 20 = .ok (.iadd, 1) := by decide +kernel
theorem dX9_turfsOf_21 : decode cX9_turfsOf 21 = .ok (.istore_n 2, 1) := by decide +kernel
theorem dX9_turfsOf_22 : decode cX9_turfsOf 22 = .ok (.iinc 3 1, 3) := by decide +kernel
theorem dX9_turfsOf_25 : decode cX9_turfsOf 25 = .ok (.goto (-21), 3) := by decide +kernel
theorem dX9_turfsOf_28 : decode cX9_turfsOf 28 = .ok (.iload_n 2, 1) := by decide +kernel
theorem dX9_turfsOf_29 : decode cX9_turfsOf 29 = .ok (.ireturn, 1) := by decide +kernel

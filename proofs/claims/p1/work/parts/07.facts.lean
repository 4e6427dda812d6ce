theorem goodsub_0 : ∀ w ∈ u_ws RX0 TX0 15, w ∈ hpT := fun w hw => List.mem_filter.mpr ⟨(by decide +kernel : ∀ w ∈ u_ws RX0 TX0 15, w ∈ lw_tbl) w hw, (by decide +kernel : ∀ w ∈ u_ws RX0 TX0 15, goodWord w = true) w hw⟩
theorem goodsub_1 : ∀ w ∈ u_ws RX1 TX1 13, w ∈ hpT := fun w hw => List.mem_filter.mpr ⟨(by decide +kernel : ∀ w ∈ u_ws RX1 TX1 13, w ∈ lw_tbl) w hw, (by decide +kernel : ∀ w ∈ u_ws RX1 TX1 13, goodWord w = true) w hw⟩
theorem goodsub_2 : ∀ w ∈ u_ws RX2 TX2 6, w ∈ hpT := fun w hw => List.mem_filter.mpr ⟨(by decide +kernel : ∀ w ∈ u_ws RX2 TX2 6, w ∈ lw_tbl) w hw, (by decide +kernel : ∀ w ∈ u_ws RX2 TX2 6, goodWord w = true) w hw⟩
theorem goodsub_3 : ∀ w ∈ u_ws RX3 TX3 5, w ∈ hpT := fun w hw => List.mem_filter.mpr ⟨(by decide +kernel : ∀ w ∈ u_ws RX3 TX3 5, w ∈ lw_tbl) w hw, (by decide +kernel : ∀ w ∈ u_ws RX3 TX3 5, goodWord w = true) w hw⟩
theorem goodsub_4 : ∀ w ∈ u_ws RX4 TX4 9, w ∈ hpT := fun w hw => List.mem_filter.mpr ⟨(by decide +kernel : ∀ w ∈ u_ws RX4 TX4 9, w ∈ lw_tbl) w hw, (by decide +kernel : ∀ w ∈ u_ws RX4 TX4 9, goodWord w = true) w hw⟩
theorem goodsub_5 : ∀ w ∈ u_ws RX5 TX5 3, w ∈ hpT := fun w hw => List.mem_filter.mpr ⟨(by decide +kernel : ∀ w ∈ u_ws RX5 TX5 3, w ∈ lw_tbl) w hw, (by decide +kernel : ∀ w ∈ u_ws RX5 TX5 3, goodWord w = true) w hw⟩
theorem goodsub_6 : ∀ w ∈ u_ws RX6 TX6 4, w ∈ hpT := fun w hw => List.mem_filter.mpr ⟨(by decide +kernel : ∀ w ∈ u_ws RX6 TX6 4, w ∈ lw_tbl) w hw, (by decide +kernel : ∀ w ∈ u_ws RX6 TX6 4, goodWord w = true) w hw⟩
theorem goodsub_7 : ∀ w ∈ u_ws RX7 TX7 7, w ∈ hpT := fun w hw => List.mem_filter.mpr ⟨(by decide +kernel : ∀ w ∈ u_ws RX7 TX7 7, w ∈ lw_tbl) w hw, (by decide +kernel : ∀ w ∈ u_ws RX7 TX7 7, goodWord w = true) w hw⟩
theorem goodsub_8 : ∀ w ∈ u_ws RX8 TX8 16, w ∈ hpT := fun w hw => List.mem_filter.mpr ⟨(by decide +kernel : ∀ w ∈ u_ws RX8 TX8 16, w ∈ lw_tbl) w hw, (by decide +kernel : ∀ w ∈ u_ws RX8 TX8 16, goodWord w = true) w hw⟩
theorem goodsub_9 : ∀ w ∈ u_ws RX9 TX9 46, w ∈ hpT := fun w hw => List.mem_filter.mpr ⟨(by decide +kernel : ∀ w ∈ u_ws RX9 TX9 46, w ∈ lw_tbl) w hw, (by decide +kernel : ∀ w ∈ u_ws RX9 TX9 46, goodWord w = true) w hw⟩
theorem O0 : hpO 0 RX0 TX0 15 tyX0 := ⟨rfl, by decide, by decide +kernel, goodsub_0, tyX0_ok, nmX0⟩
theorem O1 : hpO 1 RX1 TX1 13 tyX1 := ⟨rfl, by decide, by decide +kernel, goodsub_1, tyX1_ok, nmX1⟩
theorem O2 : hpO 2 RX2 TX2 6 tyX2 := ⟨rfl, by decide, by decide +kernel, goodsub_2, tyX2_ok, nmX2⟩
theorem O3 : hpO 3 RX3 TX3 5 tyX3 := ⟨rfl, by decide, by decide +kernel, goodsub_3, tyX3_ok, nmX3⟩
theorem O4 : hpO 4 RX4 TX4 9 tyX4 := ⟨rfl, by decide, by decide +kernel, goodsub_4, tyX4_ok, nmX4⟩
theorem O5 : hpO 5 RX5 TX5 3 tyX5 := ⟨rfl, by decide, by decide +kernel, goodsub_5, tyX5_ok, nmX5⟩
theorem O6 : hpO 6 RX6 TX6 4 tyX6 := ⟨rfl, by decide, by decide +kernel, goodsub_6, tyX6_ok, nmX6⟩
theorem O7 : hpO 7 RX7 TX7 7 tyX7 := ⟨rfl, by decide, by decide +kernel, goodsub_7, tyX7_ok, nmX7⟩
theorem O8 : hpO 8 RX8 TX8 16 tyX8 := ⟨rfl, by decide, by decide +kernel, goodsub_8, tyX8_ok, nmX8⟩
theorem O9 : hpO 9 RX9 TX9 46 tyX9 := ⟨rfl, by decide, by decide +kernel, goodsub_9, tyX9_ok, nmX9⟩
theorem hp0_many {i : Nat} (h : i < 4) : hp0 213 i = -1 := by
  unfold hp0
  rw [if_neg (by omega), if_neg (by omega), if_neg (by omega), if_neg (by omega), if_pos ⟨rfl, h⟩]
theorem hpw_z {σ : hpMem} {k i : Nat} (h : ∀ j : Nat, σ k j = 0) : ∀ j : Nat, hpw σ k i 0 k j = 0 := fun j => by
  rw [hpw_row]
  unfold hpu
  by_cases e : j = i
  · rw [if_pos e]
  · rw [if_neg e]; exact h j
theorem hp_nz {a : Int} (h : a = 0 ∨ a = 1) : narrow .boolean (.int (hpI a)) = .int (hpI a) := by rcases h with rfl | rfl <;> decide
theorem kd_0 : hpkd 0 = 8 := by decide +kernel
theorem kd_1 : hpkd 1 = 7 := by decide +kernel
theorem kd_2 : hpkd 2 = 10 := by decide +kernel
theorem kd_3 : hpkd 3 = 1 := by decide +kernel
theorem kd_4 : hpkd 4 = 11 := by decide +kernel
theorem kd_5 : hpkd 5 = 11 := by decide +kernel
theorem kd_6 : hpkd 6 = 11 := by decide +kernel
theorem kd_7 : hpkd 7 = 11 := by decide +kernel
theorem kd_8 : hpkd 8 = 11 := by decide +kernel
theorem kd_9 : hpkd 9 = 1 := by decide +kernel
theorem kd_10 : hpkd 10 = 11 := by decide +kernel
theorem kd_11 : hpkd 11 = 11 := by decide +kernel
theorem kd_12 : hpkd 12 = 11 := by decide +kernel
theorem kd_13 : hpkd 13 = 11 := by decide +kernel
theorem kd_14 : hpkd 14 = 11 := by decide +kernel
theorem kd_15 : hpkd 15 = 14 := by decide +kernel
theorem kd_16 : hpkd 16 = 16 := by decide +kernel
theorem kd_17 : hpkd 17 = 4 := by decide +kernel
theorem kd_18 : hpkd 18 = 15 := by decide +kernel
theorem kd_19 : hpkd 19 = 3 := by decide +kernel
theorem kd_20 : hpkd 20 = 11 := by decide +kernel
theorem kd_21 : hpkd 21 = 11 := by decide +kernel
theorem kd_22 : hpkd 22 = 3 := by decide +kernel
theorem kd_23 : hpkd 23 = 11 := by decide +kernel
theorem kd_24 : hpkd 24 = 11 := by decide +kernel
theorem kd_25 : hpkd 25 = 3 := by decide +kernel
theorem kd_26 : hpkd 26 = 11 := by decide +kernel
theorem kd_27 : hpkd 27 = 11 := by decide +kernel
theorem kd_28 : hpkd 28 = 3 := by decide +kernel
theorem kd_29 : hpkd 29 = 11 := by decide +kernel
theorem kd_30 : hpkd 30 = 11 := by decide +kernel
theorem kd_31 : hpkd 31 = 3 := by decide +kernel
theorem kd_32 : hpkd 32 = 11 := by decide +kernel
theorem kd_33 : hpkd 33 = 11 := by decide +kernel
theorem kd_34 : hpkd 34 = 3 := by decide +kernel
theorem kd_35 : hpkd 35 = 11 := by decide +kernel
theorem kd_36 : hpkd 36 = 11 := by decide +kernel
theorem kd_37 : hpkd 37 = 3 := by decide +kernel
theorem kd_38 : hpkd 38 = 11 := by decide +kernel
theorem kd_39 : hpkd 39 = 11 := by decide +kernel
theorem kd_40 : hpkd 40 = 3 := by decide +kernel
theorem kd_41 : hpkd 41 = 11 := by decide +kernel
theorem kd_42 : hpkd 42 = 11 := by decide +kernel
theorem kd_43 : hpkd 43 = 3 := by decide +kernel
theorem kd_44 : hpkd 44 = 11 := by decide +kernel
theorem kd_45 : hpkd 45 = 11 := by decide +kernel
theorem kd_46 : hpkd 46 = 3 := by decide +kernel
theorem kd_47 : hpkd 47 = 11 := by decide +kernel
theorem kd_48 : hpkd 48 = 11 := by decide +kernel
theorem kd_49 : hpkd 49 = 3 := by decide +kernel
theorem kd_50 : hpkd 50 = 11 := by decide +kernel
theorem kd_51 : hpkd 51 = 11 := by decide +kernel
theorem kd_52 : hpkd 52 = 3 := by decide +kernel
theorem kd_53 : hpkd 53 = 11 := by decide +kernel
theorem kd_54 : hpkd 54 = 11 := by decide +kernel
theorem kd_55 : hpkd 55 = 3 := by decide +kernel
theorem kd_56 : hpkd 56 = 11 := by decide +kernel
theorem kd_57 : hpkd 57 = 11 := by decide +kernel
theorem kd_58 : hpkd 58 = 3 := by decide +kernel
theorem kd_59 : hpkd 59 = 11 := by decide +kernel
theorem kd_60 : hpkd 60 = 11 := by decide +kernel
theorem kd_61 : hpkd 61 = 3 := by decide +kernel
theorem kd_62 : hpkd 62 = 11 := by decide +kernel
theorem kd_63 : hpkd 63 = 11 := by decide +kernel
theorem kd_64 : hpkd 64 = 3 := by decide +kernel
theorem kd_65 : hpkd 65 = 11 := by decide +kernel
theorem kd_66 : hpkd 66 = 11 := by decide +kernel
theorem kd_67 : hpkd 67 = 3 := by decide +kernel
theorem kd_68 : hpkd 68 = 11 := by decide +kernel
theorem kd_69 : hpkd 69 = 11 := by decide +kernel
theorem kd_70 : hpkd 70 = 4 := by decide +kernel
theorem kd_71 : hpkd 71 = 15 := by decide +kernel
theorem kd_72 : hpkd 72 = 3 := by decide +kernel
theorem kd_73 : hpkd 73 = 11 := by decide +kernel
theorem kd_74 : hpkd 74 = 11 := by decide +kernel
theorem kd_75 : hpkd 75 = 3 := by decide +kernel
theorem kd_76 : hpkd 76 = 11 := by decide +kernel
theorem kd_77 : hpkd 77 = 11 := by decide +kernel
theorem kd_78 : hpkd 78 = 3 := by decide +kernel
theorem kd_79 : hpkd 79 = 11 := by decide +kernel
theorem kd_80 : hpkd 80 = 11 := by decide +kernel
theorem kd_81 : hpkd 81 = 3 := by decide +kernel
theorem kd_82 : hpkd 82 = 11 := by decide +kernel
theorem kd_83 : hpkd 83 = 11 := by decide +kernel
theorem kd_84 : hpkd 84 = 3 := by decide +kernel
theorem kd_85 : hpkd 85 = 11 := by decide +kernel
theorem kd_86 : hpkd 86 = 11 := by decide +kernel
theorem kd_87 : hpkd 87 = 3 := by decide +kernel
theorem kd_88 : hpkd 88 = 11 := by decide +kernel
theorem kd_89 : hpkd 89 = 11 := by decide +kernel
theorem kd_90 : hpkd 90 = 3 := by decide +kernel
theorem kd_91 : hpkd 91 = 11 := by decide +kernel
theorem kd_92 : hpkd 92 = 11 := by decide +kernel
theorem kd_93 : hpkd 93 = 3 := by decide +kernel
theorem kd_94 : hpkd 94 = 11 := by decide +kernel
theorem kd_95 : hpkd 95 = 11 := by decide +kernel
theorem kd_96 : hpkd 96 = 3 := by decide +kernel
theorem kd_97 : hpkd 97 = 11 := by decide +kernel
theorem kd_98 : hpkd 98 = 11 := by decide +kernel
theorem kd_99 : hpkd 99 = 3 := by decide +kernel
theorem kd_100 : hpkd 100 = 11 := by decide +kernel
theorem kd_101 : hpkd 101 = 11 := by decide +kernel
theorem kd_102 : hpkd 102 = 3 := by decide +kernel
theorem kd_103 : hpkd 103 = 11 := by decide +kernel
theorem kd_104 : hpkd 104 = 11 := by decide +kernel
theorem kd_105 : hpkd 105 = 3 := by decide +kernel
theorem kd_106 : hpkd 106 = 11 := by decide +kernel
theorem kd_107 : hpkd 107 = 11 := by decide +kernel
theorem kd_108 : hpkd 108 = 3 := by decide +kernel
theorem kd_109 : hpkd 109 = 11 := by decide +kernel
theorem kd_110 : hpkd 110 = 11 := by decide +kernel
theorem kd_111 : hpkd 111 = 3 := by decide +kernel
theorem kd_112 : hpkd 112 = 11 := by decide +kernel
theorem kd_113 : hpkd 113 = 11 := by decide +kernel
theorem kd_114 : hpkd 114 = 3 := by decide +kernel
theorem kd_115 : hpkd 115 = 11 := by decide +kernel
theorem kd_116 : hpkd 116 = 11 := by decide +kernel
theorem kd_117 : hpkd 117 = 3 := by decide +kernel
theorem kd_118 : hpkd 118 = 11 := by decide +kernel
theorem kd_119 : hpkd 119 = 11 := by decide +kernel
theorem kd_120 : hpkd 120 = 3 := by decide +kernel
theorem kd_121 : hpkd 121 = 11 := by decide +kernel
theorem kd_122 : hpkd 122 = 11 := by decide +kernel
theorem kd_123 : hpkd 123 = 2 := by decide +kernel
theorem kd_124 : hpkd 124 = 3 := by decide +kernel
theorem kd_125 : hpkd 125 = 11 := by decide +kernel
theorem kd_126 : hpkd 126 = 11 := by decide +kernel
theorem kd_127 : hpkd 127 = 3 := by decide +kernel
theorem kd_128 : hpkd 128 = 11 := by decide +kernel
theorem kd_129 : hpkd 129 = 11 := by decide +kernel
theorem kd_130 : hpkd 130 = 0 := by decide +kernel
theorem kd_131 : hpkd 131 = 12 := by decide +kernel
theorem kd_132 : hpkd 132 = 11 := by decide +kernel
theorem kd_133 : hpkd 133 = 11 := by decide +kernel
theorem kd_134 : hpkd 134 = 11 := by decide +kernel
theorem kd_135 : hpkd 135 = 11 := by decide +kernel
theorem kd_136 : hpkd 136 = 11 := by decide +kernel
theorem kd_137 : hpkd 137 = 11 := by decide +kernel
theorem kd_138 : hpkd 138 = 3 := by decide +kernel
theorem kd_139 : hpkd 139 = 11 := by decide +kernel
theorem kd_140 : hpkd 140 = 11 := by decide +kernel
theorem kd_141 : hpkd 141 = 5 := by decide +kernel
theorem kd_142 : hpkd 142 = 11 := by decide +kernel
theorem kd_143 : hpkd 143 = 17 := by decide +kernel
theorem kd_144 : hpkd 144 = 11 := by decide +kernel
theorem kd_145 : hpkd 145 = 11 := by decide +kernel
theorem kd_146 : hpkd 146 = 11 := by decide +kernel
theorem kd_147 : hpkd 147 = 11 := by decide +kernel
theorem kd_148 : hpkd 148 = 11 := by decide +kernel
theorem kd_149 : hpkd 149 = 11 := by decide +kernel
theorem kd_150 : hpkd 150 = 11 := by decide +kernel
theorem kd_151 : hpkd 151 = 11 := by decide +kernel
theorem kd_152 : hpkd 152 = 11 := by decide +kernel
theorem kd_153 : hpkd 153 = 11 := by decide +kernel
theorem kd_154 : hpkd 154 = 11 := by decide +kernel
theorem kd_155 : hpkd 155 = 11 := by decide +kernel
theorem kd_156 : hpkd 156 = 11 := by decide +kernel
theorem kd_157 : hpkd 157 = 11 := by decide +kernel
theorem kd_158 : hpkd 158 = 11 := by decide +kernel
theorem kd_159 : hpkd 159 = 11 := by decide +kernel
theorem kd_160 : hpkd 160 = 11 := by decide +kernel
theorem kd_161 : hpkd 161 = 11 := by decide +kernel
theorem kd_162 : hpkd 162 = 11 := by decide +kernel
theorem kd_163 : hpkd 163 = 11 := by decide +kernel
theorem kd_164 : hpkd 164 = 3 := by decide +kernel
theorem kd_165 : hpkd 165 = 11 := by decide +kernel
theorem kd_166 : hpkd 166 = 11 := by decide +kernel
theorem kd_167 : hpkd 167 = 11 := by decide +kernel
theorem kd_168 : hpkd 168 = 11 := by decide +kernel
theorem kd_169 : hpkd 169 = 1 := by decide +kernel
theorem kd_170 : hpkd 170 = 11 := by decide +kernel
theorem kd_171 : hpkd 171 = 11 := by decide +kernel
theorem kd_172 : hpkd 172 = 11 := by decide +kernel
theorem kd_173 : hpkd 173 = 11 := by decide +kernel
theorem kd_174 : hpkd 174 = 11 := by decide +kernel
theorem kd_175 : hpkd 175 = 1 := by decide +kernel
theorem kd_176 : hpkd 176 = 11 := by decide +kernel
theorem kd_177 : hpkd 177 = 11 := by decide +kernel
theorem kd_178 : hpkd 178 = 11 := by decide +kernel
theorem kd_179 : hpkd 179 = 11 := by decide +kernel
theorem kd_180 : hpkd 180 = 11 := by decide +kernel
theorem kd_181 : hpkd 181 = 1 := by decide +kernel
theorem kd_182 : hpkd 182 = 11 := by decide +kernel
theorem kd_183 : hpkd 183 = 11 := by decide +kernel
theorem kd_184 : hpkd 184 = 11 := by decide +kernel
theorem kd_185 : hpkd 185 = 11 := by decide +kernel
theorem kd_186 : hpkd 186 = 11 := by decide +kernel
theorem kd_187 : hpkd 187 = 6 := by decide +kernel
theorem kd_188 : hpkd 188 = 12 := by decide +kernel
theorem kd_189 : hpkd 189 = 6 := by decide +kernel
theorem kd_190 : hpkd 190 = 12 := by decide +kernel
theorem kd_191 : hpkd 191 = 6 := by decide +kernel
theorem kd_192 : hpkd 192 = 12 := by decide +kernel
theorem kd_193 : hpkd 193 = 6 := by decide +kernel
theorem kd_194 : hpkd 194 = 12 := by decide +kernel
theorem kd_195 : hpkd 195 = 9 := by decide +kernel
theorem kd_196 : hpkd 196 = 11 := by decide +kernel
theorem kd_197 : hpkd 197 = 11 := by decide +kernel
theorem kd_198 : hpkd 198 = 13 := by decide +kernel
theorem kd_199 : hpkd 199 = 10 := by decide +kernel
theorem kd_200 : hpkd 200 = 11 := by decide +kernel
theorem kd_201 : hpkd 201 = 11 := by decide +kernel
theorem kd_202 : hpkd 202 = 11 := by decide +kernel
theorem kd_203 : hpkd 203 = 11 := by decide +kernel
theorem kd_204 : hpkd 204 = 11 := by decide +kernel
theorem kd_205 : hpkd 205 = 11 := by decide +kernel
theorem kd_206 : hpkd 206 = 11 := by decide +kernel
theorem kd_207 : hpkd 207 = 11 := by decide +kernel
theorem kd_208 : hpkd 208 = 11 := by decide +kernel
theorem kd_209 : hpkd 209 = 11 := by decide +kernel
theorem kd_210 : hpkd 210 = 11 := by decide +kernel
theorem kd_211 : hpkd 211 = 11 := by decide +kernel
theorem kd_212 : hpkd 212 = 11 := by decide +kernel
theorem kd_213 : hpkd 213 = 11 := by decide +kernel
theorem kd_214 : hpkd 214 = 11 := by decide +kernel
theorem kd_215 : hpkd 215 = 12 := by decide +kernel
theorem kd_216 : hpkd 216 = 12 := by decide +kernel
theorem ln_2 : hpln 2 = 500 := by decide +kernel
theorem ln_4 : hpln 4 = 8 := by decide +kernel
theorem ln_5 : hpln 5 = 6 := by decide +kernel
theorem ln_6 : hpln 6 = 6 := by decide +kernel
theorem ln_7 : hpln 7 = 20 := by decide +kernel
theorem ln_8 : hpln 8 = 20 := by decide +kernel
theorem ln_10 : hpln 10 = 8 := by decide +kernel
theorem ln_11 : hpln 11 = 6 := by decide +kernel
theorem ln_12 : hpln 12 = 6 := by decide +kernel
theorem ln_13 : hpln 13 = 20 := by decide +kernel
theorem ln_14 : hpln 14 = 20 := by decide +kernel
theorem ln_15 : hpln 15 = 3 := by decide +kernel
theorem ln_16 : hpln 16 = 4 := by decide +kernel
theorem ln_18 : hpln 18 = 17 := by decide +kernel
theorem ln_20 : hpln 20 = 40 := by decide +kernel
theorem ln_21 : hpln 21 = 40 := by decide +kernel
theorem ln_23 : hpln 23 = 40 := by decide +kernel
theorem ln_24 : hpln 24 = 40 := by decide +kernel
theorem ln_26 : hpln 26 = 40 := by decide +kernel
theorem ln_27 : hpln 27 = 40 := by decide +kernel
theorem ln_29 : hpln 29 = 40 := by decide +kernel
theorem ln_30 : hpln 30 = 40 := by decide +kernel
theorem ln_32 : hpln 32 = 40 := by decide +kernel
theorem ln_33 : hpln 33 = 40 := by decide +kernel
theorem ln_35 : hpln 35 = 40 := by decide +kernel
theorem ln_36 : hpln 36 = 40 := by decide +kernel
theorem ln_38 : hpln 38 = 40 := by decide +kernel
theorem ln_39 : hpln 39 = 40 := by decide +kernel
theorem ln_41 : hpln 41 = 40 := by decide +kernel
theorem ln_42 : hpln 42 = 40 := by decide +kernel
theorem ln_44 : hpln 44 = 40 := by decide +kernel
theorem ln_45 : hpln 45 = 40 := by decide +kernel
theorem ln_47 : hpln 47 = 40 := by decide +kernel
theorem ln_48 : hpln 48 = 40 := by decide +kernel
theorem ln_50 : hpln 50 = 40 := by decide +kernel
theorem ln_51 : hpln 51 = 40 := by decide +kernel
theorem ln_53 : hpln 53 = 40 := by decide +kernel
theorem ln_54 : hpln 54 = 40 := by decide +kernel
theorem ln_56 : hpln 56 = 40 := by decide +kernel
theorem ln_57 : hpln 57 = 40 := by decide +kernel
theorem ln_59 : hpln 59 = 40 := by decide +kernel
theorem ln_60 : hpln 60 = 40 := by decide +kernel
theorem ln_62 : hpln 62 = 40 := by decide +kernel
theorem ln_63 : hpln 63 = 40 := by decide +kernel
theorem ln_65 : hpln 65 = 40 := by decide +kernel
theorem ln_66 : hpln 66 = 40 := by decide +kernel
theorem ln_68 : hpln 68 = 40 := by decide +kernel
theorem ln_69 : hpln 69 = 40 := by decide +kernel
theorem ln_71 : hpln 71 = 17 := by decide +kernel
theorem ln_73 : hpln 73 = 40 := by decide +kernel
theorem ln_74 : hpln 74 = 40 := by decide +kernel
theorem ln_76 : hpln 76 = 40 := by decide +kernel
theorem ln_77 : hpln 77 = 40 := by decide +kernel
theorem ln_79 : hpln 79 = 40 := by decide +kernel
theorem ln_80 : hpln 80 = 40 := by decide +kernel
theorem ln_82 : hpln 82 = 40 := by decide +kernel
theorem ln_83 : hpln 83 = 40 := by decide +kernel
theorem ln_85 : hpln 85 = 40 := by decide +kernel
theorem ln_86 : hpln 86 = 40 := by decide +kernel
theorem ln_88 : hpln 88 = 40 := by decide +kernel
theorem ln_89 : hpln 89 = 40 := by decide +kernel
theorem ln_91 : hpln 91 = 40 := by decide +kernel
theorem ln_92 : hpln 92 = 40 := by decide +kernel
theorem ln_94 : hpln 94 = 40 := by decide +kernel
theorem ln_95 : hpln 95 = 40 := by decide +kernel
theorem ln_97 : hpln 97 = 40 := by decide +kernel
theorem ln_98 : hpln 98 = 40 := by decide +kernel
theorem ln_100 : hpln 100 = 40 := by decide +kernel
theorem ln_101 : hpln 101 = 40 := by decide +kernel
theorem ln_103 : hpln 103 = 40 := by decide +kernel
theorem ln_104 : hpln 104 = 40 := by decide +kernel
theorem ln_106 : hpln 106 = 40 := by decide +kernel
theorem ln_107 : hpln 107 = 40 := by decide +kernel
theorem ln_109 : hpln 109 = 40 := by decide +kernel
theorem ln_110 : hpln 110 = 40 := by decide +kernel
theorem ln_112 : hpln 112 = 40 := by decide +kernel
theorem ln_113 : hpln 113 = 40 := by decide +kernel
theorem ln_115 : hpln 115 = 40 := by decide +kernel
theorem ln_116 : hpln 116 = 40 := by decide +kernel
theorem ln_118 : hpln 118 = 40 := by decide +kernel
theorem ln_119 : hpln 119 = 40 := by decide +kernel
theorem ln_121 : hpln 121 = 40 := by decide +kernel
theorem ln_122 : hpln 122 = 40 := by decide +kernel
theorem ln_125 : hpln 125 = 40 := by decide +kernel
theorem ln_126 : hpln 126 = 40 := by decide +kernel
theorem ln_128 : hpln 128 = 40 := by decide +kernel
theorem ln_129 : hpln 129 = 40 := by decide +kernel
theorem ln_131 : hpln 131 = 135 := by decide +kernel
theorem ln_132 : hpln 132 = 135 := by decide +kernel
theorem ln_133 : hpln 133 = 135 := by decide +kernel
theorem ln_134 : hpln 134 = 135 := by decide +kernel
theorem ln_135 : hpln 135 = 135 := by decide +kernel
theorem ln_136 : hpln 136 = 135 := by decide +kernel
theorem ln_137 : hpln 137 = 14 := by decide +kernel
theorem ln_139 : hpln 139 = 40 := by decide +kernel
theorem ln_140 : hpln 140 = 40 := by decide +kernel
theorem ln_142 : hpln 142 = 20 := by decide +kernel
theorem ln_143 : hpln 143 = 20 := by decide +kernel
theorem ln_144 : hpln 144 = 17 := by decide +kernel
theorem ln_145 : hpln 145 = 17 := by decide +kernel
theorem ln_146 : hpln 146 = 17 := by decide +kernel
theorem ln_147 : hpln 147 = 17 := by decide +kernel
theorem ln_148 : hpln 148 = 17 := by decide +kernel
theorem ln_149 : hpln 149 = 17 := by decide +kernel
theorem ln_150 : hpln 150 = 17 := by decide +kernel
theorem ln_151 : hpln 151 = 17 := by decide +kernel
theorem ln_152 : hpln 152 = 17 := by decide +kernel
theorem ln_153 : hpln 153 = 17 := by decide +kernel
theorem ln_154 : hpln 154 = 17 := by decide +kernel
theorem ln_155 : hpln 155 = 17 := by decide +kernel
theorem ln_156 : hpln 156 = 17 := by decide +kernel
theorem ln_157 : hpln 157 = 17 := by decide +kernel
theorem ln_158 : hpln 158 = 17 := by decide +kernel
theorem ln_159 : hpln 159 = 17 := by decide +kernel
theorem ln_160 : hpln 160 = 17 := by decide +kernel
theorem ln_161 : hpln 161 = 17 := by decide +kernel
theorem ln_162 : hpln 162 = 17 := by decide +kernel
theorem ln_163 : hpln 163 = 17 := by decide +kernel
theorem ln_165 : hpln 165 = 40 := by decide +kernel
theorem ln_166 : hpln 166 = 40 := by decide +kernel
theorem ln_167 : hpln 167 = 64 := by decide +kernel
theorem ln_168 : hpln 168 = 8 := by decide +kernel
theorem ln_170 : hpln 170 = 8 := by decide +kernel
theorem ln_171 : hpln 171 = 6 := by decide +kernel
theorem ln_172 : hpln 172 = 6 := by decide +kernel
theorem ln_173 : hpln 173 = 20 := by decide +kernel
theorem ln_174 : hpln 174 = 20 := by decide +kernel
theorem ln_176 : hpln 176 = 8 := by decide +kernel
theorem ln_177 : hpln 177 = 6 := by decide +kernel
theorem ln_178 : hpln 178 = 6 := by decide +kernel
theorem ln_179 : hpln 179 = 20 := by decide +kernel
theorem ln_180 : hpln 180 = 20 := by decide +kernel
theorem ln_182 : hpln 182 = 8 := by decide +kernel
theorem ln_183 : hpln 183 = 6 := by decide +kernel
theorem ln_184 : hpln 184 = 6 := by decide +kernel
theorem ln_185 : hpln 185 = 20 := by decide +kernel
theorem ln_186 : hpln 186 = 20 := by decide +kernel
theorem ln_188 : hpln 188 = 60 := by decide +kernel
theorem ln_190 : hpln 190 = 60 := by decide +kernel
theorem ln_192 : hpln 192 = 60 := by decide +kernel
theorem ln_194 : hpln 194 = 60 := by decide +kernel
theorem ln_196 : hpln 196 = 47 := by decide +kernel
theorem ln_197 : hpln 197 = 141 := by decide +kernel
theorem ln_198 : hpln 198 = 3 := by decide +kernel
theorem ln_199 : hpln 199 = 500 := by decide +kernel
theorem ln_200 : hpln 200 = 5 := by decide +kernel
theorem ln_201 : hpln 201 = 47 := by decide +kernel
theorem ln_202 : hpln 202 = 14721 := by decide +kernel
theorem ln_203 : hpln 203 = 8 := by decide +kernel
theorem ln_204 : hpln 204 = 6 := by decide +kernel
theorem ln_205 : hpln 205 = 16 := by decide +kernel
theorem ln_206 : hpln 206 = 16 := by decide +kernel
theorem ln_207 : hpln 207 = 2025 := by decide +kernel
theorem ln_208 : hpln 208 = 135 := by decide +kernel
theorem ln_209 : hpln 209 = 135 := by decide +kernel
theorem ln_210 : hpln 210 = 20 := by decide +kernel
theorem ln_211 : hpln 211 = 340 := by decide +kernel
theorem ln_212 : hpln 212 = 64 := by decide +kernel
theorem ln_213 : hpln 213 = 4 := by decide +kernel
theorem ln_214 : hpln 214 = 4 := by decide +kernel
theorem ln_215 : hpln 215 = 240 := by decide +kernel
theorem ln_216 : hpln 216 = 60 := by decide +kernel
theorem fr_0_0 {z : Nat} {r : Nat → Int} : hpfv z 0 r 0 = .ref (z + 1) := hp_fvR (by decide +kernel) (by decide +kernel)
theorem fr_0_1 {z : Nat} {r : Nat → Int} : hpfv z 0 r 1 = .ref (z + 3) := hp_fvR (by decide +kernel) (by decide +kernel)
theorem fr_0_2 {z : Nat} {r : Nat → Int} : hpfv z 0 r 2 = .ref (z + 9) := hp_fvR (by decide +kernel) (by decide +kernel)
theorem fr_0_3 {z : Nat} {r : Nat → Int} : hpfv z 0 r 3 = .ref (z + 15) := hp_fvR (by decide +kernel) (by decide +kernel)
theorem fr_0_4 {z : Nat} {r : Nat → Int} : hpfv z 0 r 4 = .ref (z + 16) := hp_fvR (by decide +kernel) (by decide +kernel)
theorem fr_1_0 {z : Nat} {r : Nat → Int} : hpfv z 1 r 0 = .ref (z + 2) := hp_fvR (by decide +kernel) (by decide +kernel)
theorem fr_3_0 {z : Nat} {r : Nat → Int} : hpfv z 3 r 0 = .ref (z + 4) := hp_fvR (by decide +kernel) (by decide +kernel)
theorem fr_3_1 {z : Nat} {r : Nat → Int} : hpfv z 3 r 1 = .ref (z + 5) := hp_fvR (by decide +kernel) (by decide +kernel)
theorem fr_3_2 {z : Nat} {r : Nat → Int} : hpfv z 3 r 2 = .ref (z + 6) := hp_fvR (by decide +kernel) (by decide +kernel)
theorem fr_3_3 {z : Nat} {r : Nat → Int} : hpfv z 3 r 3 = .ref (z + 7) := hp_fvR (by decide +kernel) (by decide +kernel)
theorem fr_3_4 {z : Nat} {r : Nat → Int} : hpfv z 3 r 4 = .ref (z + 8) := hp_fvR (by decide +kernel) (by decide +kernel)
theorem fr_9_0 {z : Nat} {r : Nat → Int} : hpfv z 9 r 0 = .ref (z + 10) := hp_fvR (by decide +kernel) (by decide +kernel)
theorem fr_9_1 {z : Nat} {r : Nat → Int} : hpfv z 9 r 1 = .ref (z + 11) := hp_fvR (by decide +kernel) (by decide +kernel)
theorem fr_9_2 {z : Nat} {r : Nat → Int} : hpfv z 9 r 2 = .ref (z + 12) := hp_fvR (by decide +kernel) (by decide +kernel)
theorem fr_9_3 {z : Nat} {r : Nat → Int} : hpfv z 9 r 3 = .ref (z + 13) := hp_fvR (by decide +kernel) (by decide +kernel)
theorem fr_9_4 {z : Nat} {r : Nat → Int} : hpfv z 9 r 4 = .ref (z + 14) := hp_fvR (by decide +kernel) (by decide +kernel)
theorem fr_169_0 {z : Nat} {r : Nat → Int} : hpfv z 169 r 0 = .ref (z + 170) := hp_fvR (by decide +kernel) (by decide +kernel)
theorem fr_169_1 {z : Nat} {r : Nat → Int} : hpfv z 169 r 1 = .ref (z + 171) := hp_fvR (by decide +kernel) (by decide +kernel)
theorem fr_169_2 {z : Nat} {r : Nat → Int} : hpfv z 169 r 2 = .ref (z + 172) := hp_fvR (by decide +kernel) (by decide +kernel)
theorem fr_169_3 {z : Nat} {r : Nat → Int} : hpfv z 169 r 3 = .ref (z + 173) := hp_fvR (by decide +kernel) (by decide +kernel)
theorem fr_169_4 {z : Nat} {r : Nat → Int} : hpfv z 169 r 4 = .ref (z + 174) := hp_fvR (by decide +kernel) (by decide +kernel)
theorem fr_175_0 {z : Nat} {r : Nat → Int} : hpfv z 175 r 0 = .ref (z + 176) := hp_fvR (by decide +kernel) (by decide +kernel)
theorem fr_175_1 {z : Nat} {r : Nat → Int} : hpfv z 175 r 1 = .ref (z + 177) := hp_fvR (by decide +kernel) (by decide +kernel)
theorem fr_175_2 {z : Nat} {r : Nat → Int} : hpfv z 175 r 2 = .ref (z + 178) := hp_fvR (by decide +kernel) (by decide +kernel)
theorem fr_175_3 {z : Nat} {r : Nat → Int} : hpfv z 175 r 3 = .ref (z + 179) := hp_fvR (by decide +kernel) (by decide +kernel)
theorem fr_175_4 {z : Nat} {r : Nat → Int} : hpfv z 175 r 4 = .ref (z + 180) := hp_fvR (by decide +kernel) (by decide +kernel)
theorem fr_181_0 {z : Nat} {r : Nat → Int} : hpfv z 181 r 0 = .ref (z + 182) := hp_fvR (by decide +kernel) (by decide +kernel)
theorem fr_181_1 {z : Nat} {r : Nat → Int} : hpfv z 181 r 1 = .ref (z + 183) := hp_fvR (by decide +kernel) (by decide +kernel)
theorem fr_181_2 {z : Nat} {r : Nat → Int} : hpfv z 181 r 2 = .ref (z + 184) := hp_fvR (by decide +kernel) (by decide +kernel)
theorem fr_181_3 {z : Nat} {r : Nat → Int} : hpfv z 181 r 3 = .ref (z + 185) := hp_fvR (by decide +kernel) (by decide +kernel)
theorem fr_181_4 {z : Nat} {r : Nat → Int} : hpfv z 181 r 4 = .ref (z + 186) := hp_fvR (by decide +kernel) (by decide +kernel)
theorem fr_187_0 {z : Nat} {r : Nat → Int} : hpfv z 187 r 0 = .ref (z + 188) := hp_fvR (by decide +kernel) (by decide +kernel)
theorem fr_189_0 {z : Nat} {r : Nat → Int} : hpfv z 189 r 0 = .ref (z + 190) := hp_fvR (by decide +kernel) (by decide +kernel)
theorem fr_191_0 {z : Nat} {r : Nat → Int} : hpfv z 191 r 0 = .ref (z + 192) := hp_fvR (by decide +kernel) (by decide +kernel)
theorem fr_193_0 {z : Nat} {r : Nat → Int} : hpfv z 193 r 0 = .ref (z + 194) := hp_fvR (by decide +kernel) (by decide +kernel)
theorem fr_195_1 {z : Nat} {r : Nat → Int} : hpfv z 195 r 1 = .ref (z + 196) := hp_fvR (by decide +kernel) (by decide +kernel)
theorem fr_195_2 {z : Nat} {r : Nat → Int} : hpfv z 195 r 2 = .ref (z + 197) := hp_fvR (by decide +kernel) (by decide +kernel)
theorem fr_195_3 {z : Nat} {r : Nat → Int} : hpfv z 195 r 3 = .ref (z + 198) := hp_fvR (by decide +kernel) (by decide +kernel)
theorem fr_195_4 {z : Nat} {r : Nat → Int} : hpfv z 195 r 4 = .ref (z + 199) := hp_fvR (by decide +kernel) (by decide +kernel)
theorem fr_195_6 {z : Nat} {r : Nat → Int} : hpfv z 195 r 6 = .ref (z + 200) := hp_fvR (by decide +kernel) (by decide +kernel)
theorem fr_195_14 {z : Nat} {r : Nat → Int} : hpfv z 195 r 14 = .ref (z + 201) := hp_fvR (by decide +kernel) (by decide +kernel)
theorem fr_195_15 {z : Nat} {r : Nat → Int} : hpfv z 195 r 15 = .ref (z + 202) := hp_fvR (by decide +kernel) (by decide +kernel)
theorem fr_195_19 {z : Nat} {r : Nat → Int} : hpfv z 195 r 19 = .ref (z + 203) := hp_fvR (by decide +kernel) (by decide +kernel)
theorem fr_195_20 {z : Nat} {r : Nat → Int} : hpfv z 195 r 20 = .ref (z + 204) := hp_fvR (by decide +kernel) (by decide +kernel)
theorem fr_195_42 {z : Nat} {r : Nat → Int} : hpfv z 195 r 42 = .ref (z + 213) := hp_fvR (by decide +kernel) (by decide +kernel)
theorem fr_195_43 {z : Nat} {r : Nat → Int} : hpfv z 195 r 43 = .ref (z + 214) := hp_fvR (by decide +kernel) (by decide +kernel)
theorem fr_195_44 {z : Nat} {r : Nat → Int} : hpfv z 195 r 44 = .ref (z + 215) := hp_fvR (by decide +kernel) (by decide +kernel)
theorem fi_0_13 {z : Nat} {r : Nat → Int} {a : Int} (h : r 13 = a) : hpfv z 0 r 13 = .int (hpI a) := hp_fvI (by decide +kernel) h
theorem fi_0_14 {z : Nat} {r : Nat → Int} {a : Int} (h : r 14 = a) : hpfv z 0 r 14 = .int (hpI a) := hp_fvI (by decide +kernel) h
theorem fi_0_15 {z : Nat} {r : Nat → Int} {a : Int} (h : r 15 = a) : hpfv z 0 r 15 = .int (hpI a) := hp_fvI (by decide +kernel) h
theorem fi_1_1 {z : Nat} {r : Nat → Int} {a : Int} (h : r 1 = a) : hpfv z 1 r 1 = .int (hpI a) := hp_fvI (by decide +kernel) h
theorem fi_1_2 {z : Nat} {r : Nat → Int} {a : Int} (h : r 2 = a) : hpfv z 1 r 2 = .int (hpI a) := hp_fvI (by decide +kernel) h
theorem fi_1_3 {z : Nat} {r : Nat → Int} {a : Int} (h : r 3 = a) : hpfv z 1 r 3 = .int (hpI a) := hp_fvI (by decide +kernel) h
theorem fi_1_4 {z : Nat} {r : Nat → Int} {a : Int} (h : r 4 = a) : hpfv z 1 r 4 = .int (hpI a) := hp_fvI (by decide +kernel) h
theorem fi_1_5 {z : Nat} {r : Nat → Int} {a : Int} (h : r 5 = a) : hpfv z 1 r 5 = .int (hpI a) := hp_fvI (by decide +kernel) h
theorem fi_1_6 {z : Nat} {r : Nat → Int} {a : Int} (h : r 6 = a) : hpfv z 1 r 6 = .int (hpI a) := hp_fvI (by decide +kernel) h
theorem fi_3_5 {z : Nat} {r : Nat → Int} {a : Int} (h : r 5 = a) : hpfv z 3 r 5 = .int (hpI a) := hp_fvI (by decide +kernel) h
theorem fi_3_6 {z : Nat} {r : Nat → Int} {a : Int} (h : r 6 = a) : hpfv z 3 r 6 = .int (hpI a) := hp_fvI (by decide +kernel) h
theorem fi_3_7 {z : Nat} {r : Nat → Int} {a : Int} (h : r 7 = a) : hpfv z 3 r 7 = .int (hpI a) := hp_fvI (by decide +kernel) h
theorem fi_3_8 {z : Nat} {r : Nat → Int} {a : Int} (h : r 8 = a) : hpfv z 3 r 8 = .int (hpI a) := hp_fvI (by decide +kernel) h
theorem fi_3_9 {z : Nat} {r : Nat → Int} {a : Int} (h : r 9 = a) : hpfv z 3 r 9 = .int (hpI a) := hp_fvI (by decide +kernel) h
theorem fi_3_10 {z : Nat} {r : Nat → Int} {a : Int} (h : r 10 = a) : hpfv z 3 r 10 = .int (hpI a) := hp_fvI (by decide +kernel) h
theorem fi_3_11 {z : Nat} {r : Nat → Int} {a : Int} (h : r 11 = a) : hpfv z 3 r 11 = .int (hpI a) := hp_fvI (by decide +kernel) h
theorem fi_9_5 {z : Nat} {r : Nat → Int} {a : Int} (h : r 5 = a) : hpfv z 9 r 5 = .int (hpI a) := hp_fvI (by decide +kernel) h
theorem fi_9_6 {z : Nat} {r : Nat → Int} {a : Int} (h : r 6 = a) : hpfv z 9 r 6 = .int (hpI a) := hp_fvI (by decide +kernel) h
theorem fi_9_7 {z : Nat} {r : Nat → Int} {a : Int} (h : r 7 = a) : hpfv z 9 r 7 = .int (hpI a) := hp_fvI (by decide +kernel) h
theorem fi_9_8 {z : Nat} {r : Nat → Int} {a : Int} (h : r 8 = a) : hpfv z 9 r 8 = .int (hpI a) := hp_fvI (by decide +kernel) h
theorem fi_9_9 {z : Nat} {r : Nat → Int} {a : Int} (h : r 9 = a) : hpfv z 9 r 9 = .int (hpI a) := hp_fvI (by decide +kernel) h
theorem fi_9_10 {z : Nat} {r : Nat → Int} {a : Int} (h : r 10 = a) : hpfv z 9 r 10 = .int (hpI a) := hp_fvI (by decide +kernel) h
theorem fi_9_11 {z : Nat} {r : Nat → Int} {a : Int} (h : r 11 = a) : hpfv z 9 r 11 = .int (hpI a) := hp_fvI (by decide +kernel) h
theorem fi_169_5 {z : Nat} {r : Nat → Int} {a : Int} (h : r 5 = a) : hpfv z 169 r 5 = .int (hpI a) := hp_fvI (by decide +kernel) h
theorem fi_169_6 {z : Nat} {r : Nat → Int} {a : Int} (h : r 6 = a) : hpfv z 169 r 6 = .int (hpI a) := hp_fvI (by decide +kernel) h
theorem fi_169_7 {z : Nat} {r : Nat → Int} {a : Int} (h : r 7 = a) : hpfv z 169 r 7 = .int (hpI a) := hp_fvI (by decide +kernel) h
theorem fi_169_8 {z : Nat} {r : Nat → Int} {a : Int} (h : r 8 = a) : hpfv z 169 r 8 = .int (hpI a) := hp_fvI (by decide +kernel) h
theorem fi_169_9 {z : Nat} {r : Nat → Int} {a : Int} (h : r 9 = a) : hpfv z 169 r 9 = .int (hpI a) := hp_fvI (by decide +kernel) h
theorem fi_169_10 {z : Nat} {r : Nat → Int} {a : Int} (h : r 10 = a) : hpfv z 169 r 10 = .int (hpI a) := hp_fvI (by decide +kernel) h
theorem fi_169_11 {z : Nat} {r : Nat → Int} {a : Int} (h : r 11 = a) : hpfv z 169 r 11 = .int (hpI a) := hp_fvI (by decide +kernel) h
theorem fi_169_12 {z : Nat} {r : Nat → Int} {a : Int} (h : r 12 = a) : hpfv z 169 r 12 = .int (hpI a) := hp_fvI (by decide +kernel) h
theorem fi_175_5 {z : Nat} {r : Nat → Int} {a : Int} (h : r 5 = a) : hpfv z 175 r 5 = .int (hpI a) := hp_fvI (by decide +kernel) h
theorem fi_175_6 {z : Nat} {r : Nat → Int} {a : Int} (h : r 6 = a) : hpfv z 175 r 6 = .int (hpI a) := hp_fvI (by decide +kernel) h
theorem fi_175_7 {z : Nat} {r : Nat → Int} {a : Int} (h : r 7 = a) : hpfv z 175 r 7 = .int (hpI a) := hp_fvI (by decide +kernel) h
theorem fi_175_8 {z : Nat} {r : Nat → Int} {a : Int} (h : r 8 = a) : hpfv z 175 r 8 = .int (hpI a) := hp_fvI (by decide +kernel) h
theorem fi_175_9 {z : Nat} {r : Nat → Int} {a : Int} (h : r 9 = a) : hpfv z 175 r 9 = .int (hpI a) := hp_fvI (by decide +kernel) h
theorem fi_175_10 {z : Nat} {r : Nat → Int} {a : Int} (h : r 10 = a) : hpfv z 175 r 10 = .int (hpI a) := hp_fvI (by decide +kernel) h
theorem fi_175_11 {z : Nat} {r : Nat → Int} {a : Int} (h : r 11 = a) : hpfv z 175 r 11 = .int (hpI a) := hp_fvI (by decide +kernel) h
theorem fi_175_12 {z : Nat} {r : Nat → Int} {a : Int} (h : r 12 = a) : hpfv z 175 r 12 = .int (hpI a) := hp_fvI (by decide +kernel) h
theorem fi_181_5 {z : Nat} {r : Nat → Int} {a : Int} (h : r 5 = a) : hpfv z 181 r 5 = .int (hpI a) := hp_fvI (by decide +kernel) h
theorem fi_181_6 {z : Nat} {r : Nat → Int} {a : Int} (h : r 6 = a) : hpfv z 181 r 6 = .int (hpI a) := hp_fvI (by decide +kernel) h
theorem fi_181_7 {z : Nat} {r : Nat → Int} {a : Int} (h : r 7 = a) : hpfv z 181 r 7 = .int (hpI a) := hp_fvI (by decide +kernel) h
theorem fi_181_8 {z : Nat} {r : Nat → Int} {a : Int} (h : r 8 = a) : hpfv z 181 r 8 = .int (hpI a) := hp_fvI (by decide +kernel) h
theorem fi_181_9 {z : Nat} {r : Nat → Int} {a : Int} (h : r 9 = a) : hpfv z 181 r 9 = .int (hpI a) := hp_fvI (by decide +kernel) h
theorem fi_181_10 {z : Nat} {r : Nat → Int} {a : Int} (h : r 10 = a) : hpfv z 181 r 10 = .int (hpI a) := hp_fvI (by decide +kernel) h
theorem fi_181_11 {z : Nat} {r : Nat → Int} {a : Int} (h : r 11 = a) : hpfv z 181 r 11 = .int (hpI a) := hp_fvI (by decide +kernel) h
theorem fi_181_12 {z : Nat} {r : Nat → Int} {a : Int} (h : r 12 = a) : hpfv z 181 r 12 = .int (hpI a) := hp_fvI (by decide +kernel) h
theorem fi_187_1 {z : Nat} {r : Nat → Int} {a : Int} (h : r 1 = a) : hpfv z 187 r 1 = .int (hpI a) := hp_fvI (by decide +kernel) h
theorem fi_187_2 {z : Nat} {r : Nat → Int} {a : Int} (h : r 2 = a) : hpfv z 187 r 2 = .int (hpI a) := hp_fvI (by decide +kernel) h
theorem fi_187_3 {z : Nat} {r : Nat → Int} {a : Int} (h : r 3 = a) : hpfv z 187 r 3 = .int (hpI a) := hp_fvI (by decide +kernel) h
theorem fi_189_1 {z : Nat} {r : Nat → Int} {a : Int} (h : r 1 = a) : hpfv z 189 r 1 = .int (hpI a) := hp_fvI (by decide +kernel) h
theorem fi_189_2 {z : Nat} {r : Nat → Int} {a : Int} (h : r 2 = a) : hpfv z 189 r 2 = .int (hpI a) := hp_fvI (by decide +kernel) h
theorem fi_189_3 {z : Nat} {r : Nat → Int} {a : Int} (h : r 3 = a) : hpfv z 189 r 3 = .int (hpI a) := hp_fvI (by decide +kernel) h
theorem fi_191_1 {z : Nat} {r : Nat → Int} {a : Int} (h : r 1 = a) : hpfv z 191 r 1 = .int (hpI a) := hp_fvI (by decide +kernel) h
theorem fi_191_2 {z : Nat} {r : Nat → Int} {a : Int} (h : r 2 = a) : hpfv z 191 r 2 = .int (hpI a) := hp_fvI (by decide +kernel) h
theorem fi_191_3 {z : Nat} {r : Nat → Int} {a : Int} (h : r 3 = a) : hpfv z 191 r 3 = .int (hpI a) := hp_fvI (by decide +kernel) h
theorem fi_193_1 {z : Nat} {r : Nat → Int} {a : Int} (h : r 1 = a) : hpfv z 193 r 1 = .int (hpI a) := hp_fvI (by decide +kernel) h
theorem fi_193_2 {z : Nat} {r : Nat → Int} {a : Int} (h : r 2 = a) : hpfv z 193 r 2 = .int (hpI a) := hp_fvI (by decide +kernel) h
theorem fi_193_3 {z : Nat} {r : Nat → Int} {a : Int} (h : r 3 = a) : hpfv z 193 r 3 = .int (hpI a) := hp_fvI (by decide +kernel) h
theorem fi_195_5 {z : Nat} {r : Nat → Int} {a : Int} (h : r 5 = a) : hpfv z 195 r 5 = .int (hpI a) := hp_fvI (by decide +kernel) h
theorem fi_195_7 {z : Nat} {r : Nat → Int} {a : Int} (h : r 7 = a) : hpfv z 195 r 7 = .int (hpI a) := hp_fvI (by decide +kernel) h
theorem fi_195_8 {z : Nat} {r : Nat → Int} {a : Int} (h : r 8 = a) : hpfv z 195 r 8 = .int (hpI a) := hp_fvI (by decide +kernel) h
theorem fi_195_9 {z : Nat} {r : Nat → Int} {a : Int} (h : r 9 = a) : hpfv z 195 r 9 = .int (hpI a) := hp_fvI (by decide +kernel) h
theorem fi_195_10 {z : Nat} {r : Nat → Int} {a : Int} (h : r 10 = a) : hpfv z 195 r 10 = .int (hpI a) := hp_fvI (by decide +kernel) h
theorem fi_195_12 {z : Nat} {r : Nat → Int} {a : Int} (h : r 12 = a) : hpfv z 195 r 12 = .int (hpI a) := hp_fvI (by decide +kernel) h
theorem fi_195_13 {z : Nat} {r : Nat → Int} {a : Int} (h : r 13 = a) : hpfv z 195 r 13 = .int (hpI a) := hp_fvI (by decide +kernel) h
theorem fi_195_16 {z : Nat} {r : Nat → Int} {a : Int} (h : r 16 = a) : hpfv z 195 r 16 = .int (hpI a) := hp_fvI (by decide +kernel) h
theorem fi_195_21 {z : Nat} {r : Nat → Int} {a : Int} (h : r 21 = a) : hpfv z 195 r 21 = .int (hpI a) := hp_fvI (by decide +kernel) h
theorem fi_195_22 {z : Nat} {r : Nat → Int} {a : Int} (h : r 22 = a) : hpfv z 195 r 22 = .int (hpI a) := hp_fvI (by decide +kernel) h
theorem fi_195_23 {z : Nat} {r : Nat → Int} {a : Int} (h : r 23 = a) : hpfv z 195 r 23 = .int (hpI a) := hp_fvI (by decide +kernel) h
theorem wd_1 : Cond.initialized "TurfHeaps" ∈ hpT := hpT_of 1 (by decide +kernel) (by decide +kernel)
theorem wd_2 : Cond.initialized "TurfHeaps$Tape" ∈ hpT := hpT_of 2 (by decide +kernel) (by decide +kernel)
theorem wd_3 : Cond.initialized "TurfHeaps$Moor" ∈ hpT := hpT_of 3 (by decide +kernel) (by decide +kernel)
theorem wd_9 : Cond.initialized "TurfHeaps$Slot" ∈ hpT := hpT_of 9 (by decide +kernel) (by decide +kernel)
theorem wd_10 : Cond.initialized "TurfHeapsModel" ∈ hpT := hpT_of 10 (by decide +kernel) (by decide +kernel)
theorem wd_16 : Cond.initialized "java/lang/System" ∈ hpT := hpT_of 16 (by decide +kernel) (by decide +kernel)
theorem wd_32 : Cond.fieldLink "TurfHeaps$Tape" 9 "TurfHeaps$Tape" "bytes" "[B" ∈ hpT := hpT_of 32 (by decide +kernel) (by decide +kernel)
theorem wd_34 : Cond.fieldLink "TurfHeaps$Tape" 19 "TurfHeaps$Tape" "size" "I" ∈ hpT := hpT_of 34 (by decide +kernel) (by decide +kernel)
theorem wd_35 : Cond.fieldLink "TurfHeaps$Tape" 27 "TurfHeaps$Tape" "fault" "I" ∈ hpT := hpT_of 35 (by decide +kernel) (by decide +kernel)
theorem wd_37 : Cond.fieldLink "TurfHeaps$Tape" 15 "TurfHeaps$Tape" "faultPlace" "I" ∈ hpT := hpT_of 37 (by decide +kernel) (by decide +kernel)
theorem wd_39 : Cond.fieldLink "TurfHeaps$Tape" 30 "TurfHeaps$Tape" "place" "I" ∈ hpT := hpT_of 39 (by decide +kernel) (by decide +kernel)
theorem wd_40 : Cond.fieldLink "TurfHeaps$Tape" 36 "TurfHeaps$Tape" "kind" "I" ∈ hpT := hpT_of 40 (by decide +kernel) (by decide +kernel)
theorem wd_41 : Cond.fieldLink "TurfHeaps$Tape" 113 "TurfHeaps$Tape" "start" "I" ∈ hpT := hpT_of 41 (by decide +kernel) (by decide +kernel)
theorem wd_64 : Cond.fieldLink "TurfHeaps$Moor" 9 "TurfHeaps$Moor" "told" "[I" ∈ hpT := hpT_of 64 (by decide +kernel) (by decide +kernel)
theorem wd_68 : Cond.fieldLink "TurfHeaps$Moor" 15 "TurfHeaps$Moor" "cartTurfs" "[I" ∈ hpT := hpT_of 68 (by decide +kernel) (by decide +kernel)
theorem wd_72 : Cond.fieldLink "TurfHeaps$Moor" 18 "TurfHeaps$Moor" "cartDay" "[I" ∈ hpT := hpT_of 72 (by decide +kernel) (by decide +kernel)
theorem wd_76 : Cond.fieldLink "TurfHeaps$Moor" 21 "TurfHeaps$Moor" "actTurfs" "[I" ∈ hpT := hpT_of 76 (by decide +kernel) (by decide +kernel)
theorem wd_79 : Cond.fieldLink "TurfHeaps$Moor" 24 "TurfHeaps$Moor" "actDay" "[I" ∈ hpT := hpT_of 79 (by decide +kernel) (by decide +kernel)
theorem wd_82 : Cond.fieldLink "TurfHeaps$Moor" 27 "TurfHeaps$Moor" "days" "I" ∈ hpT := hpT_of 82 (by decide +kernel) (by decide +kernel)
theorem wd_87 : Cond.fieldLink "TurfHeaps$Moor" 31 "TurfHeaps$Moor" "law" "I" ∈ hpT := hpT_of 87 (by decide +kernel) (by decide +kernel)
theorem wd_90 : Cond.fieldLink "TurfHeaps$Moor" 34 "TurfHeaps$Moor" "odds" "I" ∈ hpT := hpT_of 90 (by decide +kernel) (by decide +kernel)
theorem wd_93 : Cond.fieldLink "TurfHeaps$Moor" 37 "TurfHeaps$Moor" "lines" "I" ∈ hpT := hpT_of 93 (by decide +kernel) (by decide +kernel)
theorem wd_96 : Cond.fieldLink "TurfHeaps$Moor" 40 "TurfHeaps$Moor" "heapsTold" "I" ∈ hpT := hpT_of 96 (by decide +kernel) (by decide +kernel)
theorem wd_100 : Cond.fieldLink "TurfHeaps$Moor" 43 "TurfHeaps$Moor" "carts" "I" ∈ hpT := hpT_of 100 (by decide +kernel) (by decide +kernel)
theorem wd_104 : Cond.fieldLink "TurfHeaps$Moor" 46 "TurfHeaps$Moor" "acts" "I" ∈ hpT := hpT_of 104 (by decide +kernel) (by decide +kernel)
theorem wd_332 : Cond.fieldLink "TurfHeaps$Slot" 9 "TurfHeaps$Slot" "numbers" "[J" ∈ hpT := hpT_of 332 (by decide +kernel) (by decide +kernel)
theorem wd_334 : Cond.fieldLink "TurfHeaps$Slot" 15 "TurfHeaps$Slot" "has" "Z" ∈ hpT := hpT_of 334 (by decide +kernel) (by decide +kernel)
theorem wd_336 : Cond.fieldLink "TurfHeaps$Slot" 19 "TurfHeaps$Slot" "width" "I" ∈ hpT := hpT_of 336 (by decide +kernel) (by decide +kernel)
theorem wd_338 : Cond.fieldLink "TurfHeaps$Slot" 23 "TurfHeaps$Slot" "size" "I" ∈ hpT := hpT_of 338 (by decide +kernel) (by decide +kernel)
theorem wd_349 : Cond.fieldLink "TurfHeaps" 12 "TurfHeaps" "tape" "LTurfHeaps$Tape;" ∈ hpT := hpT_of 349 (by decide +kernel) (by decide +kernel)
theorem wd_350 : Cond.fieldLink "TurfHeaps" 19 "TurfHeaps" "moor" "LTurfHeaps$Moor;" ∈ hpT := hpT_of 350 (by decide +kernel) (by decide +kernel)
theorem wd_351 : Cond.fieldLink "TurfHeaps" 23 "TurfHeaps" "fresh" "LTurfHeaps$Moor;" ∈ hpT := hpT_of 351 (by decide +kernel) (by decide +kernel)
theorem wd_352 : Cond.fieldLink "TurfHeaps" 26 "TurfHeaps" "images" "[LTurfHeaps$Moor;" ∈ hpT := hpT_of 352 (by decide +kernel) (by decide +kernel)
theorem wd_353 : Cond.fieldLink "TurfHeaps" 32 "TurfHeaps" "slots" "[LTurfHeaps$Slot;" ∈ hpT := hpT_of 353 (by decide +kernel) (by decide +kernel)
theorem wd_362 : Cond.fieldLink "TurfHeaps" 414 "TurfHeaps" "passed" "Z" ∈ hpT := hpT_of 362 (by decide +kernel) (by decide +kernel)
theorem wd_363 : Cond.fieldLink "TurfHeaps" 417 "TurfHeaps" "worthsKnown" "Z" ∈ hpT := hpT_of 363 (by decide +kernel) (by decide +kernel)
theorem wd_364 : Cond.fieldLink "TurfHeaps" 81 "TurfHeaps" "roundDay" "I" ∈ hpT := hpT_of 364 (by decide +kernel) (by decide +kernel)
theorem wd_404 : Cond.instanceMethod (⟨"TurfHeaps$Tape", "put", "(I)V"⟩ : MethodName) ∈ hpT := hpT_of 404 (by decide +kernel) (by decide +kernel)
theorem wd_405 : Cond.code (⟨"TurfHeaps$Tape", "put", "(I)V"⟩ : MethodName) prog_9_method_2_code 3 (none : Option FieldType) ∈ hpT := hpT_of 405 (by decide +kernel) (by decide +kernel)
theorem wd_416 : Cond.instanceMethod (⟨"TurfHeaps$Tape", "readInto", "(LTurfHeaps$Moor;)Z"⟩ : MethodName) ∈ hpT := hpT_of 416 (by decide +kernel) (by decide +kernel)
theorem wd_417 : Cond.code (⟨"TurfHeaps$Tape", "readInto", "(LTurfHeaps$Moor;)Z"⟩ : MethodName) prog_9_method_3_code 3 (some FieldType.boolean) ∈ hpT := hpT_of 417 (by decide +kernel) (by decide +kernel)
theorem wd_420 : Cond.instanceMethod (⟨"TurfHeaps$Moor", "clear", "()V"⟩ : MethodName) ∈ hpT := hpT_of 420 (by decide +kernel) (by decide +kernel)
theorem wd_421 : Cond.code (⟨"TurfHeaps$Moor", "clear", "()V"⟩ : MethodName) prog_3_method_2_code 1 (none : Option FieldType) ∈ hpT := hpT_of 421 (by decide +kernel) (by decide +kernel)
theorem wd_422 : Cond.methodLink "TurfHeaps$Tape" 33 (⟨"TurfHeaps$Tape", "nextToken", "()V"⟩ : MethodName) ∈ hpT := hpT_of 422 (by decide +kernel) (by decide +kernel)
theorem wd_424 : Cond.instanceMethod (⟨"TurfHeaps$Tape", "nextToken", "()V"⟩ : MethodName) ∈ hpT := hpT_of 424 (by decide +kernel) (by decide +kernel)
theorem wd_425 : Cond.code (⟨"TurfHeaps$Tape", "nextToken", "()V"⟩ : MethodName) prog_9_method_11_code 2 (none : Option FieldType) ∈ hpT := hpT_of 425 (by decide +kernel) (by decide +kernel)
theorem wd_532 : Cond.instanceMethod (⟨"TurfHeaps$Moor", "become", "(LTurfHeaps$Moor;)V"⟩ : MethodName) ∈ hpT := hpT_of 532 (by decide +kernel) (by decide +kernel)
theorem wd_533 : Cond.code (⟨"TurfHeaps$Moor", "become", "(LTurfHeaps$Moor;)V"⟩ : MethodName) prog_3_method_3_code 2 (none : Option FieldType) ∈ hpT := hpT_of 533 (by decide +kernel) (by decide +kernel)
theorem wd_534 : Cond.methodLink "TurfHeaps$Moor" 49 (⟨"java/lang/System", "arraycopy", "(Ljava/lang/Object;ILjava/lang/Object;II)V"⟩ : MethodName) ∈ hpT := hpT_of 534 (by decide +kernel) (by decide +kernel)
theorem wd_535 : Cond.static (⟨"java/lang/System", "arraycopy", "(Ljava/lang/Object;ILjava/lang/Object;II)V"⟩ : MethodName) ∈ hpT := hpT_of 535 (by decide +kernel) (by decide +kernel)
theorem wd_536 : Cond.native (⟨"java/lang/System", "arraycopy", "(Ljava/lang/Object;ILjava/lang/Object;II)V"⟩ : MethodName) ∈ hpT := hpT_of 536 (by decide +kernel) (by decide +kernel)
theorem wd_537 : Cond.methodLink "TurfHeaps" 101 (⟨"TurfHeaps", "forget", "()V"⟩ : MethodName) ∈ hpT := hpT_of 537 (by decide +kernel) (by decide +kernel)
theorem wd_539 : Cond.instanceMethod (⟨"TurfHeaps", "forget", "()V"⟩ : MethodName) ∈ hpT := hpT_of 539 (by decide +kernel) (by decide +kernel)
theorem wd_540 : Cond.code (⟨"TurfHeaps", "forget", "()V"⟩ : MethodName) prog_1_method_84_code 1 (none : Option FieldType) ∈ hpT := hpT_of 540 (by decide +kernel) (by decide +kernel)
theorem wd_549 : Cond.methodLink "TurfHeaps" 113 (⟨"TurfHeaps", "isTold", "(I)Z"⟩ : MethodName) ∈ hpT := hpT_of 549 (by decide +kernel) (by decide +kernel)
theorem wd_551 : Cond.instanceMethod (⟨"TurfHeaps", "isTold", "(I)Z"⟩ : MethodName) ∈ hpT := hpT_of 551 (by decide +kernel) (by decide +kernel)
theorem wd_552 : Cond.code (⟨"TurfHeaps", "isTold", "(I)Z"⟩ : MethodName) prog_1_method_78_code 2 (some FieldType.boolean) ∈ hpT := hpT_of 552 (by decide +kernel) (by decide +kernel)
theorem wd_557 : Cond.methodLink "TurfHeaps" 120 (⟨"TurfHeaps", "isCart", "(I)Z"⟩ : MethodName) ∈ hpT := hpT_of 557 (by decide +kernel) (by decide +kernel)
theorem wd_559 : Cond.instanceMethod (⟨"TurfHeaps", "isCart", "(I)Z"⟩ : MethodName) ∈ hpT := hpT_of 559 (by decide +kernel) (by decide +kernel)
theorem wd_560 : Cond.code (⟨"TurfHeaps", "isCart", "(I)Z"⟩ : MethodName) prog_1_method_79_code 2 (some FieldType.boolean) ∈ hpT := hpT_of 560 (by decide +kernel) (by decide +kernel)
theorem wd_568 : Cond.methodLink "TurfHeaps" 132 (⟨"TurfHeaps", "isDay", "(I)Z"⟩ : MethodName) ∈ hpT := hpT_of 568 (by decide +kernel) (by decide +kernel)
theorem wd_570 : Cond.instanceMethod (⟨"TurfHeaps", "isDay", "(I)Z"⟩ : MethodName) ∈ hpT := hpT_of 570 (by decide +kernel) (by decide +kernel)
theorem wd_571 : Cond.code (⟨"TurfHeaps", "isDay", "(I)Z"⟩ : MethodName) prog_1_method_75_code 2 (some FieldType.boolean) ∈ hpT := hpT_of 571 (by decide +kernel) (by decide +kernel)
theorem wd_572 : Cond.methodLink "TurfHeaps" 177 (⟨"TurfHeaps", "noMoor", "()Z"⟩ : MethodName) ∈ hpT := hpT_of 572 (by decide +kernel) (by decide +kernel)
theorem wd_574 : Cond.instanceMethod (⟨"TurfHeaps", "noMoor", "()Z"⟩ : MethodName) ∈ hpT := hpT_of 574 (by decide +kernel) (by decide +kernel)
theorem wd_575 : Cond.code (⟨"TurfHeaps", "noMoor", "()Z"⟩ : MethodName) prog_1_method_74_code 1 (some FieldType.boolean) ∈ hpT := hpT_of 575 (by decide +kernel) (by decide +kernel)
theorem wd_683 : Cond.methodLink "TurfHeaps" 165 (⟨"TurfHeaps", "isDayAheadOfLast", "(I)Z"⟩ : MethodName) ∈ hpT := hpT_of 683 (by decide +kernel) (by decide +kernel)
theorem wd_685 : Cond.instanceMethod (⟨"TurfHeaps", "isDayAheadOfLast", "(I)Z"⟩ : MethodName) ∈ hpT := hpT_of 685 (by decide +kernel) (by decide +kernel)
theorem wd_686 : Cond.code (⟨"TurfHeaps", "isDayAheadOfLast", "(I)Z"⟩ : MethodName) prog_1_method_76_code 2 (some FieldType.boolean) ∈ hpT := hpT_of 686 (by decide +kernel) (by decide +kernel)
theorem wd_742 : Cond.methodLink "TurfHeaps" 200 (⟨"TurfHeaps", "asNumber", "(Z)I"⟩ : MethodName) ∈ hpT := hpT_of 742 (by decide +kernel) (by decide +kernel)
theorem wd_743 : Cond.static (⟨"TurfHeaps", "asNumber", "(Z)I"⟩ : MethodName) ∈ hpT := hpT_of 743 (by decide +kernel) (by decide +kernel)
theorem wd_744 : Cond.code (⟨"TurfHeaps", "asNumber", "(Z)I"⟩ : MethodName) prog_1_method_83_code 1 (some FieldType.int) ∈ hpT := hpT_of 744 (by decide +kernel) (by decide +kernel)
theorem wd_836 : Cond.methodLink "TurfHeaps" 239 (⟨"TurfHeaps", "isOfAll", "(I)Z"⟩ : MethodName) ∈ hpT := hpT_of 836 (by decide +kernel) (by decide +kernel)
theorem wd_838 : Cond.instanceMethod (⟨"TurfHeaps", "isOfAll", "(I)Z"⟩ : MethodName) ∈ hpT := hpT_of 838 (by decide +kernel) (by decide +kernel)
theorem wd_839 : Cond.code (⟨"TurfHeaps", "isOfAll", "(I)Z"⟩ : MethodName) prog_1_method_80_code 2 (some FieldType.boolean) ∈ hpT := hpT_of 839 (by decide +kernel) (by decide +kernel)
theorem wd_916 : Cond.methodLink "TurfHeaps" 259 (⟨"TurfHeaps", "smallRowFault", "(I)I"⟩ : MethodName) ∈ hpT := hpT_of 916 (by decide +kernel) (by decide +kernel)
theorem wd_918 : Cond.instanceMethod (⟨"TurfHeaps", "smallRowFault", "(I)I"⟩ : MethodName) ∈ hpT := hpT_of 918 (by decide +kernel) (by decide +kernel)
theorem wd_919 : Cond.code (⟨"TurfHeaps", "smallRowFault", "(I)I"⟩ : MethodName) prog_1_method_111_code 2 (some FieldType.int) ∈ hpT := hpT_of 919 (by decide +kernel) (by decide +kernel)
theorem wd_920 : Cond.methodLink "TurfHeaps" 382 (⟨"TurfHeaps", "isSlot", "(I)Z"⟩ : MethodName) ∈ hpT := hpT_of 920 (by decide +kernel) (by decide +kernel)
theorem wd_921 : Cond.static (⟨"TurfHeaps", "isSlot", "(I)Z"⟩ : MethodName) ∈ hpT := hpT_of 921 (by decide +kernel) (by decide +kernel)
theorem wd_922 : Cond.code (⟨"TurfHeaps", "isSlot", "(I)Z"⟩ : MethodName) prog_1_method_81_code 1 (some FieldType.boolean) ∈ hpT := hpT_of 922 (by decide +kernel) (by decide +kernel)
theorem wd_977 : Cond.methodLink "TurfHeaps" 284 (⟨"TurfHeaps", "seenFault", "(IZ)I"⟩ : MethodName) ∈ hpT := hpT_of 977 (by decide +kernel) (by decide +kernel)
theorem wd_979 : Cond.instanceMethod (⟨"TurfHeaps", "seenFault", "(IZ)I"⟩ : MethodName) ∈ hpT := hpT_of 979 (by decide +kernel) (by decide +kernel)
theorem wd_980 : Cond.code (⟨"TurfHeaps", "seenFault", "(IZ)I"⟩ : MethodName) prog_1_method_112_code 3 (some FieldType.int) ∈ hpT := hpT_of 980 (by decide +kernel) (by decide +kernel)
theorem wd_1135 : Cond.methodLink "TurfHeaps" 342 (⟨"TurfHeaps", "isChanceDay", "(I)Z"⟩ : MethodName) ∈ hpT := hpT_of 1135 (by decide +kernel) (by decide +kernel)
theorem wd_1137 : Cond.instanceMethod (⟨"TurfHeaps", "isChanceDay", "(I)Z"⟩ : MethodName) ∈ hpT := hpT_of 1137 (by decide +kernel) (by decide +kernel)
theorem wd_1138 : Cond.code (⟨"TurfHeaps", "isChanceDay", "(I)Z"⟩ : MethodName) prog_1_method_77_code 2 (some FieldType.boolean) ∈ hpT := hpT_of 1138 (by decide +kernel) (by decide +kernel)
theorem wd_1139 : Cond.constantLong "TurfHeaps" 345 (-2 : Int64) ∈ hpT := hpT_of 1139 (by decide +kernel) (by decide +kernel)
theorem wd_1190 : Cond.constant "TurfHeaps" 361 (2000000000 : Int32) ∈ hpT := hpT_of 1190 (by decide +kernel) (by decide +kernel)
theorem wd_1215 : Cond.methodLink "TurfHeaps" 375 (⟨"TurfHeaps", "slotsWithRow", "()I"⟩ : MethodName) ∈ hpT := hpT_of 1215 (by decide +kernel) (by decide +kernel)
theorem wd_1217 : Cond.instanceMethod (⟨"TurfHeaps", "slotsWithRow", "()I"⟩ : MethodName) ∈ hpT := hpT_of 1217 (by decide +kernel) (by decide +kernel)
theorem wd_1218 : Cond.code (⟨"TurfHeaps", "slotsWithRow", "()I"⟩ : MethodName) prog_1_method_109_code 3 (some FieldType.int) ∈ hpT := hpT_of 1218 (by decide +kernel) (by decide +kernel)
theorem wd_1233 : Cond.instanceMethod (⟨"TurfHeaps$Slot", "lay", "(II)V"⟩ : MethodName) ∈ hpT := hpT_of 1233 (by decide +kernel) (by decide +kernel)
theorem wd_1234 : Cond.code (⟨"TurfHeaps$Slot", "lay", "(II)V"⟩ : MethodName) prog_8_method_2_code 4 (none : Option FieldType) ∈ hpT := hpT_of 1234 (by decide +kernel) (by decide +kernel)
theorem wd_1257 : Cond.fieldLink "TurfHeapsModel" 9 "TurfHeapsModel" "world" "[I" ∈ hpT := hpT_of 1257 (by decide +kernel) (by decide +kernel)
theorem wd_1258 : Cond.fieldLink "TurfHeapsModel" 13 "TurfHeapsModel" "images" "[I" ∈ hpT := hpT_of 1258 (by decide +kernel) (by decide +kernel)
theorem wd_1259 : Cond.fieldLink "TurfHeapsModel" 16 "TurfHeapsModel" "hasImage" "[Z" ∈ hpT := hpT_of 1259 (by decide +kernel) (by decide +kernel)
theorem wd_1260 : Cond.fieldLink "TurfHeapsModel" 20 "TurfHeapsModel" "tape" "[B" ∈ hpT := hpT_of 1260 (by decide +kernel) (by decide +kernel)
theorem wd_1261 : Cond.fieldLink "TurfHeapsModel" 100 "TurfHeapsModel" "taped" "I" ∈ hpT := hpT_of 1261 (by decide +kernel) (by decide +kernel)
theorem wd_1262 : Cond.fieldLink "TurfHeapsModel" 24 "TurfHeapsModel" "five" "[I" ∈ hpT := hpT_of 1262 (by decide +kernel) (by decide +kernel)
theorem wd_1263 : Cond.fieldLink "TurfHeapsModel" 103 "TurfHeapsModel" "size" "I" ∈ hpT := hpT_of 1263 (by decide +kernel) (by decide +kernel)
theorem wd_1264 : Cond.fieldLink "TurfHeapsModel" 106 "TurfHeapsModel" "at" "I" ∈ hpT := hpT_of 1264 (by decide +kernel) (by decide +kernel)
theorem wd_1265 : Cond.fieldLink "TurfHeapsModel" 113 "TurfHeapsModel" "from" "I" ∈ hpT := hpT_of 1265 (by decide +kernel) (by decide +kernel)
theorem wd_1266 : Cond.fieldLink "TurfHeapsModel" 116 "TurfHeapsModel" "token" "I" ∈ hpT := hpT_of 1266 (by decide +kernel) (by decide +kernel)
theorem wd_1268 : Cond.fieldLink "TurfHeapsModel" 137 "TurfHeapsModel" "faultKind" "I" ∈ hpT := hpT_of 1268 (by decide +kernel) (by decide +kernel)
theorem wd_1269 : Cond.fieldLink "TurfHeapsModel" 27 "TurfHeapsModel" "faultPlace" "I" ∈ hpT := hpT_of 1269 (by decide +kernel) (by decide +kernel)
theorem wd_1270 : Cond.fieldLink "TurfHeapsModel" 31 "TurfHeapsModel" "fresh" "[I" ∈ hpT := hpT_of 1270 (by decide +kernel) (by decide +kernel)
theorem wd_1271 : Cond.fieldLink "TurfHeapsModel" 34 "TurfHeapsModel" "store" "[I" ∈ hpT := hpT_of 1271 (by decide +kernel) (by decide +kernel)
theorem wd_1272 : Cond.fieldLink "TurfHeapsModel" 213 "TurfHeapsModel" "lawNow" "I" ∈ hpT := hpT_of 1272 (by decide +kernel) (by decide +kernel)
theorem wd_1275 : Cond.fieldLink "TurfHeapsModel" 37 "TurfHeapsModel" "heapNow" "[I" ∈ hpT := hpT_of 1275 (by decide +kernel) (by decide +kernel)
theorem wd_1276 : Cond.fieldLink "TurfHeapsModel" 40 "TurfHeapsModel" "cartDay" "[I" ∈ hpT := hpT_of 1276 (by decide +kernel) (by decide +kernel)
theorem wd_1277 : Cond.fieldLink "TurfHeapsModel" 235 "TurfHeapsModel" "wetSet" "I" ∈ hpT := hpT_of 1277 (by decide +kernel) (by decide +kernel)
theorem wd_1278 : Cond.fieldLink "TurfHeapsModel" 238 "TurfHeapsModel" "comeSet" "I" ∈ hpT := hpT_of 1278 (by decide +kernel) (by decide +kernel)
theorem wd_1279 : Cond.fieldLink "TurfHeapsModel" 241 "TurfHeapsModel" "moreDay" "I" ∈ hpT := hpT_of 1279 (by decide +kernel) (by decide +kernel)
theorem wd_1298 : Cond.fieldLink "TurfHeapsModel" 67 "TurfHeapsModel" "many" "[I" ∈ hpT := hpT_of 1298 (by decide +kernel) (by decide +kernel)
theorem wd_1299 : Cond.fieldLink "TurfHeapsModel" 70 "TurfHeapsModel" "width" "[I" ∈ hpT := hpT_of 1299 (by decide +kernel) (by decide +kernel)
theorem wd_1300 : Cond.fieldLink "TurfHeapsModel" 73 "TurfHeapsModel" "numbers" "[J" ∈ hpT := hpT_of 1300 (by decide +kernel) (by decide +kernel)
theorem wd_1400 : Cond.constantLong "TurfHeapsModel" 83 (2 : Int64) ∈ hpT := hpT_of 1400 (by decide +kernel) (by decide +kernel)
theorem wd_1401 : Cond.methodLink "TurfHeapsModel" 85 (⟨"TurfHeapsModel", "in", "(JJJ)Z"⟩ : MethodName) ∈ hpT := hpT_of 1401 (by decide +kernel) (by decide +kernel)
theorem wd_1402 : Cond.static (⟨"TurfHeapsModel", "in", "(JJJ)Z"⟩ : MethodName) ∈ hpT := hpT_of 1402 (by decide +kernel) (by decide +kernel)
theorem wd_1403 : Cond.code (⟨"TurfHeapsModel", "in", "(JJJ)Z"⟩ : MethodName) prog_11_method_3_code 6 (some FieldType.boolean) ∈ hpT := hpT_of 1403 (by decide +kernel) (by decide +kernel)
theorem wd_1424 : Cond.methodLink "TurfHeapsModel" 156 (⟨"TurfHeapsModel", "advance", "()V"⟩ : MethodName) ∈ hpT := hpT_of 1424 (by decide +kernel) (by decide +kernel)
theorem wd_1426 : Cond.instanceMethod (⟨"TurfHeapsModel", "advance", "()V"⟩ : MethodName) ∈ hpT := hpT_of 1426 (by decide +kernel) (by decide +kernel)
theorem wd_1427 : Cond.code (⟨"TurfHeapsModel", "advance", "()V"⟩ : MethodName) prog_11_method_18_code 2 (none : Option FieldType) ∈ hpT := hpT_of 1427 (by decide +kernel) (by decide +kernel)
theorem wd_1428 : Cond.methodLink "TurfHeapsModel" 109 (⟨"TurfHeapsModel", "see", "(I)I"⟩ : MethodName) ∈ hpT := hpT_of 1428 (by decide +kernel) (by decide +kernel)
theorem wd_1430 : Cond.instanceMethod (⟨"TurfHeapsModel", "see", "(I)I"⟩ : MethodName) ∈ hpT := hpT_of 1430 (by decide +kernel) (by decide +kernel)
theorem wd_1431 : Cond.code (⟨"TurfHeapsModel", "see", "(I)I"⟩ : MethodName) prog_11_method_17_code 2 (some FieldType.int) ∈ hpT := hpT_of 1431 (by decide +kernel) (by decide +kernel)
theorem wd_1438 : Cond.methodLink "TurfHeapsModel" 140 (⟨"TurfHeapsModel", "good", "()Z"⟩ : MethodName) ∈ hpT := hpT_of 1438 (by decide +kernel) (by decide +kernel)
theorem wd_1440 : Cond.instanceMethod (⟨"TurfHeapsModel", "good", "()Z"⟩ : MethodName) ∈ hpT := hpT_of 1440 (by decide +kernel) (by decide +kernel)
theorem wd_1441 : Cond.code (⟨"TurfHeapsModel", "good", "()Z"⟩ : MethodName) prog_11_method_19_code 1 (some FieldType.boolean) ∈ hpT := hpT_of 1441 (by decide +kernel) (by decide +kernel)
theorem wd_1492 : Cond.methodLink "TurfHeapsModel" 200 (⟨"TurfHeapsModel", "isHeap", "(I)Z"⟩ : MethodName) ∈ hpT := hpT_of 1492 (by decide +kernel) (by decide +kernel)
theorem wd_1494 : Cond.instanceMethod (⟨"TurfHeapsModel", "isHeap", "(I)Z"⟩ : MethodName) ∈ hpT := hpT_of 1494 (by decide +kernel) (by decide +kernel)
theorem wd_1495 : Cond.code (⟨"TurfHeapsModel", "isHeap", "(I)Z"⟩ : MethodName) prog_11_method_13_code 2 (some FieldType.boolean) ∈ hpT := hpT_of 1495 (by decide +kernel) (by decide +kernel)
theorem wd_1500 : Cond.methodLink "TurfHeapsModel" 204 (⟨"TurfHeapsModel", "isCart", "(I)Z"⟩ : MethodName) ∈ hpT := hpT_of 1500 (by decide +kernel) (by decide +kernel)
theorem wd_1502 : Cond.instanceMethod (⟨"TurfHeapsModel", "isCart", "(I)Z"⟩ : MethodName) ∈ hpT := hpT_of 1502 (by decide +kernel) (by decide +kernel)
theorem wd_1503 : Cond.code (⟨"TurfHeapsModel", "isCart", "(I)Z"⟩ : MethodName) prog_11_method_14_code 2 (some FieldType.boolean) ∈ hpT := hpT_of 1503 (by decide +kernel) (by decide +kernel)
theorem wd_1504 : Cond.methodLink "TurfHeapsModel" 97 (⟨"TurfHeapsModel", "cartMany", "()I"⟩ : MethodName) ∈ hpT := hpT_of 1504 (by decide +kernel) (by decide +kernel)
theorem wd_1506 : Cond.instanceMethod (⟨"TurfHeapsModel", "cartMany", "()I"⟩ : MethodName) ∈ hpT := hpT_of 1506 (by decide +kernel) (by decide +kernel)
theorem wd_1507 : Cond.code (⟨"TurfHeapsModel", "cartMany", "()I"⟩ : MethodName) prog_11_method_10_code 1 (some FieldType.int) ∈ hpT := hpT_of 1507 (by decide +kernel) (by decide +kernel)
theorem wd_1512 : Cond.methodLink "TurfHeapsModel" 272 (⟨"TurfHeapsModel", "asksDay", "(I)Z"⟩ : MethodName) ∈ hpT := hpT_of 1512 (by decide +kernel) (by decide +kernel)
theorem wd_1514 : Cond.instanceMethod (⟨"TurfHeapsModel", "asksDay", "(I)Z"⟩ : MethodName) ∈ hpT := hpT_of 1514 (by decide +kernel) (by decide +kernel)
theorem wd_1515 : Cond.code (⟨"TurfHeapsModel", "asksDay", "(I)Z"⟩ : MethodName) prog_11_method_49_code 2 (some FieldType.boolean) ∈ hpT := hpT_of 1515 (by decide +kernel) (by decide +kernel)
theorem wd_1516 : Cond.methodLink "TurfHeapsModel" 265 (⟨"TurfHeapsModel", "asksMoor", "()Z"⟩ : MethodName) ∈ hpT := hpT_of 1516 (by decide +kernel) (by decide +kernel)
theorem wd_1518 : Cond.instanceMethod (⟨"TurfHeapsModel", "asksMoor", "()Z"⟩ : MethodName) ∈ hpT := hpT_of 1518 (by decide +kernel) (by decide +kernel)
theorem wd_1519 : Cond.code (⟨"TurfHeapsModel", "asksMoor", "()Z"⟩ : MethodName) prog_11_method_48_code 1 (some FieldType.boolean) ∈ hpT := hpT_of 1519 (by decide +kernel) (by decide +kernel)
theorem wd_1520 : Cond.methodLink "TurfHeapsModel" 259 (⟨"TurfHeapsModel", "asItIs", "()V"⟩ : MethodName) ∈ hpT := hpT_of 1520 (by decide +kernel) (by decide +kernel)
theorem wd_1522 : Cond.instanceMethod (⟨"TurfHeapsModel", "asItIs", "()V"⟩ : MethodName) ∈ hpT := hpT_of 1522 (by decide +kernel) (by decide +kernel)
theorem wd_1523 : Cond.code (⟨"TurfHeapsModel", "asItIs", "()V"⟩ : MethodName) prog_11_method_45_code 2 (none : Option FieldType) ∈ hpT := hpT_of 1523 (by decide +kernel) (by decide +kernel)
theorem wd_1524 : Cond.methodLink "TurfHeapsModel" 262 (⟨"TurfHeapsModel", "goAll", "()V"⟩ : MethodName) ∈ hpT := hpT_of 1524 (by decide +kernel) (by decide +kernel)
theorem wd_1526 : Cond.instanceMethod (⟨"TurfHeapsModel", "goAll", "()V"⟩ : MethodName) ∈ hpT := hpT_of 1526 (by decide +kernel) (by decide +kernel)
theorem wd_1527 : Cond.code (⟨"TurfHeapsModel", "goAll", "()V"⟩ : MethodName) prog_11_method_47_code 2 (none : Option FieldType) ∈ hpT := hpT_of 1527 (by decide +kernel) (by decide +kernel)
theorem wd_1528 : Cond.methodLink "TurfHeapsModel" 229 (⟨"TurfHeapsModel", "empty", "(I)V"⟩ : MethodName) ∈ hpT := hpT_of 1528 (by decide +kernel) (by decide +kernel)
theorem wd_1530 : Cond.instanceMethod (⟨"TurfHeapsModel", "empty", "(I)V"⟩ : MethodName) ∈ hpT := hpT_of 1530 (by decide +kernel) (by decide +kernel)
theorem wd_1531 : Cond.code (⟨"TurfHeapsModel", "empty", "(I)V"⟩ : MethodName) prog_11_method_35_code 2 (none : Option FieldType) ∈ hpT := hpT_of 1531 (by decide +kernel) (by decide +kernel)
theorem wd_1536 : Cond.methodLink "TurfHeapsModel" 207 (⟨"TurfHeapsModel", "manyOf", "(I)I"⟩ : MethodName) ∈ hpT := hpT_of 1536 (by decide +kernel) (by decide +kernel)
theorem wd_1538 : Cond.instanceMethod (⟨"TurfHeapsModel", "manyOf", "(I)I"⟩ : MethodName) ∈ hpT := hpT_of 1538 (by decide +kernel) (by decide +kernel)
theorem wd_1539 : Cond.code (⟨"TurfHeapsModel", "manyOf", "(I)I"⟩ : MethodName) prog_11_method_33_code 2 (some FieldType.int) ∈ hpT := hpT_of 1539 (by decide +kernel) (by decide +kernel)
theorem wd_1544 : Cond.methodLink "TurfHeapsModel" 93 (⟨"TurfHeapsModel", "days", "()I"⟩ : MethodName) ∈ hpT := hpT_of 1544 (by decide +kernel) (by decide +kernel)
theorem wd_1546 : Cond.instanceMethod (⟨"TurfHeapsModel", "days", "()I"⟩ : MethodName) ∈ hpT := hpT_of 1546 (by decide +kernel) (by decide +kernel)
theorem wd_1547 : Cond.code (⟨"TurfHeapsModel", "days", "()I"⟩ : MethodName) prog_11_method_9_code 1 (some FieldType.int) ∈ hpT := hpT_of 1547 (by decide +kernel) (by decide +kernel)
theorem wd_1548 : Cond.methodLink "TurfHeapsModel" 253 (⟨"TurfHeapsModel", "beginDay", "(I)V"⟩ : MethodName) ∈ hpT := hpT_of 1548 (by decide +kernel) (by decide +kernel)
theorem wd_1550 : Cond.instanceMethod (⟨"TurfHeapsModel", "beginDay", "(I)V"⟩ : MethodName) ∈ hpT := hpT_of 1550 (by decide +kernel) (by decide +kernel)
theorem wd_1551 : Cond.code (⟨"TurfHeapsModel", "beginDay", "(I)V"⟩ : MethodName) prog_11_method_46_code 3 (none : Option FieldType) ∈ hpT := hpT_of 1551 (by decide +kernel) (by decide +kernel)
theorem wd_1559 : Cond.methodLink "TurfHeapsModel" 225 (⟨"TurfHeapsModel", "copyRow", "(II)V"⟩ : MethodName) ∈ hpT := hpT_of 1559 (by decide +kernel) (by decide +kernel)
theorem wd_1561 : Cond.instanceMethod (⟨"TurfHeapsModel", "copyRow", "(II)V"⟩ : MethodName) ∈ hpT := hpT_of 1561 (by decide +kernel) (by decide +kernel)
theorem wd_1562 : Cond.code (⟨"TurfHeapsModel", "copyRow", "(II)V"⟩ : MethodName) prog_11_method_36_code 4 (none : Option FieldType) ∈ hpT := hpT_of 1562 (by decide +kernel) (by decide +kernel)
theorem wd_1571 : Cond.methodLink "TurfHeapsModel" 89 (⟨"TurfHeapsModel", "isMoor", "()Z"⟩ : MethodName) ∈ hpT := hpT_of 1571 (by decide +kernel) (by decide +kernel)
theorem wd_1573 : Cond.instanceMethod (⟨"TurfHeapsModel", "isMoor", "()Z"⟩ : MethodName) ∈ hpT := hpT_of 1573 (by decide +kernel) (by decide +kernel)
theorem wd_1574 : Cond.code (⟨"TurfHeapsModel", "isMoor", "()Z"⟩ : MethodName) prog_11_method_8_code 1 (some FieldType.boolean) ∈ hpT := hpT_of 1574 (by decide +kernel) (by decide +kernel)
theorem wd_1575 : Cond.methodLink "TurfHeapsModel" 268 (⟨"TurfHeapsModel", "isDay", "(J)Z"⟩ : MethodName) ∈ hpT := hpT_of 1575 (by decide +kernel) (by decide +kernel)
theorem wd_1577 : Cond.instanceMethod (⟨"TurfHeapsModel", "isDay", "(J)Z"⟩ : MethodName) ∈ hpT := hpT_of 1577 (by decide +kernel) (by decide +kernel)
theorem wd_1578 : Cond.code (⟨"TurfHeapsModel", "isDay", "(J)Z"⟩ : MethodName) prog_11_method_11_code 3 (some FieldType.boolean) ∈ hpT := hpT_of 1578 (by decide +kernel) (by decide +kernel)
theorem wd_1612 : Cond.methodLink "TurfHeapsModel" 280 (⟨"TurfHeapsModel", "isAhead", "(J)Z"⟩ : MethodName) ∈ hpT := hpT_of 1612 (by decide +kernel) (by decide +kernel)
theorem wd_1614 : Cond.instanceMethod (⟨"TurfHeapsModel", "isAhead", "(J)Z"⟩ : MethodName) ∈ hpT := hpT_of 1614 (by decide +kernel) (by decide +kernel)
theorem wd_1615 : Cond.code (⟨"TurfHeapsModel", "isAhead", "(J)Z"⟩ : MethodName) prog_11_method_12_code 3 (some FieldType.boolean) ∈ hpT := hpT_of 1615 (by decide +kernel) (by decide +kernel)
theorem wd_1718 : Cond.methodLink "TurfHeapsModel" 342 (⟨"TurfHeapsModel", "asksAll", "(I)Z"⟩ : MethodName) ∈ hpT := hpT_of 1718 (by decide +kernel) (by decide +kernel)
theorem wd_1720 : Cond.instanceMethod (⟨"TurfHeapsModel", "asksAll", "(I)Z"⟩ : MethodName) ∈ hpT := hpT_of 1720 (by decide +kernel) (by decide +kernel)
theorem wd_1721 : Cond.code (⟨"TurfHeapsModel", "asksAll", "(I)Z"⟩ : MethodName) prog_11_method_88_code 2 (some FieldType.boolean) ∈ hpT := hpT_of 1721 (by decide +kernel) (by decide +kernel)
theorem wd_1775 : Cond.methodLink "TurfHeapsModel" 358 (⟨"TurfHeapsModel", "askRow", "(I)I"⟩ : MethodName) ∈ hpT := hpT_of 1775 (by decide +kernel) (by decide +kernel)
theorem wd_1777 : Cond.instanceMethod (⟨"TurfHeapsModel", "askRow", "(I)I"⟩ : MethodName) ∈ hpT := hpT_of 1777 (by decide +kernel) (by decide +kernel)
theorem wd_1778 : Cond.code (⟨"TurfHeapsModel", "askRow", "(I)I"⟩ : MethodName) prog_11_method_95_code 6 (some FieldType.int) ∈ hpT := hpT_of 1778 (by decide +kernel) (by decide +kernel)
theorem wd_1779 : Cond.methodLink "TurfHeapsModel" 348 (⟨"TurfHeapsModel", "isSlot", "(I)Z"⟩ : MethodName) ∈ hpT := hpT_of 1779 (by decide +kernel) (by decide +kernel)
theorem wd_1780 : Cond.static (⟨"TurfHeapsModel", "isSlot", "(I)Z"⟩ : MethodName) ∈ hpT := hpT_of 1780 (by decide +kernel) (by decide +kernel)
theorem wd_1781 : Cond.code (⟨"TurfHeapsModel", "isSlot", "(I)Z"⟩ : MethodName) prog_11_method_149_code 1 (some FieldType.boolean) ∈ hpT := hpT_of 1781 (by decide +kernel) (by decide +kernel)
theorem wd_1782 : Cond.constantLong "TurfHeapsModel" 390 (3 : Int64) ∈ hpT := hpT_of 1782 (by decide +kernel) (by decide +kernel)
theorem wd_1820 : Cond.methodLink "TurfHeapsModel" 378 (⟨"TurfHeapsModel", "layFits", "(II)I"⟩ : MethodName) ∈ hpT := hpT_of 1820 (by decide +kernel) (by decide +kernel)
theorem wd_1822 : Cond.instanceMethod (⟨"TurfHeapsModel", "layFits", "(II)I"⟩ : MethodName) ∈ hpT := hpT_of 1822 (by decide +kernel) (by decide +kernel)
theorem wd_1823 : Cond.code (⟨"TurfHeapsModel", "layFits", "(II)I"⟩ : MethodName) prog_11_method_105_code 6 (some FieldType.int) ∈ hpT := hpT_of 1823 (by decide +kernel) (by decide +kernel)
theorem wd_1824 : Cond.methodLink "TurfHeapsModel" 369 (⟨"TurfHeapsModel", "askSeen", "(I)I"⟩ : MethodName) ∈ hpT := hpT_of 1824 (by decide +kernel) (by decide +kernel)
theorem wd_1826 : Cond.instanceMethod (⟨"TurfHeapsModel", "askSeen", "(I)I"⟩ : MethodName) ∈ hpT := hpT_of 1826 (by decide +kernel) (by decide +kernel)
theorem wd_1827 : Cond.code (⟨"TurfHeapsModel", "askSeen", "(I)I"⟩ : MethodName) prog_11_method_103_code 3 (some FieldType.int) ∈ hpT := hpT_of 1827 (by decide +kernel) (by decide +kernel)
theorem wd_1901 : Cond.methodLink "TurfHeapsModel" 416 (⟨"TurfHeapsModel", "asksTaking", "(II)Z"⟩ : MethodName) ∈ hpT := hpT_of 1901 (by decide +kernel) (by decide +kernel)
theorem wd_1903 : Cond.instanceMethod (⟨"TurfHeapsModel", "asksTaking", "(II)Z"⟩ : MethodName) ∈ hpT := hpT_of 1903 (by decide +kernel) (by decide +kernel)
theorem wd_1904 : Cond.code (⟨"TurfHeapsModel", "asksTaking", "(II)Z"⟩ : MethodName) prog_11_method_124_code 3 (some FieldType.boolean) ∈ hpT := hpT_of 1904 (by decide +kernel) (by decide +kernel)
theorem wd_1929 : Cond.methodLink "TurfHeapsModel" 429 (⟨"TurfHeapsModel", "areTwo", "(II)Z"⟩ : MethodName) ∈ hpT := hpT_of 1929 (by decide +kernel) (by decide +kernel)
theorem wd_1931 : Cond.instanceMethod (⟨"TurfHeapsModel", "areTwo", "(II)Z"⟩ : MethodName) ∈ hpT := hpT_of 1931 (by decide +kernel) (by decide +kernel)
theorem wd_1932 : Cond.code (⟨"TurfHeapsModel", "areTwo", "(II)Z"⟩ : MethodName) prog_11_method_131_code 3 (some FieldType.boolean) ∈ hpT := hpT_of 1932 (by decide +kernel) (by decide +kernel)
theorem wd_1945 : Cond.methodLink "TurfHeapsModel" 446 (⟨"TurfHeapsModel", "isWet", "(II)Z"⟩ : MethodName) ∈ hpT := hpT_of 1945 (by decide +kernel) (by decide +kernel)
theorem wd_1947 : Cond.instanceMethod (⟨"TurfHeapsModel", "isWet", "(II)Z"⟩ : MethodName) ∈ hpT := hpT_of 1947 (by decide +kernel) (by decide +kernel)
theorem wd_1948 : Cond.code (⟨"TurfHeapsModel", "isWet", "(II)Z"⟩ : MethodName) prog_11_method_135_code 3 (some FieldType.boolean) ∈ hpT := hpT_of 1948 (by decide +kernel) (by decide +kernel)
theorem wd_1949 : Cond.constantLong "TurfHeapsModel" 449 (-2 : Int64) ∈ hpT := hpT_of 1949 (by decide +kernel) (by decide +kernel)
theorem wd_1962 : Cond.constantLong "TurfHeapsModel" 454 (20 : Int64) ∈ hpT := hpT_of 1962 (by decide +kernel) (by decide +kernel)
theorem wd_2008 : Cond.constantLong "TurfHeapsModel" 478 (6 : Int64) ∈ hpT := hpT_of 2008 (by decide +kernel) (by decide +kernel)
theorem nw_33 {s : State} (h : hpN s) : va_Nw (Cond.fieldLinkNest "TurfHeaps" 86 "TurfHeaps$Tape" "size" "I" "TurfHeaps") s := hpN_of 33 (by decide +kernel) (by decide +kernel) h
theorem nw_36 {s : State} (h : hpN s) : va_Nw (Cond.fieldLinkNest "TurfHeaps" 107 "TurfHeaps$Tape" "fault" "I" "TurfHeaps") s := hpN_of 36 (by decide +kernel) (by decide +kernel) h
theorem nw_38 {s : State} (h : hpN s) : va_Nw (Cond.fieldLinkNest "TurfHeaps" 110 "TurfHeaps$Tape" "faultPlace" "I" "TurfHeaps") s := hpN_of 38 (by decide +kernel) (by decide +kernel) h
theorem nw_85 {s : State} (h : hpN s) : va_Nw (Cond.fieldLinkNest "TurfHeaps" 181 "TurfHeaps$Moor" "days" "I" "TurfHeaps") s := hpN_of 85 (by decide +kernel) (by decide +kernel) h
theorem nw_89 {s : State} (h : hpN s) : va_Nw (Cond.fieldLinkNest "TurfHeaps" 168 "TurfHeaps$Moor" "law" "I" "TurfHeaps") s := hpN_of 89 (by decide +kernel) (by decide +kernel) h
theorem nw_92 {s : State} (h : hpN s) : va_Nw (Cond.fieldLinkNest "TurfHeaps" 369 "TurfHeaps$Moor" "odds" "I" "TurfHeaps") s := hpN_of 92 (by decide +kernel) (by decide +kernel) h
theorem nw_95 {s : State} (h : hpN s) : va_Nw (Cond.fieldLinkNest "TurfHeaps" 104 "TurfHeaps$Moor" "lines" "I" "TurfHeaps") s := hpN_of 95 (by decide +kernel) (by decide +kernel) h
theorem nw_99 {s : State} (h : hpN s) : va_Nw (Cond.fieldLinkNest "TurfHeaps" 372 "TurfHeaps$Moor" "heapsTold" "I" "TurfHeaps") s := hpN_of 99 (by decide +kernel) (by decide +kernel) h
theorem nw_103 {s : State} (h : hpN s) : va_Nw (Cond.fieldLinkNest "TurfHeaps" 278 "TurfHeaps$Moor" "carts" "I" "TurfHeaps") s := hpN_of 103 (by decide +kernel) (by decide +kernel) h
theorem nw_106 {s : State} (h : hpN s) : va_Nw (Cond.fieldLinkNest "TurfHeaps" 358 "TurfHeaps$Moor" "acts" "I" "TurfHeaps") s := hpN_of 106 (by decide +kernel) (by decide +kernel) h
theorem nw_107 {s : State} (h : hpN s) : va_Nw (Cond.fieldLinkNest "TurfHeaps" 378 "TurfHeaps$Moor" "kept" "Z" "TurfHeaps") s := hpN_of 107 (by decide +kernel) (by decide +kernel) h
theorem nw_335 {s : State} (h : hpN s) : va_Nw (Cond.fieldLinkNest "TurfHeaps" 389 "TurfHeaps$Slot" "has" "Z" "TurfHeaps") s := hpN_of 335 (by decide +kernel) (by decide +kernel) h
theorem nw_402 {s : State} (h : hpN s) : va_Nw (Cond.methodLinkNest "TurfHeaps" 89 (⟨"TurfHeaps$Tape", "put", "(I)V"⟩ : MethodName) "TurfHeaps") s := hpN_of 402 (by decide +kernel) (by decide +kernel) h
theorem nw_414 {s : State} (h : hpN s) : va_Nw (Cond.methodLinkNest "TurfHeaps" 93 (⟨"TurfHeaps$Tape", "readInto", "(LTurfHeaps$Moor;)Z"⟩ : MethodName) "TurfHeaps") s := hpN_of 414 (by decide +kernel) (by decide +kernel) h
theorem nw_418 {s : State} (h : hpN s) : va_Nw (Cond.methodLinkNest "TurfHeaps$Tape" 22 (⟨"TurfHeaps$Moor", "clear", "()V"⟩ : MethodName) "TurfHeaps") s := hpN_of 418 (by decide +kernel) (by decide +kernel) h
theorem nw_530 {s : State} (h : hpN s) : va_Nw (Cond.methodLinkNest "TurfHeaps" 97 (⟨"TurfHeaps$Moor", "become", "(LTurfHeaps$Moor;)V"⟩ : MethodName) "TurfHeaps") s := hpN_of 530 (by decide +kernel) (by decide +kernel) h
theorem nw_1231 {s : State} (h : hpN s) : va_Nw (Cond.methodLinkNest "TurfHeaps" 385 (⟨"TurfHeaps$Slot", "lay", "(II)V"⟩ : MethodName) "TurfHeaps") s := hpN_of 1231 (by decide +kernel) (by decide +kernel) h
theorem yyX1_become : hpY yX1_become cX1_become 2 none 1 1 := ⟨⟨TX1, 13, tyX1, O1⟩, wd_532, (hpT_sel (q := (⟨"TurfHeaps$Moor", "become", "(LTurfHeaps$Moor;)V"⟩, 13)) 13 (by decide +kernel)), wd_3, wd_533, by decide +kernel, by decide +kernel, by decide +kernel⟩
theorem yyX1_clear : hpY yX1_clear cX1_clear 1 none 0 1 := ⟨⟨TX1, 13, tyX1, O1⟩, wd_420, (hpT_sel (q := (⟨"TurfHeaps$Moor", "clear", "()V"⟩, 13)) 2 (by decide +kernel)), wd_3, wd_421, by decide +kernel, by decide +kernel, by decide +kernel⟩
theorem yyX6_lay : hpY yX6_lay cX6_lay 4 none 2 6 := ⟨⟨TX6, 4, tyX6, O6⟩, wd_1233, (hpT_sel (q := (⟨"TurfHeaps$Slot", "lay", "(II)V"⟩, 4)) 98 (by decide +kernel)), wd_9, wd_1234, by decide +kernel, by decide +kernel, by decide +kernel⟩
theorem yyX7_nextToken : hpY yX7_nextToken cX7_nextToken 2 none 0 7 := ⟨⟨TX7, 7, tyX7, O7⟩, wd_424, (hpT_sel (q := (⟨"TurfHeaps$Tape", "nextToken", "()V"⟩, 7)) 3 (by decide +kernel)), wd_2, wd_425, by decide +kernel, by decide +kernel, by decide +kernel⟩
theorem yyX7_put : hpY yX7_put cX7_put 3 none 1 7 := ⟨⟨TX7, 7, tyX7, O7⟩, wd_404, (hpT_sel (q := (⟨"TurfHeaps$Tape", "put", "(I)V"⟩, 7)) 0 (by decide +kernel)), wd_2, wd_405, by decide +kernel, by decide +kernel, by decide +kernel⟩
theorem yyX7_readInto : hpY yX7_readInto cX7_readInto 3 (some .boolean) 1 7 := ⟨⟨TX7, 7, tyX7, O7⟩, wd_416, (hpT_sel (q := (⟨"TurfHeaps$Tape", "readInto", "(LTurfHeaps$Moor;)Z"⟩, 7)) 1 (by decide +kernel)), wd_2, wd_417, by decide +kernel, by decide +kernel, by decide +kernel⟩
theorem yyX8_asNumber : hpYS yX8_asNumber cX8_asNumber 1 (some .int) 1 := ⟨wd_743, wd_1, wd_744, by decide +kernel, by decide +kernel, by decide +kernel⟩
theorem yyX8_forget : hpY yX8_forget cX8_forget 1 none 0 8 := ⟨⟨TX8, 16, tyX8, O8⟩, wd_539, (hpT_sel (q := (⟨"TurfHeaps", "forget", "()V"⟩, 16)) 14 (by decide +kernel)), wd_1, wd_540, by decide +kernel, by decide +kernel, by decide +kernel⟩
theorem yyX8_isCart : hpY yX8_isCart cX8_isCart 2 (some .boolean) 1 8 := ⟨⟨TX8, 16, tyX8, O8⟩, wd_559, (hpT_sel (q := (⟨"TurfHeaps", "isCart", "(I)Z"⟩, 16)) 16 (by decide +kernel)), wd_1, wd_560, by decide +kernel, by decide +kernel, by decide +kernel⟩
theorem yyX8_isChanceDay : hpY yX8_isChanceDay cX8_isChanceDay 2 (some .boolean) 1 8 := ⟨⟨TX8, 16, tyX8, O8⟩, wd_1137, (hpT_sel (q := (⟨"TurfHeaps", "isChanceDay", "(I)Z"⟩, 16)) 90 (by decide +kernel)), wd_1, wd_1138, by decide +kernel, by decide +kernel, by decide +kernel⟩
theorem yyX8_isDay : hpY yX8_isDay cX8_isDay 2 (some .boolean) 1 8 := ⟨⟨TX8, 16, tyX8, O8⟩, wd_570, (hpT_sel (q := (⟨"TurfHeaps", "isDay", "(I)Z"⟩, 16)) 17 (by decide +kernel)), wd_1, wd_571, by decide +kernel, by decide +kernel, by decide +kernel⟩
theorem yyX8_isDayAheadOfLast : hpY yX8_isDayAheadOfLast cX8_isDayAheadOfLast 2 (some .boolean) 1 8 := ⟨⟨TX8, 16, tyX8, O8⟩, wd_685, (hpT_sel (q := (⟨"TurfHeaps", "isDayAheadOfLast", "(I)Z"⟩, 16)) 37 (by decide +kernel)), wd_1, wd_686, by decide +kernel, by decide +kernel, by decide +kernel⟩
theorem yyX8_isOfAll : hpY yX8_isOfAll cX8_isOfAll 2 (some .boolean) 1 8 := ⟨⟨TX8, 16, tyX8, O8⟩, wd_838, (hpT_sel (q := (⟨"TurfHeaps", "isOfAll", "(I)Z"⟩, 16)) 53 (by decide +kernel)), wd_1, wd_839, by decide +kernel, by decide +kernel, by decide +kernel⟩
theorem yyX8_isSlot : hpYS yX8_isSlot cX8_isSlot 1 (some .boolean) 1 := ⟨wd_921, wd_1, wd_922, by decide +kernel, by decide +kernel, by decide +kernel⟩
theorem yyX8_isTold : hpY yX8_isTold cX8_isTold 2 (some .boolean) 1 8 := ⟨⟨TX8, 16, tyX8, O8⟩, wd_551, (hpT_sel (q := (⟨"TurfHeaps", "isTold", "(I)Z"⟩, 16)) 15 (by decide +kernel)), wd_1, wd_552, by decide +kernel, by decide +kernel, by decide +kernel⟩
theorem yyX8_noMoor : hpY yX8_noMoor cX8_noMoor 1 (some .boolean) 0 8 := ⟨⟨TX8, 16, tyX8, O8⟩, wd_574, (hpT_sel (q := (⟨"TurfHeaps", "noMoor", "()Z"⟩, 16)) 18 (by decide +kernel)), wd_1, wd_575, by decide +kernel, by decide +kernel, by decide +kernel⟩
theorem yyX8_seenFault : hpY yX8_seenFault cX8_seenFault 3 (some .int) 2 8 := ⟨⟨TX8, 16, tyX8, O8⟩, wd_979, (hpT_sel (q := (⟨"TurfHeaps", "seenFault", "(IZ)I"⟩, 16)) 73 (by decide +kernel)), wd_1, wd_980, by decide +kernel, by decide +kernel, by decide +kernel⟩
theorem yyX8_slotsWithRow : hpY yX8_slotsWithRow cX8_slotsWithRow 3 (some .int) 0 8 := ⟨⟨TX8, 16, tyX8, O8⟩, wd_1217, (hpT_sel (q := (⟨"TurfHeaps", "slotsWithRow", "()I"⟩, 16)) 97 (by decide +kernel)), wd_1, wd_1218, by decide +kernel, by decide +kernel, by decide +kernel⟩
theorem yyX8_smallRowFault : hpY yX8_smallRowFault cX8_smallRowFault 2 (some .int) 1 8 := ⟨⟨TX8, 16, tyX8, O8⟩, wd_918, (hpT_sel (q := (⟨"TurfHeaps", "smallRowFault", "(I)I"⟩, 16)) 65 (by decide +kernel)), wd_1, wd_919, by decide +kernel, by decide +kernel, by decide +kernel⟩
theorem yyX9_advance : hpY yX9_advance cX9_advance 2 none 0 9 := ⟨⟨TX9, 46, tyX9, O9⟩, wd_1426, (hpT_sel (q := (⟨"TurfHeapsModel", "advance", "()V"⟩, 46)) 100 (by decide +kernel)), wd_10, wd_1427, by decide +kernel, by decide +kernel, by decide +kernel⟩
theorem yyX9_areTwo : hpY yX9_areTwo cX9_areTwo 3 (some .boolean) 2 9 := ⟨⟨TX9, 46, tyX9, O9⟩, wd_1931, (hpT_sel (q := (⟨"TurfHeapsModel", "areTwo", "(II)Z"⟩, 46)) 164 (by decide +kernel)), wd_10, wd_1932, by decide +kernel, by decide +kernel, by decide +kernel⟩
theorem yyX9_asItIs : hpY yX9_asItIs cX9_asItIs 2 none 0 9 := ⟨⟨TX9, 46, tyX9, O9⟩, wd_1522, (hpT_sel (q := (⟨"TurfHeapsModel", "asItIs", "()V"⟩, 46)) 117 (by decide +kernel)), wd_10, wd_1523, by decide +kernel, by decide +kernel, by decide +kernel⟩
theorem yyX9_askRow : hpY yX9_askRow cX9_askRow 6 (some .int) 1 9 := ⟨⟨TX9, 46, tyX9, O9⟩, wd_1777, (hpT_sel (q := (⟨"TurfHeapsModel", "askRow", "(I)I"⟩, 46)) 149 (by decide +kernel)), wd_10, wd_1778, by decide +kernel, by decide +kernel, by decide +kernel⟩
theorem yyX9_askSeen : hpY yX9_askSeen cX9_askSeen 3 (some .int) 1 9 := ⟨⟨TX9, 46, tyX9, O9⟩, wd_1826, (hpT_sel (q := (⟨"TurfHeapsModel", "askSeen", "(I)I"⟩, 46)) 154 (by decide +kernel)), wd_10, wd_1827, by decide +kernel, by decide +kernel, by decide +kernel⟩
theorem yyX9_asksAll : hpY yX9_asksAll cX9_asksAll 2 (some .boolean) 1 9 := ⟨⟨TX9, 46, tyX9, O9⟩, wd_1720, (hpT_sel (q := (⟨"TurfHeapsModel", "asksAll", "(I)Z"⟩, 46)) 140 (by decide +kernel)), wd_10, wd_1721, by decide +kernel, by decide +kernel, by decide +kernel⟩
theorem yyX9_asksDay : hpY yX9_asksDay cX9_asksDay 2 (some .boolean) 1 9 := ⟨⟨TX9, 46, tyX9, O9⟩, wd_1514, (hpT_sel (q := (⟨"TurfHeapsModel", "asksDay", "(I)Z"⟩, 46)) 115 (by decide +kernel)), wd_10, wd_1515, by decide +kernel, by decide +kernel, by decide +kernel⟩
theorem yyX9_asksMoor : hpY yX9_asksMoor cX9_asksMoor 1 (some .boolean) 0 9 := ⟨⟨TX9, 46, tyX9, O9⟩, wd_1518, (hpT_sel (q := (⟨"TurfHeapsModel", "asksMoor", "()Z"⟩, 46)) 116 (by decide +kernel)), wd_10, wd_1519, by decide +kernel, by decide +kernel, by decide +kernel⟩
theorem yyX9_asksTaking : hpY yX9_asksTaking cX9_asksTaking 3 (some .boolean) 2 9 := ⟨⟨TX9, 46, tyX9, O9⟩, wd_1903, (hpT_sel (q := (⟨"TurfHeapsModel", "asksTaking", "(II)Z"⟩, 46)) 160 (by decide +kernel)), wd_10, wd_1904, by decide +kernel, by decide +kernel, by decide +kernel⟩
theorem yyX9_beginDay : hpY yX9_beginDay cX9_beginDay 3 none 1 9 := ⟨⟨TX9, 46, tyX9, O9⟩, wd_1550, (hpT_sel (q := (⟨"TurfHeapsModel", "beginDay", "(I)V"⟩, 46)) 124 (by decide +kernel)), wd_10, wd_1551, by decide +kernel, by decide +kernel, by decide +kernel⟩
theorem yyX9_cartMany : hpY yX9_cartMany cX9_cartMany 1 (some .int) 0 9 := ⟨⟨TX9, 46, tyX9, O9⟩, wd_1506, (hpT_sel (q := (⟨"TurfHeapsModel", "cartMany", "()I"⟩, 46)) 114 (by decide +kernel)), wd_10, wd_1507, by decide +kernel, by decide +kernel, by decide +kernel⟩
theorem yyX9_copyRow : hpY yX9_copyRow cX9_copyRow 4 none 2 9 := ⟨⟨TX9, 46, tyX9, O9⟩, wd_1561, (hpT_sel (q := (⟨"TurfHeapsModel", "copyRow", "(II)V"⟩, 46)) 126 (by decide +kernel)), wd_10, wd_1562, by decide +kernel, by decide +kernel, by decide +kernel⟩
theorem yyX9_days : hpY yX9_days cX9_days 1 (some .int) 0 9 := ⟨⟨TX9, 46, tyX9, O9⟩, wd_1546, (hpT_sel (q := (⟨"TurfHeapsModel", "days", "()I"⟩, 46)) 123 (by decide +kernel)), wd_10, wd_1547, by decide +kernel, by decide +kernel, by decide +kernel⟩
theorem yyX9_empty : hpY yX9_empty cX9_empty 2 none 1 9 := ⟨⟨TX9, 46, tyX9, O9⟩, wd_1530, (hpT_sel (q := (⟨"TurfHeapsModel", "empty", "(I)V"⟩, 46)) 119 (by decide +kernel)), wd_10, wd_1531, by decide +kernel, by decide +kernel, by decide +kernel⟩
theorem yyX9_goAll : hpY yX9_goAll cX9_goAll 2 none 0 9 := ⟨⟨TX9, 46, tyX9, O9⟩, wd_1526, (hpT_sel (q := (⟨"TurfHeapsModel", "goAll", "()V"⟩, 46)) 118 (by decide +kernel)), wd_10, wd_1527, by decide +kernel, by decide +kernel, by decide +kernel⟩
theorem yyX9_good : hpY yX9_good cX9_good 1 (some .boolean) 0 9 := ⟨⟨TX9, 46, tyX9, O9⟩, wd_1440, (hpT_sel (q := (⟨"TurfHeapsModel", "good", "()Z"⟩, 46)) 102 (by decide +kernel)), wd_10, wd_1441, by decide +kernel, by decide +kernel, by decide +kernel⟩
theorem yyX9_in : hpYS yX9_in cX9_in 6 (some .boolean) 3 := ⟨wd_1402, wd_10, wd_1403, by decide +kernel, by decide +kernel, by decide +kernel⟩
theorem yyX9_isAhead : hpY yX9_isAhead cX9_isAhead 3 (some .boolean) 1 9 := ⟨⟨TX9, 46, tyX9, O9⟩, wd_1614, (hpT_sel (q := (⟨"TurfHeapsModel", "isAhead", "(J)Z"⟩, 46)) 132 (by decide +kernel)), wd_10, wd_1615, by decide +kernel, by decide +kernel, by decide +kernel⟩
theorem yyX9_isCart : hpY yX9_isCart cX9_isCart 2 (some .boolean) 1 9 := ⟨⟨TX9, 46, tyX9, O9⟩, wd_1502, (hpT_sel (q := (⟨"TurfHeapsModel", "isCart", "(I)Z"⟩, 46)) 113 (by decide +kernel)), wd_10, wd_1503, by decide +kernel, by decide +kernel, by decide +kernel⟩
theorem yyX9_isDay : hpY yX9_isDay cX9_isDay 3 (some .boolean) 1 9 := ⟨⟨TX9, 46, tyX9, O9⟩, wd_1577, (hpT_sel (q := (⟨"TurfHeapsModel", "isDay", "(J)Z"⟩, 46)) 130 (by decide +kernel)), wd_10, wd_1578, by decide +kernel, by decide +kernel, by decide +kernel⟩
theorem yyX9_isHeap : hpY yX9_isHeap cX9_isHeap 2 (some .boolean) 1 9 := ⟨⟨TX9, 46, tyX9, O9⟩, wd_1494, (hpT_sel (q := (⟨"TurfHeapsModel", "isHeap", "(I)Z"⟩, 46)) 112 (by decide +kernel)), wd_10, wd_1495, by decide +kernel, by decide +kernel, by decide +kernel⟩
theorem yyX9_isMoor : hpY yX9_isMoor cX9_isMoor 1 (some .boolean) 0 9 := ⟨⟨TX9, 46, tyX9, O9⟩, wd_1573, (hpT_sel (q := (⟨"TurfHeapsModel", "isMoor", "()Z"⟩, 46)) 129 (by decide +kernel)), wd_10, wd_1574, by decide +kernel, by decide +kernel, by decide +kernel⟩
theorem yyX9_isSlot : hpYS yX9_isSlot cX9_isSlot 1 (some .boolean) 1 := ⟨wd_1780, wd_10, wd_1781, by decide +kernel, by decide +kernel, by decide +kernel⟩
theorem yyX9_isWet : hpY yX9_isWet cX9_isWet 3 (some .boolean) 2 9 := ⟨⟨TX9, 46, tyX9, O9⟩, wd_1947, (hpT_sel (q := (⟨"TurfHeapsModel", "isWet", "(II)Z"⟩, 46)) 166 (by decide +kernel)), wd_10, wd_1948, by decide +kernel, by decide +kernel, by decide +kernel⟩
theorem yyX9_layFits : hpY yX9_layFits cX9_layFits 6 (some .int) 2 9 := ⟨⟨TX9, 46, tyX9, O9⟩, wd_1822, (hpT_sel (q := (⟨"TurfHeapsModel", "layFits", "(II)I"⟩, 46)) 153 (by decide +kernel)), wd_10, wd_1823, by decide +kernel, by decide +kernel, by decide +kernel⟩
theorem yyX9_manyOf : hpY yX9_manyOf cX9_manyOf 2 (some .int) 1 9 := ⟨⟨TX9, 46, tyX9, O9⟩, wd_1538, (hpT_sel (q := (⟨"TurfHeapsModel", "manyOf", "(I)I"⟩, 46)) 121 (by decide +kernel)), wd_10, wd_1539, by decide +kernel, by decide +kernel, by decide +kernel⟩
theorem yyX9_see : hpY yX9_see cX9_see 2 (some .int) 1 9 := ⟨⟨TX9, 46, tyX9, O9⟩, wd_1430, (hpT_sel (q := (⟨"TurfHeapsModel", "see", "(I)I"⟩, 46)) 101 (by decide +kernel)), wd_10, wd_1431, by decide +kernel, by decide +kernel, by decide +kernel⟩

theorem fr_9_3 {z : Nat} {r : Nat → Int} : hpfv z 9 r 3 = .ref (z + 13) := hp_fvR (by decide +kernel) (by decide +kernel)
theorem fr_9_4 {z : Nat} {r : Nat → Int} : hpfv z 9 r 4 = .ref (z + 14) := hp_fvR (by decide +kernel) (by decide +kernel)
theorem fr_17_0 {z : Nat} {r : Nat → Int} : hpfv z 17 r 0 = .ref (z + 18) := hp_fvR (by decide +kernel) (by decide +kernel)
theorem fr_19_0 {z : Nat} {r : Nat → Int} : hpfv z 19 r 0 = .ref (z + 20) := hp_fvR (by decide +kernel) (by decide +kernel)
theorem fr_19_1 {z : Nat} {r : Nat → Int} : hpfv z 19 r 1 = .ref (z + 21) := hp_fvR (by decide +kernel) (by decide +kernel)
theorem fr_22_0 {z : Nat} {r : Nat → Int} : hpfv z 22 r 0 = .ref (z + 23) := hp_fvR (by decide +kernel) (by decide +kernel)
theorem fr_22_1 {z : Nat} {r : Nat → Int} : hpfv z 22 r 1 = .ref (z + 24) := hp_fvR (by decide +kernel) (by decide +kernel)
theorem fr_25_0 {z : Nat} {r : Nat → Int} : hpfv z 25 r 0 = .ref (z + 26) := hp_fvR (by decide +kernel) (by decide +kernel)
theorem fr_25_1 {z : Nat} {r : Nat → Int} : hpfv z 25 r 1 = .ref (z + 27) := hp_fvR (by decide +kernel) (by decide +kernel)
theorem fr_28_0 {z : Nat} {r : Nat → Int} : hpfv z 28 r 0 = .ref (z + 29) := hp_fvR (by decide +kernel) (by decide +kernel)
theorem fr_28_1 {z : Nat} {r : Nat → Int} : hpfv z 28 r 1 = .ref (z + 30) := hp_fvR (by decide +kernel) (by decide +kernel)
theorem fr_31_0 {z : Nat} {r : Nat → Int} : hpfv z 31 r 0 = .ref (z + 32) := hp_fvR (by decide +kernel) (by decide +kernel)
theorem fr_31_1 {z : Nat} {r : Nat → Int} : hpfv z 31 r 1 = .ref (z + 33) := hp_fvR (by decide +kernel) (by decide +kernel)
theorem fr_34_0 {z : Nat} {r : Nat → Int} : hpfv z 34 r 0 = .ref (z + 35) := hp_fvR (by decide +kernel) (by decide +kernel)
theorem fr_34_1 {z : Nat} {r : Nat → Int} : hpfv z 34 r 1 = .ref (z + 36) := hp_fvR (by decide +kernel) (by decide +kernel)
theorem fr_37_0 {z : Nat} {r : Nat → Int} : hpfv z 37 r 0 = .ref (z + 38) := hp_fvR (by decide +kernel) (by decide +kernel)
theorem fr_37_1 {z : Nat} {r : Nat → Int} : hpfv z 37 r 1 = .ref (z + 39) := hp_fvR (by decide +kernel) (by decide +kernel)
theorem fr_40_0 {z : Nat} {r : Nat → Int} : hpfv z 40 r 0 = .ref (z + 41) := hp_fvR (by decide +kernel) (by decide +kernel)
theorem fr_40_1 {z : Nat} {r : Nat → Int} : hpfv z 40 r 1 = .ref (z + 42) := hp_fvR (by decide +kernel) (by decide +kernel)
theorem fr_43_0 {z : Nat} {r : Nat → Int} : hpfv z 43 r 0 = .ref (z + 44) := hp_fvR (by decide +kernel) (by decide +kernel)
theorem fr_43_1 {z : Nat} {r : Nat → Int} : hpfv z 43 r 1 = .ref (z + 45) := hp_fvR (by decide +kernel) (by decide +kernel)
theorem fr_46_0 {z : Nat} {r : Nat → Int} : hpfv z 46 r 0 = .ref (z + 47) := hp_fvR (by decide +kernel) (by decide +kernel)
theorem fr_46_1 {z : Nat} {r : Nat → Int} : hpfv z 46 r 1 = .ref (z + 48) := hp_fvR (by decide +kernel) (by decide +kernel)
theorem fr_49_0 {z : Nat} {r : Nat → Int} : hpfv z 49 r 0 = .ref (z + 50) := hp_fvR (by decide +kernel) (by decide +kernel)
theorem fr_49_1 {z : Nat} {r : Nat → Int} : hpfv z 49 r 1 = .ref (z + 51) := hp_fvR (by decide +kernel) (by decide +kernel)
theorem fr_52_0 {z : Nat} {r : Nat → Int} : hpfv z 52 r 0 = .ref (z + 53) := hp_fvR (by decide +kernel) (by decide +kernel)
theorem fr_52_1 {z : Nat} {r : Nat → Int} : hpfv z 52 r 1 = .ref (z + 54) := hp_fvR (by decide +kernel) (by decide +kernel)
theorem fr_55_0 {z : Nat} {r : Nat → Int} : hpfv z 55 r 0 = .ref (z + 56) := hp_fvR (by decide +kernel) (by decide +kernel)
theorem fr_55_1 {z : Nat} {r : Nat → Int} : hpfv z 55 r 1 = .ref (z + 57) := hp_fvR (by decide +kernel) (by decide +kernel)
theorem fr_58_0 {z : Nat} {r : Nat → Int} : hpfv z 58 r 0 = .ref (z + 59) := hp_fvR (by decide +kernel) (by decide +kernel)
theorem fr_58_1 {z : Nat} {r : Nat → Int} : hpfv z 58 r 1 = .ref (z + 60) := hp_fvR (by decide +kernel) (by decide +kernel)
theorem fr_61_0 {z : Nat} {r : Nat → Int} : hpfv z 61 r 0 = .ref (z + 62) := hp_fvR (by decide +kernel) (by decide +kernel)
theorem fr_61_1 {z : Nat} {r : Nat → Int} : hpfv z 61 r 1 = .ref (z + 63) := hp_fvR (by decide +kernel) (by decide +kernel)
theorem fr_64_0 {z : Nat} {r : Nat → Int} : hpfv z 64 r 0 = .ref (z + 65) := hp_fvR (by decide +kernel) (by decide +kernel)
theorem fr_64_1 {z : Nat} {r : Nat → Int} : hpfv z 64 r 1 = .ref (z + 66) := hp_fvR (by decide +kernel) (by decide +kernel)
theorem fr_67_0 {z : Nat} {r : Nat → Int} : hpfv z 67 r 0 = .ref (z + 68) := hp_fvR (by decide +kernel) (by decide +kernel)
theorem fr_67_1 {z : Nat} {r : Nat → Int} : hpfv z 67 r 1 = .ref (z + 69) := hp_fvR (by decide +kernel) (by decide +kernel)
theorem fr_70_0 {z : Nat} {r : Nat → Int} : hpfv z 70 r 0 = .ref (z + 71) := hp_fvR (by decide +kernel) (by decide +kernel)
theorem fr_72_0 {z : Nat} {r : Nat → Int} : hpfv z 72 r 0 = .ref (z + 73) := hp_fvR (by decide +kernel) (by decide +kernel)
theorem fr_72_1 {z : Nat} {r : Nat → Int} : hpfv z 72 r 1 = .ref (z + 74) := hp_fvR (by decide +kernel) (by decide +kernel)
theorem fr_75_0 {z : Nat} {r : Nat → Int} : hpfv z 75 r 0 = .ref (z + 76) := hp_fvR (by decide +kernel) (by decide +kernel)
theorem fr_75_1 {z : Nat} {r : Nat → Int} : hpfv z 75 r 1 = .ref (z + 77) := hp_fvR (by decide +kernel) (by decide +kernel)
theorem fr_78_0 {z : Nat} {r : Nat → Int} : hpfv z 78 r 0 = .ref (z + 79) := hp_fvR (by decide +kernel) (by decide +kernel)
theorem fr_78_1 {z : Nat} {r : Nat → Int} : hpfv z 78 r 1 = .ref (z + 80) := hp_fvR (by decide +kernel) (by decide +kernel)
theorem fr_81_0 {z : Nat} {r : Nat → Int} : hpfv z 81 r 0 = .ref (z + 82) := hp_fvR (by decide +kernel) (by decide +kernel)
theorem fr_81_1 {z : Nat} {r : Nat → Int} : hpfv z 81 r 1 = .ref (z + 83) := hp_fvR (by decide +kernel) (by decide +kernel)
theorem fr_84_0 {z : Nat} {r : Nat → Int} : hpfv z 84 r 0 = .ref (z + 85) := hp_fvR (by decide +kernel) (by decide +kernel)
theorem fr_84_1 {z : Nat} {r : Nat → Int} : hpfv z 84 r 1 = .ref (z + 86) := hp_fvR (by decide +kernel) (by decide +kernel)
theorem fr_87_0 {z : Nat} {r : Nat → Int} : hpfv z 87 r 0 = .ref (z + 88) := hp_fvR (by decide +kernel) (by decide +kernel)
theorem fr_87_1 {z : Nat} {r : Nat → Int} : hpfv z 87 r 1 = .ref (z + 89) := hp_fvR (by decide +kernel) (by decide +kernel)
theorem fr_90_0 {z : Nat} {r : Nat → Int} : hpfv z 90 r 0 = .ref (z + 91) := hp_fvR (by decide +kernel) (by decide +kernel)
theorem fr_90_1 {z : Nat} {r : Nat → Int} : hpfv z 90 r 1 = .ref (z + 92) := hp_fvR (by decide +kernel) (by decide +kernel)
theorem fr_93_0 {z : Nat} {r : Nat → Int} : hpfv z 93 r 0 = .ref (z + 94) := hp_fvR (by decide +kernel) (by decide +kernel)
theorem fr_93_1 {z : Nat} {r : Nat → Int} : hpfv z 93 r 1 = .ref (z + 95) := hp_fvR (by decide +kernel) (by decide +kernel)
theorem fr_96_0 {z : Nat} {r : Nat → Int} : hpfv z 96 r 0 = .ref (z + 97) := hp_fvR (by decide +kernel) (by decide +kernel)
theorem fr_96_1 {z : Nat} {r : Nat → Int} : hpfv z 96 r 1 = .ref (z + 98) := hp_fvR (by decide +kernel) (by decide +kernel)
theorem fr_99_0 {z : Nat} {r : Nat → Int} : hpfv z 99 r 0 = .ref (z + 100) := hp_fvR (by decide +kernel) (by decide +kernel)
theorem fr_99_1 {z : Nat} {r : Nat → Int} : hpfv z 99 r 1 = .ref (z + 101) := hp_fvR (by decide +kernel) (by decide +kernel)
theorem fr_102_0 {z : Nat} {r : Nat → Int} : hpfv z 102 r 0 = .ref (z + 103) := hp_fvR (by decide +kernel) (by decide +kernel)
theorem fr_102_1 {z : Nat} {r : Nat → Int} : hpfv z 102 r 1 = .ref (z + 104) := hp_fvR (by decide +kernel) (by decide +kernel)
theorem fr_105_0 {z : Nat} {r : Nat → Int} : hpfv z 105 r 0 = .ref (z + 106) := hp_fvR (by decide +kernel) (by decide +kernel)
theorem fr_105_1 {z : Nat} {r : Nat → Int} : hpfv z 105 r 1 = .ref (z + 107) := hp_fvR (by decide +kernel) (by decide +kernel)
theorem fr_108_0 {z : Nat} {r : Nat → Int} : hpfv z 108 r 0 = .ref (z + 109) := hp_fvR (by decide +kernel) (by decide +kernel)
theorem fr_108_1 {z : Nat} {r : Nat → Int} : hpfv z 108 r 1 = .ref (z + 110) := hp_fvR (by decide +kernel) (by decide +kernel)
theorem fr_111_0 {z : Nat} {r : Nat → Int} : hpfv z 111 r 0 = .ref (z + 112) := hp_fvR (by decide +kernel) (by decide +kernel)
theorem fr_111_1 {z : Nat} {r : Nat → Int} : hpfv z 111 r 1 = .ref (z + 113) := hp_fvR (by decide +kernel) (by decide +kernel)
theorem fr_114_0 {z : Nat} {r : Nat → Int} : hpfv z 114 r 0 = .ref (z + 115) := hp_fvR (by decide +kernel) (by decide +kernel)
theorem fr_114_1 {z : Nat} {r : Nat → Int} : hpfv z 114 r 1 = .ref (z + 116) := hp_fvR (by decide +kernel) (by decide +kernel)
theorem fr_117_0 {z : Nat} {r : Nat → Int} : hpfv z 117 r 0 = .ref (z + 118) := hp_fvR (by decide +kernel) (by decide +kernel)
theorem fr_117_1 {z : Nat} {r : Nat → Int} : hpfv z 117 r 1 = .ref (z + 119) := hp_fvR (by decide +kernel) (by decide +kernel)
theorem fr_120_0 {z : Nat} {r : Nat → Int} : hpfv z 120 r 0 = .ref (z + 121) := hp_fvR (by decide +kernel) (by decide +kernel)
theorem fr_120_1 {z : Nat} {r : Nat → Int} : hpfv z 120 r 1 = .ref (z + 122) := hp_fvR (by decide +kernel) (by decide +kernel)
theorem fr_124_0 {z : Nat} {r : Nat → Int} : hpfv z 124 r 0 = .ref (z + 125) := hp_fvR (by decide +kernel) (by decide +kernel)
theorem fr_124_1 {z : Nat} {r : Nat → Int} : hpfv z 124 r 1 = .ref (z + 126) := hp_fvR (by decide +kernel) (by decide +kernel)
theorem fr_127_0 {z : Nat} {r : Nat → Int} : hpfv z 127 r 0 = .ref (z + 128) := hp_fvR (by decide +kernel) (by decide +kernel)
theorem fr_127_1 {z : Nat} {r : Nat → Int} : hpfv z 127 r 1 = .ref (z + 129) := hp_fvR (by decide +kernel) (by decide +kernel)
theorem fr_138_0 {z : Nat} {r : Nat → Int} : hpfv z 138 r 0 = .ref (z + 139) := hp_fvR (by decide +kernel) (by decide +kernel)
theorem fr_138_1 {z : Nat} {r : Nat → Int} : hpfv z 138 r 1 = .ref (z + 140) := hp_fvR (by decide +kernel) (by decide +kernel)
theorem fr_164_0 {z : Nat} {r : Nat → Int} : hpfv z 164 r 0 = .ref (z + 165) := hp_fvR (by decide +kernel) (by decide +kernel)
theorem fr_164_1 {z : Nat} {r : Nat → Int} : hpfv z 164 r 1 = .ref (z + 166) := hp_fvR (by decide +kernel) (by decide +kernel)
theorem fr_169_0 {z : Nat} {r : Nat → Int} : hpfv z 169 r 0 = .ref (z + 170) := hp_fvR (by decide +kernel) (by decide +kernel)
theorem fr_169_1 {z : Nat} {r : Nat → Int} : hpfv z 169 r 1 = .ref (z + 171) := hp_fvR (by decide +kernel) (by decide +kernel)
theorem fr_169_2 {z : Nat} {r : Nat → Int} : hpfv z 169 r 2 = .ref (z + 172) := hp_fvR (by decide +kernel) (by decide +kernel)
theorem fr_169_3 {z : Nat} {r : Nat → Int} : hpfv z 169 r 3 = .ref (z + 173) := hp_fvR (by decide +kernel) (by decide +kernel)
theorem fr_169_4 {z : Nat} {r : Nat → Int} : hpfv z 169 r 4 = .ref (z + 174) := hp_fvR (by decide +kernel) (by decide +kernel)
theorem fr_175_0 {z : Nat} {r : Nat → Int} : hpfv z 175 r 0 = .ref (z + 176) := hp_fvR (by decide +kernel) (by decide +kernel)
theorem fr_175_1 {z : Nat} {r : Nat → Int} : hpfv z 175 r 1 = .ref (z + 177) := hp_fvR (by decide +kernel) (by decide +kernel)
theorem fr_175_2 {z : Nat} {r : Nat → Int} : hpfv z 175 r 2 = .ref (z + 178) := hp_fvR (by decide +kernel) (by decide +kernel)
theorem fr_175_3 {z : Nat} {r : Nat → Int} : hpfv z 175 r 3 = .ref (z + 179) := hp_fvR (by decide +kernel) (by decide +kernel)
theorem fr_175_4 {z : Nat} {r : Nat → Int} : hpfv z 175 r 4 = .ref (z + 180) := hp_fvR (by decide +kernel) (by decide +kernel)
theorem fr_181_0 {z : Nat} {r : Nat → Int} : hpfv z 181 r 0 = .ref (z + 182) := hp_fvR (by decide +kernel) (by decide +kernel)
theorem fr_181_1 {z : Nat} {r : Nat → Int} : hpfv z 181 r 1 = .ref (z + 183) := hp_fvR (by decide +kernel) (by decide +kernel)
theorem fr_181_2 {z : Nat} {r : Nat → Int} : hpfv z 181 r 2 = .ref (z + 184) := hp_fvR (by decide +kernel) (by decide +kernel)
theorem fr_181_3 {z : Nat} {r : Nat → Int} : hpfv z 181 r 3 = .ref (z + 185) := hp_fvR (by decide +kernel) (by decide +kernel)
theorem fr_181_4 {z : Nat} {r : Nat → Int} : hpfv z 181 r 4 = .ref (z + 186) := hp_fvR (by decide +kernel) (by decide +kernel)
theorem fr_187_0 {z : Nat} {r : Nat → Int} : hpfv z 187 r 0 = .ref (z + 188) := hp_fvR (by decide +kernel) (by decide +kernel)
theorem fr_189_0 {z : Nat} {r : Nat → Int} : hpfv z 189 r 0 = .ref (z + 190) := hp_fvR (by decide +kernel) (by decide +kernel)
theorem fr_191_0 {z : Nat} {r : Nat → Int} : hpfv z 191 r 0 = .ref (z + 192) := hp_fvR (by decide +kernel) (by decide +kernel)
theorem fr_193_0 {z : Nat} {r : Nat → Int} : hpfv z 193 r 0 = .ref (z + 194) := hp_fvR (by decide +kernel) (by decide +kernel)
theorem fi_0_13 {z : Nat} {r : Nat → Int} {a : Int} (h : r 13 = a) : hpfv z 0 r 13 = .int (hpI a) := hp_fvI (by decide +kernel) h
theorem fi_0_14 {z : Nat} {r : Nat → Int} {a : Int} (h : r 14 = a) : hpfv z 0 r 14 = .int (hpI a) := hp_fvI (by decide +kernel) h
theorem fi_0_15 {z : Nat} {r : Nat → Int} {a : Int} (h : r 15 = a) : hpfv z 0 r 15 = .int (hpI a) := hp_fvI (by decide +kernel) h
theorem fi_1_1 {z : Nat} {r : Nat → Int} {a : Int} (h : r 1 = a) : hpfv z 1 r 1 = .int (hpI a) := hp_fvI (by decide +kernel) h
theorem fi_1_2 {z : Nat} {r : Nat → Int} {a : Int} (h : r 2 = a) : hpfv z 1 r 2 = .int (hpI a) := hp_fvI (by decide +kernel) h
theorem fi_1_3 {z : Nat} {r : Nat → Int} {a : Int} (h : r 3 = a) : hpfv z 1 r 3 = .int (hpI a) := hp_fvI (by decide +kernel) h
theorem fi_1_4 {z : Nat} {r : Nat → Int} {a : Int} (h : r 4 = a) : hpfv z 1 r 4 = .int (hpI a) := hp_fvI (by decide +kernel) h
theorem fi_1_5 {z : Nat} {r : Nat → Int} {a : Int} (h : r 5 = a) : hpfv z 1 r 5 = .int (hpI a) := hp_fvI (by decide +kernel) h
theorem fi_1_6 {z : Nat} {r : Nat → Int} {a : Int} (h : r 6 = a) : hpfv z 1 r 6 = .int (hpI a) := hp_fvI (by decide +kernel) h
theorem fi_3_5 {z : Nat} {r : Nat → Int} {a : Int} (h : r 5 = a) : hpfv z 3 r 5 = .int (hpI a) := hp_fvI (by decide +kernel) h
theorem fi_3_6 {z : Nat} {r : Nat → Int} {a : Int} (h : r 6 = a) : hpfv z 3 r 6 = .int (hpI a) := hp_fvI (by decide +kernel) h
theorem fi_3_7 {z : Nat} {r : Nat → Int} {a : Int} (h : r 7 = a) : hpfv z 3 r 7 = .int (hpI a) := hp_fvI (by decide +kernel) h
theorem fi_3_8 {z : Nat} {r : Nat → Int} {a : Int} (h : r 8 = a) : hpfv z 3 r 8 = .int (hpI a) := hp_fvI (by decide +kernel) h
theorem fi_3_9 {z : Nat} {r : Nat → Int} {a : Int} (h : r 9 = a) : hpfv z 3 r 9 = .int (hpI a) := hp_fvI (by decide +kernel) h
theorem fi_3_10 {z : Nat} {r : Nat → Int} {a : Int} (h : r 10 = a) : hpfv z 3 r 10 = .int (hpI a) := hp_fvI (by decide +kernel) h
theorem fi_3_11 {z : Nat} {r : Nat → Int} {a : Int} (h : r 11 = a) : hpfv z 3 r 11 = .int (hpI a) := hp_fvI (by decide +kernel) h
theorem fi_3_12 {z : Nat} {r : Nat → Int} {a : Int} (h : r 12 = a) : hpfv z 3 r 12 = .int (hpI a) := hp_fvI (by decide +kernel) h
theorem fi_9_5 {z : Nat} {r : Nat → Int} {a : Int} (h : r 5 = a) : hpfv z 9 r 5 = .int (hpI a) := hp_fvI (by decide +kernel) h
theorem fi_9_6 {z : Nat} {r : Nat → Int} {a : Int} (h : r 6 = a) : hpfv z 9 r 6 = .int (hpI a) := hp_fvI (by decide +kernel) h
theorem fi_9_7 {z : Nat} {r : Nat → Int} {a : Int} (h : r 7 = a) : hpfv z 9 r 7 = .int (hpI a) := hp_fvI (by decide +kernel) h
theorem fi_9_8 {z : Nat} {r : Nat → Int} {a : Int} (h : r 8 = a) : hpfv z 9 r 8 = .int (hpI a) := hp_fvI (by decide +kernel) h
theorem fi_9_9 {z : Nat} {r : Nat → Int} {a : Int} (h : r 9 = a) : hpfv z 9 r 9 = .int (hpI a) := hp_fvI (by decide +kernel) h
theorem fi_9_10 {z : Nat} {r : Nat → Int} {a : Int} (h : r 10 = a) : hpfv z 9 r 10 = .int (hpI a) := hp_fvI (by decide +kernel) h
theorem fi_9_11 {z : Nat} {r : Nat → Int} {a : Int} (h : r 11 = a) : hpfv z 9 r 11 = .int (hpI a) := hp_fvI (by decide +kernel) h
theorem fi_9_12 {z : Nat} {r : Nat → Int} {a : Int} (h : r 12 = a) : hpfv z 9 r 12 = .int (hpI a) := hp_fvI (by decide +kernel) h
theorem fi_17_1 {z : Nat} {r : Nat → Int} {a : Int} (h : r 1 = a) : hpfv z 17 r 1 = .int (hpI a) := hp_fvI (by decide +kernel) h
theorem fi_17_2 {z : Nat} {r : Nat → Int} {a : Int} (h : r 2 = a) : hpfv z 17 r 2 = .int (hpI a) := hp_fvI (by decide +kernel) h
theorem fi_17_3 {z : Nat} {r : Nat → Int} {a : Int} (h : r 3 = a) : hpfv z 17 r 3 = .int (hpI a) := hp_fvI (by decide +kernel) h
theorem fi_17_4 {z : Nat} {r : Nat → Int} {a : Int} (h : r 4 = a) : hpfv z 17 r 4 = .int (hpI a) := hp_fvI (by decide +kernel) h
theorem fi_17_5 {z : Nat} {r : Nat → Int} {a : Int} (h : r 5 = a) : hpfv z 17 r 5 = .int (hpI a) := hp_fvI (by decide +kernel) h
theorem fi_17_6 {z : Nat} {r : Nat → Int} {a : Int} (h : r 6 = a) : hpfv z 17 r 6 = .int (hpI a) := hp_fvI (by decide +kernel) h
theorem fi_17_7 {z : Nat} {r : Nat → Int} {a : Int} (h : r 7 = a) : hpfv z 17 r 7 = .int (hpI a) := hp_fvI (by decide +kernel) h
theorem fi_17_8 {z : Nat} {r : Nat → Int} {a : Int} (h : r 8 = a) : hpfv z 17 r 8 = .int (hpI a) := hp_fvI (by decide +kernel) h
theorem fi_19_2 {z : Nat} {r : Nat → Int} {a : Int} (h : r 2 = a) : hpfv z 19 r 2 = .int (hpI a) := hp_fvI (by decide +kernel) h
theorem fi_19_3 {z : Nat} {r : Nat → Int} {a : Int} (h : r 3 = a) : hpfv z 19 r 3 = .int (hpI a) := hp_fvI (by decide +kernel) h
theorem fi_19_4 {z : Nat} {r : Nat → Int} {a : Int} (h : r 4 = a) : hpfv z 19 r 4 = .int (hpI a) := hp_fvI (by decide +kernel) h
theorem fi_22_2 {z : Nat} {r : Nat → Int} {a : Int} (h : r 2 = a) : hpfv z 22 r 2 = .int (hpI a) := hp_fvI (by decide +kernel) h
theorem fi_22_3 {z : Nat} {r : Nat → Int} {a : Int} (h : r 3 = a) : hpfv z 22 r 3 = .int (hpI a) := hp_fvI (by decide +kernel) h
theorem fi_22_4 {z : Nat} {r : Nat → Int} {a : Int} (h : r 4 = a) : hpfv z 22 r 4 = .int (hpI a) := hp_fvI (by decide +kernel) h
theorem fi_25_2 {z : Nat} {r : Nat → Int} {a : Int} (h : r 2 = a) : hpfv z 25 r 2 = .int (hpI a) := hp_fvI (by decide +kernel) h
theorem fi_25_3 {z : Nat} {r : Nat → Int} {a : Int} (h : r 3 = a) : hpfv z 25 r 3 = .int (hpI a) := hp_fvI (by decide +kernel) h
theorem fi_25_4 {z : Nat} {r : Nat → Int} {a : Int} (h : r 4 = a) : hpfv z 25 r 4 = .int (hpI a) := hp_fvI (by decide +kernel) h
theorem fi_28_2 {z : Nat} {r : Nat → Int} {a : Int} (h : r 2 = a) : hpfv z 28 r 2 = .int (hpI a) := hp_fvI (by decide +kernel) h
theorem fi_28_3 {z : Nat} {r : Nat → Int} {a : Int} (h : r 3 = a) : hpfv z 28 r 3 = .int (hpI a) := hp_fvI (by decide +kernel) h
theorem fi_28_4 {z : Nat} {r : Nat → Int} {a : Int} (h : r 4 = a) : hpfv z 28 r 4 = .int (hpI a) := hp_fvI (by decide +kernel) h
theorem fi_31_2 {z : Nat} {r : Nat → Int} {a : Int} (h : r 2 = a) : hpfv z 31 r 2 = .int (hpI a) := hp_fvI (by decide +kernel) h
theorem fi_31_3 {z : Nat} {r : Nat → Int} {a : Int} (h : r 3 = a) : hpfv z 31 r 3 = .int (hpI a) := hp_fvI (by decide +kernel) h
theorem fi_31_4 {z : Nat} {r : Nat → Int} {a : Int} (h : r 4 = a) : hpfv z 31 r 4 = .int (hpI a) := hp_fvI (by decide +kernel) h
theorem fi_34_2 {z : Nat} {r : Nat → Int} {a : Int} (h : r 2 = a) : hpfv z 34 r 2 = .int (hpI a) := hp_fvI (by decide +kernel) h
theorem fi_34_3 {z : Nat} {r : Nat → Int} {a : Int} (h : r 3 = a) : hpfv z 34 r 3 = .int (hpI a) := hp_fvI (by decide +kernel) h
theorem fi_34_4 {z : Nat} {r : Nat → Int} {a : Int} (h : r 4 = a) : hpfv z 34 r 4 = .int (hpI a) := hp_fvI (by decide +kernel) h
theorem fi_37_2 {z : Nat} {r : Nat → Int} {a : Int} (h : r 2 = a) : hpfv z 37 r 2 = .int (hpI a) := hp_fvI (by decide +kernel) h
theorem fi_37_3 {z : Nat} {r : Nat → Int} {a : Int} (h : r 3 = a) : hpfv z 37 r 3 = .int (hpI a) := hp_fvI (by decide +kernel) h
theorem fi_37_4 {z : Nat} {r : Nat → Int} {a : Int} (h : r 4 = a) : hpfv z 37 r 4 = .int (hpI a) := hp_fvI (by decide +kernel) h
theorem fi_40_2 {z : Nat} {r : Nat → Int} {a : Int} (h : r 2 = a) : hpfv z 40 r 2 = .int (hpI a) := hp_fvI (by decide +kernel) h
theorem fi_40_3 {z : Nat} {r : Nat → Int} {a : Int} (h : r 3 = a) : hpfv z 40 r 3 = .int (hpI a) := hp_fvI (by decide +kernel) h
theorem fi_40_4 {z : Nat} {r : Nat → Int} {a : Int} (h : r 4 = a) : hpfv z 40 r 4 = .int (hpI a) := hp_fvI (by decide +kernel) h
theorem fi_43_2 {z : Nat} {r : Nat → Int} {a : Int} (h : r 2 = a) : hpfv z 43 r 2 = .int (hpI a) := hp_fvI (by decide +kernel) h
theorem fi_43_3 {z : Nat} {r : Nat → Int} {a : Int} (h : r 3 = a) : hpfv z 43 r 3 = .int (hpI a) := hp_fvI (by decide +kernel) h
theorem fi_43_4 {z : Nat} {r : Nat → Int} {a : Int} (h : r 4 = a) : hpfv z 43 r 4 = .int (hpI a) := hp_fvI (by decide +kernel) h
theorem fi_46_2 {z : Nat} {r : Nat → Int} {a : Int} (h : r 2 = a) : hpfv z 46 r 2 = .int (hpI a) := hp_fvI (by decide +kernel) h
theorem fi_46_3 {z : Nat} {r : Nat → Int} {a : Int} (h : r 3 = a) : hpfv z 46 r 3 = .int (hpI a) := hp_fvI (by decide +kernel) h
theorem fi_46_4 {z : Nat} {r : Nat → Int} {a : Int} (h : r 4 = a) : hpfv z 46 r 4 = .int (hpI a) := hp_fvI (by decide +kernel) h
theorem fi_49_2 {z : Nat} {r : Nat → Int} {a : Int} (h : r 2 = a) : hpfv z 49 r 2 = .int (hpI a) := hp_fvI (by decide +kernel) h
theorem fi_49_3 {z : Nat} {r : Nat → Int} {a : Int} (h : r 3 = a) : hpfv z 49 r 3 = .int (hpI a) := hp_fvI (by decide +kernel) h
theorem fi_49_4 {z : Nat} {r : Nat → Int} {a : Int} (h : r 4 = a) : hpfv z 49 r 4 = .int (hpI a) := hp_fvI (by decide +kernel) h
theorem fi_52_2 {z : Nat} {r : Nat → Int} {a : Int} (h : r 2 = a) : hpfv z 52 r 2 = .int (hpI a) := hp_fvI (by decide +kernel) h
theorem fi_52_3 {z : Nat} {r : Nat → Int} {a : Int} (h : r 3 = a) : hpfv z 52 r 3 = .int (hpI a) := hp_fvI (by decide +kernel) h
theorem fi_52_4 {z : Nat} {r : Nat → Int} {a : Int} (h : r 4 = a) : hpfv z 52 r 4 = .int (hpI a) := hp_fvI (by decide +kernel) h
theorem fi_55_2 {z : Nat} {r : Nat → Int} {a : Int} (h : r 2 = a) : hpfv z 55 r 2 = .int (hpI a) := hp_fvI (by decide +kernel) h
theorem fi_55_3 {z : Nat} {r : Nat → Int} {a : Int} (h : r 3 = a) : hpfv z 55 r 3 = .int (hpI a) := hp_fvI (by decide +kernel) h
theorem fi_55_4 {z : Nat} {r : Nat → Int} {a : Int} (h : r 4 = a) : hpfv z 55 r 4 = .int (hpI a) := hp_fvI (by decide +kernel) h
theorem fi_58_2 {z : Nat} {r : Nat → Int} {a : Int} (h : r 2 = a) : hpfv z 58 r 2 = .int (hpI a) := hp_fvI (by decide +kernel) h
theorem fi_58_3 {z : Nat} {r : Nat → Int} {a : Int} (h : r 3 = a) : hpfv z 58 r 3 = .int (hpI a) := hp_fvI (by decide +kernel) h
theorem fi_58_4 {z : Nat} {r : Nat → Int} {a : Int} (h : r 4 = a) : hpfv z 58 r 4 = .int (hpI a) := hp_fvI (by decide +kernel) h
theorem fi_61_2 {z : Nat} {r : Nat → Int} {a : Int} (h : r 2 = a) : hpfv z 61 r 2 = .int (hpI a) := hp_fvI (by decide +kernel) h
theorem fi_61_3 {z : Nat} {r : Nat → Int} {a : Int} (h : r 3 = a) : hpfv z 61 r 3 = .int (hpI a) := hp_fvI (by decide +kernel) h
theorem fi_61_4 {z : Nat} {r : Nat → Int} {a : Int} (h : r 4 = a) : hpfv z 61 r 4 = .int (hpI a) := hp_fvI (by decide +kernel) h
theorem fi_64_2 {z : Nat} {r : Nat → Int} {a : Int} (h : r 2 = a) : hpfv z 64 r 2 = .int (hpI a) := hp_fvI (by decide +kernel) h
theorem fi_64_3 {z : Nat} {r : Nat → Int} {a : Int} (h : r 3 = a) : hpfv z 64 r 3 = .int (hpI a) := hp_fvI (by decide +kernel) h
theorem fi_64_4 {z : Nat} {r : Nat → Int} {a : Int} (h : r 4 = a) : hpfv z 64 r 4 = .int (hpI a) := hp_fvI (by decide +kernel) h
theorem fi_67_2 {z : Nat} {r : Nat → Int} {a : Int} (h : r 2 = a) : hpfv z 67 r 2 = .int (hpI a) := hp_fvI (by decide +kernel) h
theorem fi_67_3 {z : Nat} {r : Nat → Int} {a : Int} (h : r 3 = a) : hpfv z 67 r 3 = .int (hpI a) := hp_fvI (by decide +kernel) h
theorem fi_67_4 {z : Nat} {r : Nat → Int} {a : Int} (h : r 4 = a) : hpfv z 67 r 4 = .int (hpI a) := hp_fvI (by decide +kernel) h
theorem fi_70_1 {z : Nat} {r : Nat → Int} {a : Int} (h : r 1 = a) : hpfv z 70 r 1 = .int (hpI a) := hp_fvI (by decide +kernel) h
theorem fi_70_2 {z : Nat} {r : Nat → Int} {a : Int} (h : r 2 = a) : hpfv z 70 r 2 = .int (hpI a) := hp_fvI (by decide +kernel) h
theorem fi_70_3 {z : Nat} {r : Nat → Int} {a : Int} (h : r 3 = a) : hpfv z 70 r 3 = .int (hpI a) := hp_fvI (by decide +kernel) h
theorem fi_70_4 {z : Nat} {r : Nat → Int} {a : Int} (h : r 4 = a) : hpfv z 70 r 4 = .int (hpI a) := hp_fvI (by decide +kernel) h
theorem fi_70_5 {z : Nat} {r : Nat → Int} {a : Int} (h : r 5 = a) : hpfv z 70 r 5 = .int (hpI a) := hp_fvI (by decide +kernel) h
theorem fi_70_6 {z : Nat} {r : Nat → Int} {a : Int} (h : r 6 = a) : hpfv z 70 r 6 = .int (hpI a) := hp_fvI (by decide +kernel) h
theorem fi_70_7 {z : Nat} {r : Nat → Int} {a : Int} (h : r 7 = a) : hpfv z 70 r 7 = .int (hpI a) := hp_fvI (by decide +kernel) h
theorem fi_70_8 {z : Nat} {r : Nat → Int} {a : Int} (h : r 8 = a) : hpfv z 70 r 8 = .int (hpI a) := hp_fvI (by decide +kernel) h
theorem fi_72_2 {z : Nat} {r : Nat → Int} {a : Int} (h : r 2 = a) : hpfv z 72 r 2 = .int (hpI a) := hp_fvI (by decide +kernel) h
theorem fi_72_3 {z : Nat} {r : Nat → Int} {a : Int} (h : r 3 = a) : hpfv z 72 r 3 = .int (hpI a) := hp_fvI (by decide +kernel) h
theorem fi_72_4 {z : Nat} {r : Nat → Int} {a : Int} (h : r 4 = a) : hpfv z 72 r 4 = .int (hpI a) := hp_fvI (by decide +kernel) h
theorem fi_75_2 {z : Nat} {r : Nat → Int} {a : Int} (h : r 2 = a) : hpfv z 75 r 2 = .int (hpI a) := hp_fvI (by decide +kernel) h
theorem fi_75_3 {z : Nat} {r : Nat → Int} {a : Int} (h : r 3 = a) : hpfv z 75 r 3 = .int (hpI a) := hp_fvI (by decide +kernel) h
theorem fi_75_4 {z : Nat} {r : Nat → Int} {a : Int} (h : r 4 = a) : hpfv z 75 r 4 = .int (hpI a) := hp_fvI (by decide +kernel) h
theorem fi_78_2 {z : Nat} {r : Nat → Int} {a : Int} (h : r 2 = a) : hpfv z 78 r 2 = .int (hpI a) := hp_fvI (by decide +kernel) h
theorem fi_78_3 {z : Nat} {r : Nat → Int} {a : Int} (h : r 3 = a) : hpfv z 78 r 3 = .int (hpI a) := hp_fvI (by decide +kernel) h
theorem fi_78_4 {z : Nat} {r : Nat → Int} {a : Int} (h : r 4 = a) : hpfv z 78 r 4 = .int (hpI a) := hp_fvI (by decide +kernel) h
theorem fi_81_2 {z : Nat} {r : Nat → Int} {a : Int} (h : r 2 = a) : hpfv z 81 r 2 = .int (hpI a) := hp_fvI (by decide +kernel) h
theorem fi_81_3 {z : Nat} {r : Nat → Int} {a : Int} (h : r 3 = a) : hpfv z 81 r 3 = .int (hpI a) := hp_fvI (by decide +kernel) h
theorem fi_81_4 {z : Nat} {r : Nat → Int} {a : Int} (h : r 4 = a) : hpfv z 81 r 4 = .int (hpI a) := hp_fvI (by decide +kernel) h
theorem fi_84_2 {z : Nat} {r : Nat → Int} {a : Int} (h : r 2 = a) : hpfv z 84 r 2 = .int (hpI a) := hp_fvI (by decide +kernel) h
theorem fi_84_3 {z : Nat} {r : Nat → Int} {a : Int} (h : r 3 = a) : hpfv z 84 r 3 = .int (hpI a) := hp_fvI (by decide +kernel) h
theorem fi_84_4 {z : Nat} {r : Nat → Int} {a : Int} (h : r 4 = a) : hpfv z 84 r 4 = .int (hpI a) := hp_fvI (by decide +kernel) h
theorem fi_87_2 {z : Nat} {r : Nat → Int} {a : Int} (h : r 2 = a) : hpfv z 87 r 2 = .int (hpI a) := hp_fvI (by decide +kernel) h
theorem fi_87_3 {z : Nat} {r : Nat → Int} {a : Int} (h : r 3 = a) : hpfv z 87 r 3 = .int (hpI a) := hp_fvI (by decide +kernel) h
theorem fi_87_4 {z : Nat} {r : Nat → Int} {a : Int} (h : r 4 = a) : hpfv z 87 r 4 = .int (hpI a) := hp_fvI (by decide +kernel) h
theorem fi_90_2 {z : Nat} {r : Nat → Int} {a : Int} (h : r 2 = a) : hpfv z 90 r 2 = .int (hpI a) := hp_fvI (by decide +kernel) h
theorem fi_90_3 {z : Nat} {r : Nat → Int} {a : Int} (h : r 3 = a) : hpfv z 90 r 3 = .int (hpI a) := hp_fvI (by decide +kernel) h
theorem fi_90_4 {z : Nat} {r : Nat → Int} {a : Int} (h : r 4 = a) : hpfv z 90 r 4 = .int (hpI a) := hp_fvI (by decide +kernel) h
theorem fi_93_2 {z : Nat} {r : Nat → Int} {a : Int} (h : r 2 = a) : hpfv z 93 r 2 = .int (hpI a) := hp_fvI (by decide +kernel) h
theorem fi_93_3 {z : Nat} {r : Nat → Int} {a : Int} (h : r 3 = a) : hpfv z 93 r 3 = .int (hpI a) := hp_fvI (by decide +kernel) h
theorem fi_93_4 {z : Nat} {r : Nat → Int} {a : Int} (h : r 4 = a) : hpfv z 93 r 4 = .int (hpI a) := hp_fvI (by decide +kernel) h
theorem fi_96_2 {z : Nat} {r : Nat → Int} {a : Int} (h : r 2 = a) : hpfv z 96 r 2 = .int (hpI a) := hp_fvI (by decide +kernel) h
theorem fi_96_3 {z : Nat} {r : Nat → Int} {a : Int} (h : r 3 = a) : hpfv z 96 r 3 = .int (hpI a) := hp_fvI (by decide +kernel) h
theorem fi_96_4 {z : Nat} {r : Nat → Int} {a : Int} (h : r 4 = a) : hpfv z 96 r 4 = .int (hpI a) := hp_fvI (by decide +kernel) h
theorem fi_99_2 {z : Nat} {r : Nat → Int} {a : Int} (h : r 2 = a) : hpfv z 99 r 2 = .int (hpI a) := hp_fvI (by decide +kernel) h
theorem fi_99_3 {z : Nat} {r : Nat → Int} {a : Int} (h : r 3 = a) : hpfv z 99 r 3 = .int (hpI a) := hp_fvI (by decide +kernel) h
theorem fi_99_4 {z : Nat} {r : Nat → Int} {a : Int} (h : r 4 = a) : hpfv z 99 r 4 = .int (hpI a) := hp_fvI (by decide +kernel) h
theorem fi_102_2 {z : Nat} {r : Nat → Int} {a : Int} (h : r 2 = a) : hpfv z 102 r 2 = .int (hpI a) := hp_fvI (by decide +kernel) h
theorem fi_102_3 {z : Nat} {r : Nat → Int} {a : Int} (h : r 3 = a) : hpfv z 102 r 3 = .int (hpI a) := hp_fvI (by decide +kernel) h
theorem fi_102_4 {z : Nat} {r : Nat → Int} {a : Int} (h : r 4 = a) : hpfv z 102 r 4 = .int (hpI a) := hp_fvI (by decide +kernel) h
theorem fi_105_2 {z : Nat} {r : Nat → Int} {a : Int} (h : r 2 = a) : hpfv z 105 r 2 = .int (hpI a) := hp_fvI (by decide +kernel) h
theorem fi_105_3 {z : Nat} {r : Nat → Int} {a : Int} (h : r 3 = a) : hpfv z 105 r 3 = .int (hpI a) := hp_fvI (by decide +kernel) h
theorem fi_105_4 {z : Nat} {r : Nat → Int} {a : Int} (h : r 4 = a) : hpfv z 105 r 4 = .int (hpI a) := hp_fvI (by decide +kernel) h
theorem fi_108_2 {z : Nat} {r : Nat → Int} {a : Int} (h : r 2 = a) : hpfv z 108 r 2 = .int (hpI a) := hp_fvI (by decide +kernel) h
theorem fi_108_3 {z : Nat} {r : Nat → Int} {a : Int} (h : r 3 = a) : hpfv z 108 r 3 = .int (hpI a) := hp_fvI (by decide +kernel) h
theorem fi_108_4 {z : Nat} {r : Nat → Int} {a : Int} (h : r 4 = a) : hpfv z 108 r 4 = .int (hpI a) := hp_fvI (by decide +kernel) h
theorem fi_111_2 {z : Nat} {r : Nat → Int} {a : Int} (h : r 2 = a) : hpfv z 111 r 2 = .int (hpI a) := hp_fvI (by decide +kernel) h
theorem fi_111_3 {z : Nat} {r : Nat → Int} {a : Int} (h : r 3 = a) : hpfv z 111 r 3 = .int (hpI a) := hp_fvI (by decide +kernel) h
theorem fi_111_4 {z : Nat} {r : Nat → Int} {a : Int} (h : r 4 = a) : hpfv z 111 r 4 = .int (hpI a) := hp_fvI (by decide +kernel) h
theorem fi_114_2 {z : Nat} {r : Nat → Int} {a : Int} (h : r 2 = a) : hpfv z 114 r 2 = .int (hpI a) := hp_fvI (by decide +kernel) h
theorem fi_114_3 {z : Nat} {r : Nat → Int} {a : Int} (h : r 3 = a) : hpfv z 114 r 3 = .int (hpI a) := hp_fvI (by decide +kernel) h
theorem fi_114_4 {z : Nat} {r : Nat → Int} {a : Int} (h : r 4 = a) : hpfv z 114 r 4 = .int (hpI a) := hp_fvI (by decide +kernel) h
theorem fi_117_2 {z : Nat} {r : Nat → Int} {a : Int} (h : r 2 = a) : hpfv z 117 r 2 = .int (hpI a) := hp_fvI (by decide +kernel) h
theorem fi_117_3 {z : Nat} {r : Nat → Int} {a : Int} (h : r 3 = a) : hpfv z 117 r 3 = .int (hpI a) := hp_fvI (by decide +kernel) h
theorem fi_117_4 {z : Nat} {r : Nat → Int} {a : Int} (h : r 4 = a) : hpfv z 117 r 4 = .int (hpI a) := hp_fvI (by decide +kernel) h
theorem fi_120_2 {z : Nat} {r : Nat → Int} {a : Int} (h : r 2 = a) : hpfv z 120 r 2 = .int (hpI a) := hp_fvI (by decide +kernel) h
theorem fi_120_3 {z : Nat} {r : Nat → Int} {a : Int} (h : r 3 = a) : hpfv z 120 r 3 = .int (hpI a) := hp_fvI (by decide +kernel) h
theorem fi_120_4 {z : Nat} {r : Nat → Int} {a : Int} (h : r 4 = a) : hpfv z 120 r 4 = .int (hpI a) := hp_fvI (by decide +kernel) h
theorem fi_123_2 {z : Nat} {r : Nat → Int} {a : Int} (h : r 2 = a) : hpfv z 123 r 2 = .int (hpI a) := hp_fvI (by decide +kernel) h
theorem fi_123_3 {z : Nat} {r : Nat → Int} {a : Int} (h : r 3 = a) : hpfv z 123 r 3 = .int (hpI a) := hp_fvI (by decide +kernel) h
theorem fi_123_4 {z : Nat} {r : Nat → Int} {a : Int} (h : r 4 = a) : hpfv z 123 r 4 = .int (hpI a) := hp_fvI (by decide +kernel) h
theorem fi_123_5 {z : Nat} {r : Nat → Int} {a : Int} (h : r 5 = a) : hpfv z 123 r 5 = .int (hpI a) := hp_fvI (by decide +kernel) h
theorem fi_124_2 {z : Nat} {r : Nat → Int} {a : Int} (h : r 2 = a) : hpfv z 124 r 2 = .int (hpI a) := hp_fvI (by decide +kernel) h
theorem fi_124_3 {z : Nat} {r : Nat → Int} {a : Int} (h : r 3 = a) : hpfv z 124 r 3 = .int (hpI a) := hp_fvI (by decide +kernel) h
theorem fi_124_4 {z : Nat} {r : Nat → Int} {a : Int} (h : r 4 = a) : hpfv z 124 r 4 = .int (hpI a) := hp_fvI (by decide +kernel) h
theorem fi_127_2 {z : Nat} {r : Nat → Int} {a : Int} (h : r 2 = a) : hpfv z 127 r 2 = .int (hpI a) := hp_fvI (by decide +kernel) h
theorem fi_127_3 {z : Nat} {r : Nat → Int} {a : Int} (h : r 3 = a) : hpfv z 127 r 3 = .int (hpI a) := hp_fvI (by decide +kernel) h
theorem fi_127_4 {z : Nat} {r : Nat → Int} {a : Int} (h : r 4 = a) : hpfv z 127 r 4 = .int (hpI a) := hp_fvI (by decide +kernel) h
theorem fi_130_8 {z : Nat} {r : Nat → Int} {a : Int} (h : r 8 = a) : hpfv z 130 r 8 = .int (hpI a) := hp_fvI (by decide +kernel) h
theorem fi_130_9 {z : Nat} {r : Nat → Int} {a : Int} (h : r 9 = a) : hpfv z 130 r 9 = .int (hpI a) := hp_fvI (by decide +kernel) h
theorem fi_130_10 {z : Nat} {r : Nat → Int} {a : Int} (h : r 10 = a) : hpfv z 130 r 10 = .int (hpI a) := hp_fvI (by decide +kernel) h
theorem fi_130_11 {z : Nat} {r : Nat → Int} {a : Int} (h : r 11 = a) : hpfv z 130 r 11 = .int (hpI a) := hp_fvI (by decide +kernel) h
theorem fi_130_12 {z : Nat} {r : Nat → Int} {a : Int} (h : r 12 = a) : hpfv z 130 r 12 = .int (hpI a) := hp_fvI (by decide +kernel) h
theorem fi_130_13 {z : Nat} {r : Nat → Int} {a : Int} (h : r 13 = a) : hpfv z 130 r 13 = .int (hpI a) := hp_fvI (by decide +kernel) h
theorem fi_130_14 {z : Nat} {r : Nat → Int} {a : Int} (h : r 14 = a) : hpfv z 130 r 14 = .int (hpI a) := hp_fvI (by decide +kernel) h
theorem fi_138_2 {z : Nat} {r : Nat → Int} {a : Int} (h : r 2 = a) : hpfv z 138 r 2 = .int (hpI a) := hp_fvI (by decide +kernel) h
theorem fi_138_3 {z : Nat} {r : Nat → Int} {a : Int} (h : r 3 = a) : hpfv z 138 r 3 = .int (hpI a) := hp_fvI (by decide +kernel) h
theorem fi_138_4 {z : Nat} {r : Nat → Int} {a : Int} (h : r 4 = a) : hpfv z 138 r 4 = .int (hpI a) := hp_fvI (by decide +kernel) h
theorem fi_141_2 {z : Nat} {r : Nat → Int} {a : Int} (h : r 2 = a) : hpfv z 141 r 2 = .int (hpI a) := hp_fvI (by decide +kernel) h
theorem fi_164_2 {z : Nat} {r : Nat → Int} {a : Int} (h : r 2 = a) : hpfv z 164 r 2 = .int (hpI a) := hp_fvI (by decide +kernel) h
theorem fi_164_3 {z : Nat} {r : Nat → Int} {a : Int} (h : r 3 = a) : hpfv z 164 r 3 = .int (hpI a) := hp_fvI (by decide +kernel) h
theorem fi_164_4 {z : Nat} {r : Nat → Int} {a : Int} (h : r 4 = a) : hpfv z 164 r 4 = .int (hpI a) := hp_fvI (by decide +kernel) h
theorem fi_169_5 {z : Nat} {r : Nat → Int} {a : Int} (h : r 5 = a) : hpfv z 169 r 5 = .int (hpI a) := hp_fvI (by decide +kernel) h
theorem fi_169_6 {z : Nat} {r : Nat → Int} {a : Int} (h : r 6 = a) : hpfv z 169 r 6 = .int (hpI a) := hp_fvI (by decide +kernel) h
theorem fi_169_7 {z : Nat} {r : Nat → Int} {a : Int} (h : r 7 = a) : hpfv z 169 r 7 = .int (hpI a) := hp_fvI (by decide +kernel) h
theorem fi_169_8 {z : Nat} {r : Nat → Int} {a : Int} (h : r 8 = a) : hpfv z 169 r 8 = .int (hpI a) := hp_fvI (by decide +kernel) h
theorem fi_169_9 {z : Nat} {r : Nat → Int} {a : Int} (h : r 9 = a) : hpfv z 169 r 9 = .int (hpI a) := hp_fvI (by decide +kernel) h
theorem fi_169_10 {z : Nat} {r : Nat → Int} {a : Int} (h : r 10 = a) : hpfv z 169 r 10 = .int (hpI a) := hp_fvI (by decide +kernel) h
theorem fi_169_11 {z : Nat} {r : Nat → Int} {a : Int} (h : r 11 = a) : hpfv z 169 r 11 = .int (hpI a) := hp_fvI (by decide +kernel) h
theorem fi_169_12 {z : Nat} {r : Nat → Int} {a : Int} (h : r 12 = a) : hpfv z 169 r 12 = .int (hpI a) := hp_fvI (by decide +kernel) h
theorem fi_175_5 {z : Nat} {r : Nat → Int} {a : Int} (h : r 5 = a) : hpfv z 175 r 5 = .int (hpI a) := hp_fvI (by decide +kernel) h
theorem fi_175_6 {z : Nat} {r : Nat → Int} {a : Int} (h : r 6 = a) : hpfv z 175 r 6 = .int (hpI a) := hp_fvI (by decide +kernel) h
theorem fi_175_7 {z : Nat} {r : Nat → Int} {a : Int} (h : r 7 = a) : hpfv z 175 r 7 = .int (hpI a) := hp_fvI (by decide +kernel) h
theorem fi_175_8 {z : Nat} {r : Nat → Int} {a : Int} (h : r 8 = a) : hpfv z 175 r 8 = .int (hpI a) := hp_fvI (by decide +kernel) h
theorem fi_175_9 {z : Nat} {r : Nat → Int} {a : Int} (h : r 9 = a) : hpfv z 175 r 9 = .int (hpI a) := hp_fvI (by decide +kernel) h
theorem fi_175_10 {z : Nat} {r : Nat → Int} {a : Int} (h : r 10 = a) : hpfv z 175 r 10 = .int (hpI a) := hp_fvI (by decide +kernel) h
theorem fi_175_11 {z : Nat} {r : Nat → Int} {a : Int} (h : r 11 = a) : hpfv z 175 r 11 = .int (hpI a) := hp_fvI (by decide +kernel) h
theorem fi_175_12 {z : Nat} {r : Nat → Int} {a : Int} (h : r 12 = a) : hpfv z 175 r 12 = .int (hpI a) := hp_fvI (by decide +kernel) h
theorem fi_181_5 {z : Nat} {r : Nat → Int} {a : Int} (h : r 5 = a) : hpfv z 181 r 5 = .int (hpI a) := hp_fvI (by decide +kernel) h
theorem fi_181_6 {z : Nat} {r : Nat → Int} {a : Int} (h : r 6 = a) : hpfv z 181 r 6 = .int (hpI a) := hp_fvI (by decide +kernel) h
theorem fi_181_7 {z : Nat} {r : Nat → Int} {a : Int} (h : r 7 = a) : hpfv z 181 r 7 = .int (hpI a) := hp_fvI (by decide +kernel) h
theorem fi_181_8 {z : Nat} {r : Nat → Int} {a : Int} (h : r 8 = a) : hpfv z 181 r 8 = .int (hpI a) := hp_fvI (by decide +kernel) h
theorem fi_181_9 {z : Nat} {r : Nat → Int} {a : Int} (h : r 9 = a) : hpfv z 181 r 9 = .int (hpI a) := hp_fvI (by decide +kernel) h
theorem fi_181_10 {z : Nat} {r : Nat → Int} {a : Int} (h : r 10 = a) : hpfv z 181 r 10 = .int (hpI a) := hp_fvI (by decide +kernel) h
theorem fi_181_11 {z : Nat} {r : Nat → Int} {a : Int} (h : r 11 = a) : hpfv z 181 r 11 = .int (hpI a) := hp_fvI (by decide +kernel) h
theorem fi_181_12 {z : Nat} {r : Nat → Int} {a : Int} (h : r 12 = a) : hpfv z 181 r 12 = .int (hpI a) := hp_fvI (by decide +kernel) h
theorem fi_187_1 {z : Nat} {r : Nat → Int} {a : Int} (h : r 1 = a) : hpfv z 187 r 1 = .int (hpI a) := hp_fvI (by decide +kernel) h
theorem fi_187_2 {z : Nat} {r : Nat → Int} {a : Int} (h : r 2 = a) : hpfv z 187 r 2 = .int (hpI a) := hp_fvI (by decide +kernel) h
theorem fi_187_3 {z : Nat} {r : Nat → Int} {a : Int} (h : r 3 = a) : hpfv z 187 r 3 = .int (hpI a) := hp_fvI (by decide +kernel) h
theorem fi_189_1 {z : Nat} {r : Nat → Int} {a : Int} (h : r 1 = a) : hpfv z 189 r 1 = .int (hpI a) := hp_fvI (by decide +kernel) h
theorem fi_189_2 {z : Nat} {r : Nat → Int} {a : Int} (h : r 2 = a) : hpfv z 189 r 2 = .int (hpI a) := hp_fvI (by decide +kernel) h
theorem fi_189_3 {z : Nat} {r : Nat → Int} {a : Int} (h : r 3 = a) : hpfv z 189 r 3 = .int (hpI a) := hp_fvI (by decide +kernel) h
theorem fi_191_1 {z : Nat} {r : Nat → Int} {a : Int} (h : r 1 = a) : hpfv z 191 r 1 = .int (hpI a) := hp_fvI (by decide +kernel) h
theorem fi_191_2 {z : Nat} {r : Nat → Int} {a : Int} (h : r 2 = a) : hpfv z 191 r 2 = .int (hpI a) := hp_fvI (by decide +kernel) h
theorem fi_191_3 {z : Nat} {r : Nat → Int} {a : Int} (h : r 3 = a) : hpfv z 191 r 3 = .int (hpI a) := hp_fvI (by decide +kernel) h
theorem fi_193_1 {z : Nat} {r : Nat → Int} {a : Int} (h : r 1 = a) : hpfv z 193 r 1 = .int (hpI a) := hp_fvI (by decide +kernel) h
theorem fi_193_2 {z : Nat} {r : Nat → Int} {a : Int} (h : r 2 = a) : hpfv z 193 r 2 = .int (hpI a) := hp_fvI (by decide +kernel) h
theorem fi_193_3 {z : Nat} {r : Nat → Int} {a : Int} (h : r 3 = a) : hpfv z 193 r 3 = .int (hpI a) := hp_fvI (by decide +kernel) h
theorem fi_195_0 {z : Nat} {r : Nat → Int} {a : Int} (h : r 0 = a) : hpfv z 195 r 0 = .int (hpI a) := hp_fvI (by decide +kernel) h
theorem fi_195_5 {z : Nat} {r : Nat → Int} {a : Int} (h : r 5 = a) : hpfv z 195 r 5 = .int (hpI a) := hp_fvI (by decide +kernel) h
theorem fi_195_7 {z : Nat} {r : Nat → Int} {a : Int} (h : r 7 = a) : hpfv z 195 r 7 = .int (hpI a) := hp_fvI (by decide +kernel) h
theorem fi_195_8 {z : Nat} {r : Nat → Int} {a : Int} (h : r 8 = a) : hpfv z 195 r 8 = .int (hpI a) := hp_fvI (by decide +kernel) h
theorem fi_195_9 {z : Nat} {r : Nat → Int} {a : Int} (h : r 9 = a) : hpfv z 195 r 9 = .int (hpI a) := hp_fvI (by decide +kernel) h
theorem fi_195_10 {z : Nat} {r : Nat → Int} {a : Int} (h : r 10 = a) : hpfv z 195 r 10 = .int (hpI a) := hp_fvI (by decide +kernel) h
theorem fi_195_11 {z : Nat} {r : Nat → Int} {a : Int} (h : r 11 = a) : hpfv z 195 r 11 = .int (hpI a) := hp_fvI (by decide +kernel) h
theorem fi_195_12 {z : Nat} {r : Nat → Int} {a : Int} (h : r 12 = a) : hpfv z 195 r 12 = .int (hpI a) := hp_fvI (by decide +kernel) h
theorem fi_195_13 {z : Nat} {r : Nat → Int} {a : Int} (h : r 13 = a) : hpfv z 195 r 13 = .int (hpI a) := hp_fvI (by decide +kernel) h
theorem fi_195_16 {z : Nat} {r : Nat → Int} {a : Int} (h : r 16 = a) : hpfv z 195 r 16 = .int (hpI a) := hp_fvI (by decide +kernel) h
theorem fi_195_17 {z : Nat} {r : Nat → Int} {a : Int} (h : r 17 = a) : hpfv z 195 r 17 = .int (hpI a) := hp_fvI (by decide +kernel) h
theorem fi_195_18 {z : Nat} {r : Nat → Int} {a : Int} (h : r 18 = a) : hpfv z 195 r 18 = .int (hpI a) := hp_fvI (by decide +kernel) h
theorem fi_195_21 {z : Nat} {r : Nat → Int} {a : Int} (h : r 21 = a) : hpfv z 195 r 21 = .int (hpI a) := hp_fvI (by decide +kernel) h
theorem fi_195_22 {z : Nat} {r : Nat → Int} {a : Int} (h : r 22 = a) : hpfv z 195 r 22 = .int (hpI a) := hp_fvI (by decide +kernel) h
theorem fi_195_23 {z : Nat} {r : Nat → Int} {a : Int} (h : r 23 = a) : hpfv z 195 r 23 = .int (hpI a) := hp_fvI (by decide +kernel) h
theorem fi_195_24 {z : Nat} {r : Nat → Int} {a : Int} (h : r 24 = a) : hpfv z 195 r 24 = .int (hpI a) := hp_fvI (by decide +kernel) h
theorem fi_195_27 {z : Nat} {r : Nat → Int} {a : Int} (h : r 27 = a) : hpfv z 195 r 27 = .int (hpI a) := hp_fvI (by decide +kernel) h
theorem fi_195_28 {z : Nat} {r : Nat → Int} {a : Int} (h : r 28 = a) : hpfv z 195 r 28 = .int (hpI a) := hp_fvI (by decide +kernel) h
theorem fi_195_32 {z : Nat} {r : Nat → Int} {a : Int} (h : r 32 = a) : hpfv z 195 r 32 = .int (hpI a) := hp_fvI (by decide +kernel) h
theorem fi_195_33 {z : Nat} {r : Nat → Int} {a : Int} (h : r 33 = a) : hpfv z 195 r 33 = .int (hpI a) := hp_fvI (by decide +kernel) h
theorem fi_195_36 {z : Nat} {r : Nat → Int} {a : Int} (h : r 36 = a) : hpfv z 195 r 36 = .int (hpI a) := hp_fvI (by decide +kernel) h
theorem fi_195_37 {z : Nat} {r : Nat → Int} {a : Int} (h : r 37 = a) : hpfv z 195 r 37 = .int (hpI a) := hp_fvI (by decide +kernel) h
theorem fi_195_39 {z : Nat} {r : Nat → Int} {a : Int} (h : r 39 = a) : hpfv z 195 r 39 = .long (hpJ a) := hp_fvJ (by decide +kernel) h
theorem fi_195_40 {z : Nat} {r : Nat → Int} {a : Int} (h : r 40 = a) : hpfv z 195 r 40 = .long (hpJ a) := hp_fvJ (by decide +kernel) h
theorem fi_195_41 {z : Nat} {r : Nat → Int} {a : Int} (h : r 41 = a) : hpfv z 195 r 41 = .long (hpJ a) := hp_fvJ (by decide +kernel) h
theorem wd_21 : Cond.instanceMethod (⟨"TurfHeaps", "<init>", "()V"⟩ : MethodName) ∈ hpT := hpT_of 21 (by decide +kernel) (by decide +kernel)
theorem wd_22 : Cond.code (⟨"TurfHeaps", "<init>", "()V"⟩ : MethodName) prog_1_method_1_code 2 (none : Option FieldType) ∈ hpT := hpT_of 22 (by decide +kernel) (by decide +kernel)
theorem wd_23 : Cond.methodLink "TurfHeaps" 3 (⟨"java/lang/Object", "<init>", "()V"⟩ : MethodName) ∈ hpT := hpT_of 23 (by decide +kernel) (by decide +kernel)
theorem wd_24 : Cond.instanceMethod (⟨"java/lang/Object", "<init>", "()V"⟩ : MethodName) ∈ hpT := hpT_of 24 (by decide +kernel) (by decide +kernel)
theorem wd_25 : Cond.code (⟨"java/lang/Object", "<init>", "()V"⟩ : MethodName) object_method_1_code 1 (none : Option FieldType) ∈ hpT := hpT_of 25 (by decide +kernel) (by decide +kernel)
theorem wd_26 : Cond.classLink "TurfHeaps" 9 "TurfHeaps$Tape" ∈ hpT := hpT_of 26 (by decide +kernel) (by decide +kernel)
theorem wd_27 : Cond.instantiable "TurfHeaps$Tape" 7 ∈ hpT := hpT_of 27 (by decide +kernel) (by decide +kernel)
theorem wd_29 : Cond.instanceMethod (⟨"TurfHeaps$Tape", "<init>", "()V"⟩ : MethodName) ∈ hpT := hpT_of 29 (by decide +kernel) (by decide +kernel)
theorem wd_30 : Cond.code (⟨"TurfHeaps$Tape", "<init>", "()V"⟩ : MethodName) prog_9_method_1_code 1 (none : Option FieldType) ∈ hpT := hpT_of 30 (by decide +kernel) (by decide +kernel)
theorem wd_31 : Cond.methodLink "TurfHeaps$Tape" 3 (⟨"java/lang/Object", "<init>", "()V"⟩ : MethodName) ∈ hpT := hpT_of 31 (by decide +kernel) (by decide +kernel)
theorem wd_57 : Cond.arrayClass FieldType.byte ∈ hpT := hpT_of 57 (by decide +kernel) (by decide +kernel)
theorem wd_58 : Cond.classLink "TurfHeaps" 16 "TurfHeaps$Moor" ∈ hpT := hpT_of 58 (by decide +kernel) (by decide +kernel)
theorem wd_59 : Cond.instantiable "TurfHeaps$Moor" 13 ∈ hpT := hpT_of 59 (by decide +kernel) (by decide +kernel)
theorem wd_61 : Cond.instanceMethod (⟨"TurfHeaps$Moor", "<init>", "()V"⟩ : MethodName) ∈ hpT := hpT_of 61 (by decide +kernel) (by decide +kernel)
theorem wd_62 : Cond.code (⟨"TurfHeaps$Moor", "<init>", "()V"⟩ : MethodName) prog_3_method_1_code 1 (none : Option FieldType) ∈ hpT := hpT_of 62 (by decide +kernel) (by decide +kernel)
theorem wd_63 : Cond.methodLink "TurfHeaps$Moor" 3 (⟨"java/lang/Object", "<init>", "()V"⟩ : MethodName) ∈ hpT := hpT_of 63 (by decide +kernel) (by decide +kernel)
theorem wd_135 : Cond.arrayClass FieldType.int ∈ hpT := hpT_of 135 (by decide +kernel) (by decide +kernel)
theorem wd_137 : Cond.classLink "TurfHeaps" 30 "TurfHeaps$Slot" ∈ hpT := hpT_of 137 (by decide +kernel) (by decide +kernel)
theorem wd_139 : Cond.classLink "TurfHeaps" 36 "TurfHeaps$Season" ∈ hpT := hpT_of 139 (by decide +kernel) (by decide +kernel)
theorem wd_140 : Cond.instantiable "TurfHeaps$Season" 9 ∈ hpT := hpT_of 140 (by decide +kernel) (by decide +kernel)
theorem wd_142 : Cond.instanceMethod (⟨"TurfHeaps$Season", "<init>", "()V"⟩ : MethodName) ∈ hpT := hpT_of 142 (by decide +kernel) (by decide +kernel)
theorem wd_143 : Cond.code (⟨"TurfHeaps$Season", "<init>", "()V"⟩ : MethodName) prog_6_method_1_code 2 (none : Option FieldType) ∈ hpT := hpT_of 143 (by decide +kernel) (by decide +kernel)
theorem wd_144 : Cond.methodLink "TurfHeaps$Season" 3 (⟨"java/lang/Object", "<init>", "()V"⟩ : MethodName) ∈ hpT := hpT_of 144 (by decide +kernel) (by decide +kernel)
theorem wd_145 : Cond.classLink "TurfHeaps$Season" 9 "TurfHeaps$Row" ∈ hpT := hpT_of 145 (by decide +kernel) (by decide +kernel)
theorem wd_147 : Cond.instantiable "TurfHeaps$Row" 5 ∈ hpT := hpT_of 147 (by decide +kernel) (by decide +kernel)
theorem wd_149 : Cond.instanceMethod (⟨"TurfHeaps$Row", "<init>", "()V"⟩ : MethodName) ∈ hpT := hpT_of 149 (by decide +kernel) (by decide +kernel)
theorem wd_150 : Cond.code (⟨"TurfHeaps$Row", "<init>", "()V"⟩ : MethodName) prog_5_method_1_code 1 (none : Option FieldType) ∈ hpT := hpT_of 150 (by decide +kernel) (by decide +kernel)
theorem wd_151 : Cond.methodLink "TurfHeaps$Row" 3 (⟨"java/lang/Object", "<init>", "()V"⟩ : MethodName) ∈ hpT := hpT_of 151 (by decide +kernel) (by decide +kernel)
theorem wd_215 : Cond.classLink "TurfHeaps" 46 "TurfHeaps$Round" ∈ hpT := hpT_of 215 (by decide +kernel) (by decide +kernel)
theorem wd_216 : Cond.instantiable "TurfHeaps$Round" 6 ∈ hpT := hpT_of 216 (by decide +kernel) (by decide +kernel)
theorem wd_218 : Cond.instanceMethod (⟨"TurfHeaps$Round", "<init>", "()V"⟩ : MethodName) ∈ hpT := hpT_of 218 (by decide +kernel) (by decide +kernel)
theorem wd_219 : Cond.code (⟨"TurfHeaps$Round", "<init>", "()V"⟩ : MethodName) prog_4_method_1_code 1 (none : Option FieldType) ∈ hpT := hpT_of 219 (by decide +kernel) (by decide +kernel)
theorem wd_220 : Cond.methodLink "TurfHeaps$Round" 3 (⟨"java/lang/Object", "<init>", "()V"⟩ : MethodName) ∈ hpT := hpT_of 220 (by decide +kernel) (by decide +kernel)
theorem wd_221 : Cond.classLink "TurfHeaps$Round" 9 "TurfHeaps$Row" ∈ hpT := hpT_of 221 (by decide +kernel) (by decide +kernel)
theorem wd_246 : Cond.classLink "TurfHeaps" 53 "TurfHeaps$Every" ∈ hpT := hpT_of 246 (by decide +kernel) (by decide +kernel)
theorem wd_247 : Cond.instantiable "TurfHeaps$Every" 15 ∈ hpT := hpT_of 247 (by decide +kernel) (by decide +kernel)
theorem wd_249 : Cond.instanceMethod (⟨"TurfHeaps$Every", "<init>", "()V"⟩ : MethodName) ∈ hpT := hpT_of 249 (by decide +kernel) (by decide +kernel)
theorem wd_250 : Cond.code (⟨"TurfHeaps$Every", "<init>", "()V"⟩ : MethodName) prog_2_method_1_code 1 (none : Option FieldType) ∈ hpT := hpT_of 250 (by decide +kernel) (by decide +kernel)
theorem wd_251 : Cond.methodLink "TurfHeaps$Every" 3 (⟨"java/lang/Object", "<init>", "()V"⟩ : MethodName) ∈ hpT := hpT_of 251 (by decide +kernel) (by decide +kernel)
theorem wd_252 : Cond.classLink "TurfHeaps$Every" 34 "TurfHeaps$Row" ∈ hpT := hpT_of 252 (by decide +kernel) (by decide +kernel)
theorem wd_305 : Cond.arrayClass FieldType.long ∈ hpT := hpT_of 305 (by decide +kernel) (by decide +kernel)
theorem wd_306 : Cond.classLink "TurfHeaps" 60 "TurfHeaps$Seen" ∈ hpT := hpT_of 306 (by decide +kernel) (by decide +kernel)
theorem wd_307 : Cond.instantiable "TurfHeaps$Seen" 3 ∈ hpT := hpT_of 307 (by decide +kernel) (by decide +kernel)
theorem wd_309 : Cond.instanceMethod (⟨"TurfHeaps$Seen", "<init>", "()V"⟩ : MethodName) ∈ hpT := hpT_of 309 (by decide +kernel) (by decide +kernel)
theorem wd_310 : Cond.code (⟨"TurfHeaps$Seen", "<init>", "()V"⟩ : MethodName) prog_7_method_1_code 1 (none : Option FieldType) ∈ hpT := hpT_of 310 (by decide +kernel) (by decide +kernel)
theorem wd_311 : Cond.methodLink "TurfHeaps$Seen" 3 (⟨"java/lang/Object", "<init>", "()V"⟩ : MethodName) ∈ hpT := hpT_of 311 (by decide +kernel) (by decide +kernel)
theorem wd_312 : Cond.classLink "TurfHeaps$Seen" 15 "[[I" ∈ hpT := hpT_of 312 (by decide +kernel) (by decide +kernel)
theorem wd_325 : Cond.classLink "TurfHeaps" 67 "TurfHeaps$Row" ∈ hpT := hpT_of 325 (by decide +kernel) (by decide +kernel)
theorem wd_327 : Cond.instantiable "TurfHeaps$Slot" 4 ∈ hpT := hpT_of 327 (by decide +kernel) (by decide +kernel)
theorem wd_329 : Cond.instanceMethod (⟨"TurfHeaps$Slot", "<init>", "()V"⟩ : MethodName) ∈ hpT := hpT_of 329 (by decide +kernel) (by decide +kernel)
theorem wd_330 : Cond.code (⟨"TurfHeaps$Slot", "<init>", "()V"⟩ : MethodName) prog_8_method_1_code 1 (none : Option FieldType) ∈ hpT := hpT_of 330 (by decide +kernel) (by decide +kernel)
theorem wd_331 : Cond.methodLink "TurfHeaps$Slot" 3 (⟨"java/lang/Object", "<init>", "()V"⟩ : MethodName) ∈ hpT := hpT_of 331 (by decide +kernel) (by decide +kernel)
theorem wd_1254 : Cond.instanceMethod (⟨"TurfHeapsModel", "<init>", "()V"⟩ : MethodName) ∈ hpT := hpT_of 1254 (by decide +kernel) (by decide +kernel)
theorem wd_1255 : Cond.code (⟨"TurfHeapsModel", "<init>", "()V"⟩ : MethodName) prog_11_method_1_code 1 (none : Option FieldType) ∈ hpT := hpT_of 1255 (by decide +kernel) (by decide +kernel)
theorem wd_1256 : Cond.methodLink "TurfHeapsModel" 3 (⟨"java/lang/Object", "<init>", "()V"⟩ : MethodName) ∈ hpT := hpT_of 1256 (by decide +kernel) (by decide +kernel)
theorem wd_1395 : Cond.arrayClass FieldType.boolean ∈ hpT := hpT_of 1395 (by decide +kernel) (by decide +kernel)
theorem nw_28 {s : State} (h : hpN s) : va_Nw (Cond.methodLinkNest "TurfHeaps" 11 (⟨"TurfHeaps$Tape", "<init>", "()V"⟩ : MethodName) "TurfHeaps") s := hpN_of 28 (by decide +kernel) (by decide +kernel) h
theorem nw_60 {s : State} (h : hpN s) : va_Nw (Cond.methodLinkNest "TurfHeaps" 18 (⟨"TurfHeaps$Moor", "<init>", "()V"⟩ : MethodName) "TurfHeaps") s := hpN_of 60 (by decide +kernel) (by decide +kernel) h
theorem nw_141 {s : State} (h : hpN s) : va_Nw (Cond.methodLinkNest "TurfHeaps" 38 (⟨"TurfHeaps$Season", "<init>", "()V"⟩ : MethodName) "TurfHeaps") s := hpN_of 141 (by decide +kernel) (by decide +kernel) h
theorem nw_148 {s : State} (h : hpN s) : va_Nw (Cond.methodLinkNest "TurfHeaps$Season" 17 (⟨"TurfHeaps$Row", "<init>", "()V"⟩ : MethodName) "TurfHeaps") s := hpN_of 148 (by decide +kernel) (by decide +kernel) h
theorem nw_217 {s : State} (h : hpN s) : va_Nw (Cond.methodLinkNest "TurfHeaps" 48 (⟨"TurfHeaps$Round", "<init>", "()V"⟩ : MethodName) "TurfHeaps") s := hpN_of 217 (by decide +kernel) (by decide +kernel) h
theorem nw_222 {s : State} (h : hpN s) : va_Nw (Cond.methodLinkNest "TurfHeaps$Round" 11 (⟨"TurfHeaps$Row", "<init>", "()V"⟩ : MethodName) "TurfHeaps") s := hpN_of 222 (by decide +kernel) (by decide +kernel) h
theorem nw_248 {s : State} (h : hpN s) : va_Nw (Cond.methodLinkNest "TurfHeaps" 55 (⟨"TurfHeaps$Every", "<init>", "()V"⟩ : MethodName) "TurfHeaps") s := hpN_of 248 (by decide +kernel) (by decide +kernel) h
theorem nw_253 {s : State} (h : hpN s) : va_Nw (Cond.methodLinkNest "TurfHeaps$Every" 36 (⟨"TurfHeaps$Row", "<init>", "()V"⟩ : MethodName) "TurfHeaps") s := hpN_of 253 (by decide +kernel) (by decide +kernel) h
theorem nw_308 {s : State} (h : hpN s) : va_Nw (Cond.methodLinkNest "TurfHeaps" 62 (⟨"TurfHeaps$Seen", "<init>", "()V"⟩ : MethodName) "TurfHeaps") s := hpN_of 308 (by decide +kernel) (by decide +kernel) h
theorem nw_326 {s : State} (h : hpN s) : va_Nw (Cond.methodLinkNest "TurfHeaps" 69 (⟨"TurfHeaps$Row", "<init>", "()V"⟩ : MethodName) "TurfHeaps") s := hpN_of 326 (by decide +kernel) (by decide +kernel) h
theorem nw_328 {s : State} (h : hpN s) : va_Nw (Cond.methodLinkNest "TurfHeaps" 85 (⟨"TurfHeaps$Slot", "<init>", "()V"⟩ : MethodName) "TurfHeaps") s := hpN_of 328 (by decide +kernel) (by decide +kernel) h
theorem hp_ne {E : Nat → va_E} {k j : Nat} {x : va_E} (h : j ≠ k) : va_up E k x j = E j := by simp [va_up, h]
theorem hp_at {E : Nat → va_E} {k : Nat} {x : va_E} : va_up E k x k = x := by simp [va_up]
theorem hp0_z {k i : Nat} (h0 : k ≠ 0) (h1 : k ≠ 1) (h2 : k ≠ 130) (h3 : k ≠ 195) (h4 : k ≠ 213) : hp0 k i = 0 := by
  unfold hp0
  rw [if_neg (by omega), if_neg (by omega), if_neg (by omega), if_neg (by omega), if_neg (by omega)]
theorem bl_0 : ∀ j, j < 15 → defaultValue (tyX0 j) = vp_V [.null, .null, .null, .null, .null, .null, .null, .null, .int (hpI 0), .int (hpI 0), .int (hpI 0), .int (hpI 0), .int (hpI 0), .int (hpI 0), .int (hpI 0)] j := fun j hj => by
  rcases (show j = 0 ∨ j = 1 ∨ j = 2 ∨ j = 3 ∨ j = 4 ∨ j = 5 ∨ j = 6 ∨ j = 7 ∨ j = 8 ∨ j = 9 ∨ j = 10 ∨ j = 11 ∨ j = 12 ∨ j = 13 ∨ j = 14 by omega) with rfl | rfl | rfl | rfl | rfl | rfl | rfl | rfl | rfl | rfl | rfl | rfl | rfl | rfl | rfl <;> rfl
theorem bl_1 : ∀ j, j < 13 → defaultValue (tyX1 j) = vp_V [.null, .null, .null, .null, .null, .int (hpI 0), .int (hpI 0), .int (hpI 0), .int (hpI 0), .int (hpI 0), .int (hpI 0), .int (hpI 0), .int (hpI 0)] j := fun j hj => by
  rcases (show j = 0 ∨ j = 1 ∨ j = 2 ∨ j = 3 ∨ j = 4 ∨ j = 5 ∨ j = 6 ∨ j = 7 ∨ j = 8 ∨ j = 9 ∨ j = 10 ∨ j = 11 ∨ j = 12 by omega) with rfl | rfl | rfl | rfl | rfl | rfl | rfl | rfl | rfl | rfl | rfl | rfl | rfl <;> rfl
theorem bl_2 : ∀ j, j < 6 → defaultValue (tyX2 j) = vp_V [.null, .null, .int (hpI 0), .int (hpI 0), .int (hpI 0), .int (hpI 0)] j := fun j hj => by
  rcases (show j = 0 ∨ j = 1 ∨ j = 2 ∨ j = 3 ∨ j = 4 ∨ j = 5 by omega) with rfl | rfl | rfl | rfl | rfl | rfl <;> rfl
theorem bl_3 : ∀ j, j < 5 → defaultValue (tyX3 j) = vp_V [.null, .null, .int (hpI 0), .int (hpI 0), .int (hpI 0)] j := fun j hj => by
  rcases (show j = 0 ∨ j = 1 ∨ j = 2 ∨ j = 3 ∨ j = 4 by omega) with rfl | rfl | rfl | rfl | rfl <;> rfl
theorem bl_4 : ∀ j, j < 9 → defaultValue (tyX4 j) = vp_V [.null, .int (hpI 0), .int (hpI 0), .int (hpI 0), .int (hpI 0), .int (hpI 0), .int (hpI 0), .int (hpI 0), .int (hpI 0)] j := fun j hj => by
  rcases (show j = 0 ∨ j = 1 ∨ j = 2 ∨ j = 3 ∨ j = 4 ∨ j = 5 ∨ j = 6 ∨ j = 7 ∨ j = 8 by omega) with rfl | rfl | rfl | rfl | rfl | rfl | rfl | rfl | rfl <;> rfl
theorem bl_5 : ∀ j, j < 3 → defaultValue (tyX5 j) = vp_V [.null, .null, .int (hpI 0)] j := fun j hj => by
  rcases (show j = 0 ∨ j = 1 ∨ j = 2 by omega) with rfl | rfl | rfl <;> rfl
theorem bl_6 : ∀ j, j < 4 → defaultValue (tyX6 j) = vp_V [.null, .int (hpI 0), .int (hpI 0), .int (hpI 0)] j := fun j hj => by
  rcases (show j = 0 ∨ j = 1 ∨ j = 2 ∨ j = 3 by omega) with rfl | rfl | rfl | rfl <;> rfl
theorem bl_7 : ∀ j, j < 7 → defaultValue (tyX7 j) = vp_V [.null, .int (hpI 0), .int (hpI 0), .int (hpI 0), .int (hpI 0), .int (hpI 0), .int (hpI 0)] j := fun j hj => by
  rcases (show j = 0 ∨ j = 1 ∨ j = 2 ∨ j = 3 ∨ j = 4 ∨ j = 5 ∨ j = 6 by omega) with rfl | rfl | rfl | rfl | rfl | rfl | rfl <;> rfl
theorem bl_8 : ∀ j, j < 16 → defaultValue (tyX8 j) = vp_V [.null, .null, .null, .null, .null, .null, .null, .null, .null, .null, .null, .null, .null, .int (hpI 0), .int (hpI 0), .int (hpI 0)] j := fun j hj => by
  rcases (show j = 0 ∨ j = 1 ∨ j = 2 ∨ j = 3 ∨ j = 4 ∨ j = 5 ∨ j = 6 ∨ j = 7 ∨ j = 8 ∨ j = 9 ∨ j = 10 ∨ j = 11 ∨ j = 12 ∨ j = 13 ∨ j = 14 ∨ j = 15 by omega) with rfl | rfl | rfl | rfl | rfl | rfl | rfl | rfl | rfl | rfl | rfl | rfl | rfl | rfl | rfl | rfl <;> rfl
theorem bl_9 : ∀ j, j < 46 → defaultValue (tyX9 j) = vp_V (.int (hpI 0) :: .null :: .null :: .null :: .null :: .int (hpI 0) :: .null :: .int (hpI 0) :: .int (hpI 0) :: .int (hpI 0) :: .int (hpI 0) :: .int (hpI 0) :: .int (hpI 0) :: .int (hpI 0) :: .null :: .null :: .int (hpI 0) :: .int (hpI 0) :: .int (hpI 0) :: .null :: .null :: .int (hpI 0) :: .int (hpI 0) :: .int (hpI 0) :: .int (hpI 0) :: .null :: .null :: .int (hpI 0) :: .int (hpI 0) :: .null :: .null :: .null :: .int (hpI 0) :: .int (hpI 0) :: .null :: .null :: .int (hpI 0) :: .int (hpI 0) :: .null :: .long (hpJ 0) :: .long (hpJ 0) :: .long (hpJ 0) :: .null :: .null :: .null :: .null :: []) j := fun j hj => by
  rcases (show j = 0 ∨ j = 1 ∨ j = 2 ∨ j = 3 ∨ j = 4 ∨ j = 5 ∨ j = 6 ∨ j = 7 ∨ j = 8 ∨ j = 9 ∨ j = 10 ∨ j = 11 ∨ j = 12 ∨ j = 13 ∨ j = 14 ∨ j = 15 ∨ j = 16 ∨ j = 17 ∨ j = 18 ∨ j = 19 ∨ j = 20 ∨ j = 21 ∨ j = 22 ∨ j = 23 ∨ j = 24 ∨ j = 25 ∨ j = 26 ∨ j = 27 ∨ j = 28 ∨ j = 29 ∨ j = 30 ∨ j = 31 ∨ j = 32 ∨ j = 33 ∨ j = 34 ∨ j = 35 ∨ j = 36 ∨ j = 37 ∨ j = 38 ∨ j = 39 ∨ j = 40 ∨ j = 41 ∨ j = 42 ∨ j = 43 ∨ j = 44 ∨ j = 45 by omega) with rfl | rfl | rfl | rfl | rfl | rfl | rfl | rfl | rfl | rfl | rfl | rfl | rfl | rfl | rfl | rfl | rfl | rfl | rfl | rfl | rfl | rfl | rfl | rfl | rfl | rfl | rfl | rfl | rfl | rfl | rfl | rfl | rfl | rfl | rfl | rfl | rfl | rfl | rfl | rfl | rfl | rfl | rfl | rfl | rfl | rfl <;> rfl
set_option maxRecDepth 20000 in
theorem eo_0 {z : Nat} {cy : Nat → ClassId} : hpE z cy 0 (hp0 0) = .inr (8, [.ref (z + 1), .ref (z + 3), .ref (z + 9), .ref (z + 15), .ref (z + 16), .ref (z + 17), .ref (z + 70), .ref (z + 123), .ref (z + 130), .ref (z + 141), .ref (z + 164), .ref (z + 167), .ref (z + 168), .int (hpI 0), .int (hpI 0), .int (hpI (-1))]) := by
  rw [hpE_o kd_0 (by decide), show hpnf 8 = 16 by decide +kernel]
  show (.inr (8, [hpfv z 0 (hp0 0) 0, hpfv z 0 (hp0 0) 1, hpfv z 0 (hp0 0) 2, hpfv z 0 (hp0 0) 3, hpfv z 0 (hp0 0) 4, hpfv z 0 (hp0 0) 5, hpfv z 0 (hp0 0) 6, hpfv z 0 (hp0 0) 7, hpfv z 0 (hp0 0) 8, hpfv z 0 (hp0 0) 9, hpfv z 0 (hp0 0) 10, hpfv z 0 (hp0 0) 11, hpfv z 0 (hp0 0) 12, hpfv z 0 (hp0 0) 13, hpfv z 0 (hp0 0) 14, hpfv z 0 (hp0 0) 15]) : va_E) = _
  rw [fr_0_0, fr_0_1, fr_0_2, fr_0_3, fr_0_4, fr_0_5, fr_0_6, fr_0_7, fr_0_8, fr_0_9, fr_0_10, fr_0_11, fr_0_12, fi_0_13 (r := hp0 0) (a := 0) rfl, fi_0_14 (r := hp0 0) (a := 0) rfl, fi_0_15 (r := hp0 0) (a := (-1)) rfl]
set_option maxRecDepth 20000 in
theorem eo_1 {z : Nat} {cy : Nat → ClassId} : hpE z cy 1 (hp0 1) = .inr (7, [.ref (z + 2), .int (hpI 0), .int (hpI 0), .int (hpI (-1)), .int (hpI 0), .int (hpI 0), .int (hpI 0)]) := by
  rw [hpE_o kd_1 (by decide), show hpnf 7 = 7 by decide +kernel]
  show (.inr (7, [hpfv z 1 (hp0 1) 0, hpfv z 1 (hp0 1) 1, hpfv z 1 (hp0 1) 2, hpfv z 1 (hp0 1) 3, hpfv z 1 (hp0 1) 4, hpfv z 1 (hp0 1) 5, hpfv z 1 (hp0 1) 6]) : va_E) = _
  rw [fr_1_0, fi_1_1 (r := hp0 1) (a := 0) rfl, fi_1_2 (r := hp0 1) (a := 0) rfl, fi_1_3 (r := hp0 1) (a := (-1)) rfl, fi_1_4 (r := hp0 1) (a := 0) rfl, fi_1_5 (r := hp0 1) (a := 0) rfl, fi_1_6 (r := hp0 1) (a := 0) rfl]
theorem az_2 (cA : ClassId) : vp_cell cA (500, .inl (fun i => hpI (hp0 2 i))) = arrV cA 500 (fun _ => defaultValue .byte) := by
  rw [vp_cell_i]
  exact congrArg (arrV cA 500) (funext fun i => by rw [hp0_z (by decide) (by decide) (by decide) (by decide) (by decide)]; rfl)
theorem ea_2 {z : Nat} {cy : Nat → ClassId} : hpE z cy 2 (hp0 2) = .inl (cy 10, 500, .inl (fun i => hpI (hp0 2 i))) := by rw [hpE_i kd_2 (by decide), ln_2]
set_option maxRecDepth 20000 in
theorem eo_3 {z : Nat} {cy : Nat → ClassId} : hpE z cy 3 (hp0 3) = .inr (1, [.ref (z + 4), .ref (z + 5), .ref (z + 6), .ref (z + 7), .ref (z + 8), .int (hpI 0), .int (hpI 0), .int (hpI 0), .int (hpI 0), .int (hpI 0), .int (hpI 0), .int (hpI 0), .int (hpI 0)]) := by
  rw [hpE_o kd_3 (by decide), show hpnf 1 = 13 by decide +kernel]
  show (.inr (1, [hpfv z 3 (hp0 3) 0, hpfv z 3 (hp0 3) 1, hpfv z 3 (hp0 3) 2, hpfv z 3 (hp0 3) 3, hpfv z 3 (hp0 3) 4, hpfv z 3 (hp0 3) 5, hpfv z 3 (hp0 3) 6, hpfv z 3 (hp0 3) 7, hpfv z 3 (hp0 3) 8, hpfv z 3 (hp0 3) 9, hpfv z 3 (hp0 3) 10, hpfv z 3 (hp0 3) 11, hpfv z 3 (hp0 3) 12]) : va_E) = _
  rw [fr_3_0, fr_3_1, fr_3_2, fr_3_3, fr_3_4, fi_3_5 (r := hp0 3) (a := 0) rfl, fi_3_6 (r := hp0 3) (a := 0) rfl, fi_3_7 (r := hp0 3) (a := 0) rfl, fi_3_8 (r := hp0 3) (a := 0) rfl, fi_3_9 (r := hp0 3) (a := 0) rfl, fi_3_10 (r := hp0 3) (a := 0) rfl, fi_3_11 (r := hp0 3) (a := 0) rfl, fi_3_12 (r := hp0 3) (a := 0) rfl]
theorem az_4 (cA : ClassId) : vp_cell cA (8, .inl (fun i => hpI (hp0 4 i))) = arrV cA 8 (fun _ => defaultValue .int) := by
  rw [vp_cell_i]
  exact congrArg (arrV cA 8) (funext fun i => by rw [hp0_z (by decide) (by decide) (by decide) (by decide) (by decide)]; rfl)
theorem ea_4 {z : Nat} {cy : Nat → ClassId} : hpE z cy 4 (hp0 4) = .inl (cy 11, 8, .inl (fun i => hpI (hp0 4 i))) := by rw [hpE_i kd_4 (by decide), ln_4]
theorem az_5 (cA : ClassId) : vp_cell cA (6, .inl (fun i => hpI (hp0 5 i))) = arrV cA 6 (fun _ => defaultValue .int) := by
  rw [vp_cell_i]
  exact congrArg (arrV cA 6) (funext fun i => by rw [hp0_z (by decide) (by decide) (by decide) (by decide) (by decide)]; rfl)
theorem ea_5 {z : Nat} {cy : Nat → ClassId} : hpE z cy 5 (hp0 5) = .inl (cy 11, 6, .inl (fun i => hpI (hp0 5 i))) := by rw [hpE_i kd_5 (by decide), ln_5]
theorem az_6 (cA : ClassId) : vp_cell cA (6, .inl (fun i => hpI (hp0 6 i))) = arrV cA 6 (fun _ => defaultValue .int) := by
  rw [vp_cell_i]
  exact congrArg (arrV cA 6) (funext fun i => by rw [hp0_z (by decide) (by decide) (by decide) (by decide) (by decide)]; rfl)
theorem ea_6 {z : Nat} {cy : Nat → ClassId} : hpE z cy 6 (hp0 6) = .inl (cy 11, 6, .inl (fun i => hpI (hp0 6 i))) := by rw [hpE_i kd_6 (by decide), ln_6]
theorem az_7 (cA : ClassId) : vp_cell cA (20, .inl (fun i => hpI (hp0 7 i))) = arrV cA 20 (fun _ => defaultValue .int) := by
  rw [vp_cell_i]
  exact congrArg (arrV cA 20) (funext fun i => by rw [hp0_z (by decide) (by decide) (by decide) (by decide) (by decide)]; rfl)
theorem ea_7 {z : Nat} {cy : Nat → ClassId} : hpE z cy 7 (hp0 7) = .inl (cy 11, 20, .inl (fun i => hpI (hp0 7 i))) := by rw [hpE_i kd_7 (by decide), ln_7]
theorem az_8 (cA : ClassId) : vp_cell cA (20, .inl (fun i => hpI (hp0 8 i))) = arrV cA 20 (fun _ => defaultValue .int) := by
  rw [vp_cell_i]
  exact congrArg (arrV cA 20) (funext fun i => by rw [hp0_z (by decide) (by decide) (by decide) (by decide) (by decide)]; rfl)
theorem ea_8 {z : Nat} {cy : Nat → ClassId} : hpE z cy 8 (hp0 8) = .inl (cy 11, 20, .inl (fun i => hpI (hp0 8 i))) := by rw [hpE_i kd_8 (by decide), ln_8]
set_option maxRecDepth 20000 in
theorem eo_9 {z : Nat} {cy : Nat → ClassId} : hpE z cy 9 (hp0 9) = .inr (1, [.ref (z + 10), .ref (z + 11), .ref (z + 12), .ref (z + 13), .ref (z + 14), .int (hpI 0), .int (hpI 0), .int (hpI 0), .int (hpI 0), .int (hpI 0), .int (hpI 0), .int (hpI 0), .int (hpI 0)]) := by
  rw [hpE_o kd_9 (by decide), show hpnf 1 = 13 by decide +kernel]
  show (.inr (1, [hpfv z 9 (hp0 9) 0, hpfv z 9 (hp0 9) 1, hpfv z 9 (hp0 9) 2, hpfv z 9 (hp0 9) 3, hpfv z 9 (hp0 9) 4, hpfv z 9 (hp0 9) 5, hpfv z 9 (hp0 9) 6, hpfv z 9 (hp0 9) 7, hpfv z 9 (hp0 9) 8, hpfv z 9 (hp0 9) 9, hpfv z 9 (hp0 9) 10, hpfv z 9 (hp0 9) 11, hpfv z 9 (hp0 9) 12]) : va_E) = _
  rw [fr_9_0, fr_9_1, fr_9_2, fr_9_3, fr_9_4, fi_9_5 (r := hp0 9) (a := 0) rfl, fi_9_6 (r := hp0 9) (a := 0) rfl, fi_9_7 (r := hp0 9) (a := 0) rfl, fi_9_8 (r := hp0 9) (a := 0) rfl, fi_9_9 (r := hp0 9) (a := 0) rfl, fi_9_10 (r := hp0 9) (a := 0) rfl, fi_9_11 (r := hp0 9) (a := 0) rfl, fi_9_12 (r := hp0 9) (a := 0) rfl]
theorem az_10 (cA : ClassId) : vp_cell cA (8, .inl (fun i => hpI (hp0 10 i))) = arrV cA 8 (fun _ => defaultValue .int) := by
  rw [vp_cell_i]
  exact congrArg (arrV cA 8) (funext fun i => by rw [hp0_z (by decide) (by decide) (by decide) (by decide) (by decide)]; rfl)
theorem ea_10 {z : Nat} {cy : Nat → ClassId} : hpE z cy 10 (hp0 10) = .inl (cy 11, 8, .inl (fun i => hpI (hp0 10 i))) := by rw [hpE_i kd_10 (by decide), ln_10]
theorem az_11 (cA : ClassId) : vp_cell cA (6, .inl (fun i => hpI (hp0 11 i))) = arrV cA 6 (fun _ => defaultValue .int) := by
  rw [vp_cell_i]
  exact congrArg (arrV cA 6) (funext fun i => by rw [hp0_z (by decide) (by decide) (by decide) (by decide) (by decide)]; rfl)
theorem ea_11 {z : Nat} {cy : Nat → ClassId} : hpE z cy 11 (hp0 11) = .inl (cy 11, 6, .inl (fun i => hpI (hp0 11 i))) := by rw [hpE_i kd_11 (by decide), ln_11]
theorem az_12 (cA : ClassId) : vp_cell cA (6, .inl (fun i => hpI (hp0 12 i))) = arrV cA 6 (fun _ => defaultValue .int) := by
  rw [vp_cell_i]
  exact congrArg (arrV cA 6) (funext fun i => by rw [hp0_z (by decide) (by decide) (by decide) (by decide) (by decide)]; rfl)
theorem ea_12 {z : Nat} {cy : Nat → ClassId} : hpE z cy 12 (hp0 12) = .inl (cy 11, 6, .inl (fun i => hpI (hp0 12 i))) := by rw [hpE_i kd_12 (by decide), ln_12]
theorem az_13 (cA : ClassId) : vp_cell cA (20, .inl (fun i => hpI (hp0 13 i))) = arrV cA 20 (fun _ => defaultValue .int) := by
  rw [vp_cell_i]
  exact congrArg (arrV cA 20) (funext fun i => by rw [hp0_z (by decide) (by decide) (by decide) (by decide) (by decide)]; rfl)
theorem ea_13 {z : Nat} {cy : Nat → ClassId} : hpE z cy 13 (hp0 13) = .inl (cy 11, 20, .inl (fun i => hpI (hp0 13 i))) := by rw [hpE_i kd_13 (by decide), ln_13]
theorem az_14 (cA : ClassId) : vp_cell cA (20, .inl (fun i => hpI (hp0 14 i))) = arrV cA 20 (fun _ => defaultValue .int) := by
  rw [vp_cell_i]
  exact congrArg (arrV cA 20) (funext fun i => by rw [hp0_z (by decide) (by decide) (by decide) (by decide) (by decide)]; rfl)
theorem ea_14 {z : Nat} {cy : Nat → ClassId} : hpE z cy 14 (hp0 14) = .inl (cy 11, 20, .inl (fun i => hpI (hp0 14 i))) := by rw [hpE_i kd_14 (by decide), ln_14]
theorem ea_15 {z : Nat} {cy : Nat → ClassId} : hpE z cy 15 (hp0 15) = .inl (cy 14, 3, .inr (.inr (.inr (.inr (fun i => some (z + hprf 15 i)))))) := by rw [hpE_q kd_15 (by decide), ln_15]
theorem ea_16 {z : Nat} {cy : Nat → ClassId} : hpE z cy 16 (hp0 16) = .inl (cy 16, 4, .inr (.inr (.inr (.inr (fun i => some (z + hprf 16 i)))))) := by rw [hpE_q kd_16 (by decide), ln_16]
set_option maxRecDepth 20000 in
theorem eo_17 {z : Nat} {cy : Nat → ClassId} : hpE z cy 17 (hp0 17) = .inr (4, [.ref (z + 18), .int (hpI 0), .int (hpI 0), .int (hpI 0), .int (hpI 0), .int (hpI 0), .int (hpI 0), .int (hpI 0), .int (hpI 0)]) := by
  rw [hpE_o kd_17 (by decide), show hpnf 4 = 9 by decide +kernel]
  show (.inr (4, [hpfv z 17 (hp0 17) 0, hpfv z 17 (hp0 17) 1, hpfv z 17 (hp0 17) 2, hpfv z 17 (hp0 17) 3, hpfv z 17 (hp0 17) 4, hpfv z 17 (hp0 17) 5, hpfv z 17 (hp0 17) 6, hpfv z 17 (hp0 17) 7, hpfv z 17 (hp0 17) 8]) : va_E) = _
  rw [fr_17_0, fi_17_1 (r := hp0 17) (a := 0) rfl, fi_17_2 (r := hp0 17) (a := 0) rfl, fi_17_3 (r := hp0 17) (a := 0) rfl, fi_17_4 (r := hp0 17) (a := 0) rfl, fi_17_5 (r := hp0 17) (a := 0) rfl, fi_17_6 (r := hp0 17) (a := 0) rfl, fi_17_7 (r := hp0 17) (a := 0) rfl, fi_17_8 (r := hp0 17) (a := 0) rfl]
theorem ea_18 {z : Nat} {cy : Nat → ClassId} : hpE z cy 18 (hp0 18) = .inl (cy 15, 17, .inr (.inr (.inr (.inr (fun i => some (z + hprf 18 i)))))) := by rw [hpE_q kd_18 (by decide), ln_18]
set_option maxRecDepth 20000 in
theorem eo_19 {z : Nat} {cy : Nat → ClassId} : hpE z cy 19 (hp0 19) = .inr (3, [.ref (z + 20), .ref (z + 21), .int (hpI 0), .int (hpI 0), .int (hpI 0)]) := by
  rw [hpE_o kd_19 (by decide), show hpnf 3 = 5 by decide +kernel]
  show (.inr (3, [hpfv z 19 (hp0 19) 0, hpfv z 19 (hp0 19) 1, hpfv z 19 (hp0 19) 2, hpfv z 19 (hp0 19) 3, hpfv z 19 (hp0 19) 4]) : va_E) = _
  rw [fr_19_0, fr_19_1, fi_19_2 (r := hp0 19) (a := 0) rfl, fi_19_3 (r := hp0 19) (a := 0) rfl, fi_19_4 (r := hp0 19) (a := 0) rfl]
theorem az_20 (cA : ClassId) : vp_cell cA (40, .inl (fun i => hpI (hp0 20 i))) = arrV cA 40 (fun _ => defaultValue .int) := by
  rw [vp_cell_i]
  exact congrArg (arrV cA 40) (funext fun i => by rw [hp0_z (by decide) (by decide) (by decide) (by decide) (by decide)]; rfl)
theorem ea_20 {z : Nat} {cy : Nat → ClassId} : hpE z cy 20 (hp0 20) = .inl (cy 11, 40, .inl (fun i => hpI (hp0 20 i))) := by rw [hpE_i kd_20 (by decide), ln_20]
theorem az_21 (cA : ClassId) : vp_cell cA (40, .inl (fun i => hpI (hp0 21 i))) = arrV cA 40 (fun _ => defaultValue .int) := by
  rw [vp_cell_i]
  exact congrArg (arrV cA 40) (funext fun i => by rw [hp0_z (by decide) (by decide) (by decide) (by decide) (by decide)]; rfl)
theorem ea_21 {z : Nat} {cy : Nat → ClassId} : hpE z cy 21 (hp0 21) = .inl (cy 11, 40, .inl (fun i => hpI (hp0 21 i))) := by rw [hpE_i kd_21 (by decide), ln_21]
set_option maxRecDepth 20000 in
theorem eo_22 {z : Nat} {cy : Nat → ClassId} : hpE z cy 22 (hp0 22) = .inr (3, [.ref (z + 23), .ref (z + 24), .int (hpI 0), .int (hpI 0), .int (hpI 0)]) := by
  rw [hpE_o kd_22 (by decide), show hpnf 3 = 5 by decide +kernel]
  show (.inr (3, [hpfv z 22 (hp0 22) 0, hpfv z 22 (hp0 22) 1, hpfv z 22 (hp0 22) 2, hpfv z 22 (hp0 22) 3, hpfv z 22 (hp0 22) 4]) : va_E) = _
  rw [fr_22_0, fr_22_1, fi_22_2 (r := hp0 22) (a := 0) rfl, fi_22_3 (r := hp0 22) (a := 0) rfl, fi_22_4 (r := hp0 22) (a := 0) rfl]
theorem az_23 (cA : ClassId) : vp_cell cA (40, .inl (fun i => hpI (hp0 23 i))) = arrV cA 40 (fun _ => defaultValue .int) := by
  rw [vp_cell_i]
  exact congrArg (arrV cA 40) (funext fun i => by rw [hp0_z (by decide) (by decide) (by decide) (by decide) (by decide)]; rfl)
theorem ea_23 {z : Nat} {cy : Nat → ClassId} : hpE z cy 23 (hp0 23) = .inl (cy 11, 40, .inl (fun i => hpI (hp0 23 i))) := by rw [hpE_i kd_23 (by decide), ln_23]
theorem az_24 (cA : ClassId) : vp_cell cA (40, .inl (fun i => hpI (hp0 24 i))) = arrV cA 40 (fun _ => defaultValue .int) := by
  rw [vp_cell_i]
  exact congrArg (arrV cA 40) (funext fun i => by rw [hp0_z (by decide) (by decide) (by decide) (by decide) (by decide)]; rfl)
theorem ea_24 {z : Nat} {cy : Nat → ClassId} : hpE z cy 24 (hp0 24) = .inl (cy 11, 40, .inl (fun i => hpI (hp0 24 i))) := by rw [hpE_i kd_24 (by decide), ln_24]
set_option maxRecDepth 20000 in
theorem eo_25 {z : Nat} {cy : Nat → ClassId} : hpE z cy 25 (hp0 25) = .inr (3, [.ref (z + 26), .ref (z + 27), .int (hpI 0), .int (hpI 0), .int (hpI 0)]) := by
  rw [hpE_o kd_25 (by decide), show hpnf 3 = 5 by decide +kernel]
  show (.inr (3, [hpfv z 25 (hp0 25) 0, hpfv z 25 (hp0 25) 1, hpfv z 25 (hp0 25) 2, hpfv z 25 (hp0 25) 3, hpfv z 25 (hp0 25) 4]) : va_E) = _
  rw [fr_25_0, fr_25_1, fi_25_2 (r := hp0 25) (a := 0) rfl, fi_25_3 (r := hp0 25) (a := 0) rfl, fi_25_4 (r := hp0 25) (a := 0) rfl]
theorem az_26 (cA : ClassId) : vp_cell cA (40, .inl (fun i => hpI (hp0 26 i))) = arrV cA 40 (fun _ => defaultValue .int) := by
  rw [vp_cell_i]
  exact congrArg (arrV cA 40) (funext fun i => by rw [hp0_z (by decide) (by decide) (by decide) (by decide) (by decide)]; rfl)
theorem ea_26 {z : Nat} {cy : Nat → ClassId} : hpE z cy 26 (hp0 26) = .inl (cy 11, 40, .inl (fun i => hpI (hp0 26 i))) := by rw [hpE_i kd_26 (by decide), ln_26]
theorem az_27 (cA : ClassId) : vp_cell cA (40, .inl (fun i => hpI (hp0 27 i))) = arrV cA 40 (fun _ => defaultValue .int) := by
  rw [vp_cell_i]
  exact congrArg (arrV cA 40) (funext fun i => by rw [hp0_z (by decide) (by decide) (by decide) (by decide) (by decide)]; rfl)
theorem ea_27 {z : Nat} {cy : Nat → ClassId} : hpE z cy 27 (hp0 27) = .inl (cy 11, 40, .inl (fun i => hpI (hp0 27 i))) := by rw [hpE_i kd_27 (by decide), ln_27]
set_option maxRecDepth 20000 in
theorem eo_28 {z : Nat} {cy : Nat → ClassId} : hpE z cy 28 (hp0 28) = .inr (3, [.ref (z + 29), .ref (z + 30), .int (hpI 0), .int (hpI 0), .int (hpI 0)]) := by
  rw [hpE_o kd_28 (by decide), show hpnf 3 = 5 by decide +kernel]
  show (.inr (3, [hpfv z 28 (hp0 28) 0, hpfv z 28 (hp0 28) 1, hpfv z 28 (hp0 28) 2, hpfv z 28 (hp0 28) 3, hpfv z 28 (hp0 28) 4]) : va_E) = _
  rw [fr_28_0, fr_28_1, fi_28_2 (r := hp0 28) (a := 0) rfl, fi_28_3 (r := hp0 28) (a := 0) rfl, fi_28_4 (r := hp0 28) (a := 0) rfl]
theorem az_29 (cA : ClassId) : vp_cell cA (40, .inl (fun i => hpI (hp0 29 i))) = arrV cA 40 (fun _ => defaultValue .int) := by
  rw [vp_cell_i]
  exact congrArg (arrV cA 40) (funext fun i => by rw [hp0_z (by decide) (by decide) (by decide) (by decide) (by decide)]; rfl)
theorem ea_29 {z : Nat} {cy : Nat → ClassId} : hpE z cy 29 (hp0 29) = .inl (cy 11, 40, .inl (fun i => hpI (hp0 29 i))) := by rw [hpE_i kd_29 (by decide), ln_29]
theorem az_30 (cA : ClassId) : vp_cell cA (40, .inl (fun i => hpI (hp0 30 i))) = arrV cA 40 (fun _ => defaultValue .int) := by
  rw [vp_cell_i]
  exact congrArg (arrV cA 40) (funext fun i => by rw [hp0_z (by decide) (by decide) (by decide) (by decide) (by decide)]; rfl)
theorem ea_30 {z : Nat} {cy : Nat → ClassId} : hpE z cy 30 (hp0 30) = .inl (cy 11, 40, .inl (fun i => hpI (hp0 30 i))) := by rw [hpE_i kd_30 (by decide), ln_30]
set_option maxRecDepth 20000 in
theorem eo_31 {z : Nat} {cy : Nat → ClassId} : hpE z cy 31 (hp0 31) = .inr (3, [.ref (z + 32), .ref (z + 33), .int (hpI 0), .int (hpI 0), .int (hpI 0)]) := by
  rw [hpE_o kd_31 (by decide), show hpnf 3 = 5 by decide +kernel]
  show (.inr (3, [hpfv z 31 (hp0 31) 0, hpfv z 31 (hp0 31) 1, hpfv z 31 (hp0 31) 2, hpfv z 31 (hp0 31) 3, hpfv z 31 (hp0 31) 4]) : va_E) = _
  rw [fr_31_0, fr_31_1, fi_31_2 (r := hp0 31) (a := 0) rfl, fi_31_3 (r := hp0 31) (a := 0) rfl, fi_31_4 (r := hp0 31) (a := 0) rfl]
theorem az_32 (cA : ClassId) : vp_cell cA (40, .inl (fun i => hpI (hp0 32 i))) = arrV cA 40 (fun _ => defaultValue .int) := by
  rw [vp_cell_i]
  exact congrArg (arrV cA 40) (funext fun i => by rw [hp0_z (by decide) (by decide) (by decide) (by decide) (by decide)]; rfl)
theorem ea_32 {z : Nat} {cy : Nat → ClassId} : hpE z cy 32 (hp0 32) = .inl (cy 11, 40, .inl (fun i => hpI (hp0 32 i))) := by rw [hpE_i kd_32 (by decide), ln_32]
theorem az_33 (cA : ClassId) : vp_cell cA (40, .inl (fun i => hpI (hp0 33 i))) = arrV cA 40 (fun _ => defaultValue .int) := by
  rw [vp_cell_i]
  exact congrArg (arrV cA 40) (funext fun i => by rw [hp0_z (by decide) (by decide) (by decide) (by decide) (by decide)]; rfl)
theorem ea_33 {z : Nat} {cy : Nat → ClassId} : hpE z cy 33 (hp0 33) = .inl (cy 11, 40, .inl (fun i => hpI (hp0 33 i))) := by rw [hpE_i kd_33 (by decide), ln_33]
set_option maxRecDepth 20000 in
theorem eo_34 {z : Nat} {cy : Nat → ClassId} : hpE z cy 34 (hp0 34) = .inr (3, [.ref (z + 35), .ref (z + 36), .int (hpI 0), .int (hpI 0), .int (hpI 0)]) := by
  rw [hpE_o kd_34 (by decide), show hpnf 3 = 5 by decide +kernel]
  show (.inr (3, [hpfv z 34 (hp0 34) 0, hpfv z 34 (hp0 34) 1, hpfv z 34 (hp0 34) 2, hpfv z 34 (hp0 34) 3, hpfv z 34 (hp0 34) 4]) : va_E) = _
  rw [fr_34_0, fr_34_1, fi_34_2 (r := hp0 34) (a := 0) rfl, fi_34_3 (r := hp0 34) (a := 0) rfl, fi_34_4 (r := hp0 34) (a := 0) rfl]
theorem az_35 (cA : ClassId) : vp_cell cA (40, .inl (fun i => hpI (hp0 35 i))) = arrV cA 40 (fun _ => defaultValue .int) := by
  rw [vp_cell_i]
  exact congrArg (arrV cA 40) (funext fun i => by rw [hp0_z (by decide) (by decide) (by decide) (by decide) (by decide)]; rfl)
theorem ea_35 {z : Nat} {cy : Nat → ClassId} : hpE z cy 35 (hp0 35) = .inl (cy 11, 40, .inl (fun i => hpI (hp0 35 i))) := by rw [hpE_i kd_35 (by decide), ln_35]
theorem az_36 (cA : ClassId) : vp_cell cA (40, .inl (fun i => hpI (hp0 36 i))) = arrV cA 40 (fun _ => defaultValue .int) := by
  rw [vp_cell_i]
  exact congrArg (arrV cA 40) (funext fun i => by rw [hp0_z (by decide) (by decide) (by decide) (by decide) (by decide)]; rfl)
theorem ea_36 {z : Nat} {cy : Nat → ClassId} : hpE z cy 36 (hp0 36) = .inl (cy 11, 40, .inl (fun i => hpI (hp0 36 i))) := by rw [hpE_i kd_36 (by decide), ln_36]
set_option maxRecDepth 20000 in
theorem eo_37 {z : Nat} {cy : Nat → ClassId} : hpE z cy 37 (hp0 37) = .inr (3, [.ref (z + 38), .ref (z + 39), .int (hpI 0), .int (hpI 0), .int (hpI 0)]) := by
  rw [hpE_o kd_37 (by decide), show hpnf 3 = 5 by decide +kernel]
  show (.inr (3, [hpfv z 37 (hp0 37) 0, hpfv z 37 (hp0 37) 1, hpfv z 37 (hp0 37) 2, hpfv z 37 (hp0 37) 3, hpfv z 37 (hp0 37) 4]) : va_E) = _
  rw [fr_37_0, fr_37_1, fi_37_2 (r := hp0 37) (a := 0) rfl, fi_37_3 (r := hp0 37) (a := 0) rfl, fi_37_4 (r := hp0 37) (a := 0) rfl]
theorem az_38 (cA : ClassId) : vp_cell cA (40, .inl (fun i => hpI (hp0 38 i))) = arrV cA 40 (fun _ => defaultValue .int) := by
  rw [vp_cell_i]
  exact congrArg (arrV cA 40) (funext fun i => by rw [hp0_z (by decide) (by decide) (by decide) (by decide) (by decide)]; rfl)
theorem ea_38 {z : Nat} {cy : Nat → ClassId} : hpE z cy 38 (hp0 38) = .inl (cy 11, 40, .inl (fun i => hpI (hp0 38 i))) := by rw [hpE_i kd_38 (by decide), ln_38]
theorem az_39 (cA : ClassId) : vp_cell cA (40, .inl (fun i => hpI (hp0 39 i))) = arrV cA 40 (fun _ => defaultValue .int) := by
  rw [vp_cell_i]
  exact congrArg (arrV cA 40) (funext fun i => by rw [hp0_z (by decide) (by decide) (by decide) (by decide) (by decide)]; rfl)
theorem ea_39 {z : Nat} {cy : Nat → ClassId} : hpE z cy 39 (hp0 39) = .inl (cy 11, 40, .inl (fun i => hpI (hp0 39 i))) := by rw [hpE_i kd_39 (by decide), ln_39]
set_option maxRecDepth 20000 in
theorem eo_40 {z : Nat} {cy : Nat → ClassId} : hpE z cy 40 (hp0 40) = .inr (3, [.ref (z + 41), .ref (z + 42), .int (hpI 0), .int (hpI 0), .int (hpI 0)]) := by
  rw [hpE_o kd_40 (by decide), show hpnf 3 = 5 by decide +kernel]
  show (.inr (3, [hpfv z 40 (hp0 40) 0, hpfv z 40 (hp0 40) 1, hpfv z 40 (hp0 40) 2, hpfv z 40 (hp0 40) 3, hpfv z 40 (hp0 40) 4]) : va_E) = _
  rw [fr_40_0, fr_40_1, fi_40_2 (r := hp0 40) (a := 0) rfl, fi_40_3 (r := hp0 40) (a := 0) rfl, fi_40_4 (r := hp0 40) (a := 0) rfl]
theorem az_41 (cA : ClassId) : vp_cell cA (40, .inl (fun i => hpI (hp0 41 i))) = arrV cA 40 (fun _ => defaultValue .int) := by
  rw [vp_cell_i]
  exact congrArg (arrV cA 40) (funext fun i => by rw [hp0_z (by decide) (by decide) (by decide) (by decide) (by decide)]; rfl)
theorem ea_41 {z : Nat} {cy : Nat → ClassId} : hpE z cy 41 (hp0 41) = .inl (cy 11, 40, .inl (fun i => hpI (hp0 41 i))) := by rw [hpE_i kd_41 (by decide), ln_41]
theorem az_42 (cA : ClassId) : vp_cell cA (40, .inl (fun i => hpI (hp0 42 i))) = arrV cA 40 (fun _ => defaultValue .int) := by
  rw [vp_cell_i]
  exact congrArg (arrV cA 40) (funext fun i => by rw [hp0_z (by decide) (by decide) (by decide) (by decide) (by decide)]; rfl)
theorem ea_42 {z : Nat} {cy : Nat → ClassId} : hpE z cy 42 (hp0 42) = .inl (cy 11, 40, .inl (fun i => hpI (hp0 42 i))) := by rw [hpE_i kd_42 (by decide), ln_42]
set_option maxRecDepth 20000 in
theorem eo_43 {z : Nat} {cy : Nat → ClassId} : hpE z cy 43 (hp0 43) = .inr (3, [.ref (z + 44), .ref (z + 45), .int (hpI 0), .int (hpI 0), .int (hpI 0)]) := by
  rw [hpE_o kd_43 (by decide), show hpnf 3 = 5 by decide +kernel]
  show (.inr (3, [hpfv z 43 (hp0 43) 0, hpfv z 43 (hp0 43) 1, hpfv z 43 (hp0 43) 2, hpfv z 43 (hp0 43) 3, hpfv z 43 (hp0 43) 4]) : va_E) = _
  rw [fr_43_0, fr_43_1, fi_43_2 (r := hp0 43) (a := 0) rfl, fi_43_3 (r := hp0 43) (a := 0) rfl, fi_43_4 (r := hp0 43) (a := 0) rfl]
theorem az_44 (cA : ClassId) : vp_cell cA (40, .inl (fun i => hpI (hp0 44 i))) = arrV cA 40 (fun _ => defaultValue .int) := by
  rw [vp_cell_i]
  exact congrArg (arrV cA 40) (funext fun i => by rw [hp0_z (by decide) (by decide) (by decide) (by decide) (by decide)]; rfl)
theorem ea_44 {z : Nat} {cy : Nat → ClassId} : hpE z cy 44 (hp0 44) = .inl (cy 11, 40, .inl (fun i => hpI (hp0 44 i))) := by rw [hpE_i kd_44 (by decide), ln_44]
theorem az_45 (cA : ClassId) : vp_cell cA (40, .inl (fun i => hpI (hp0 45 i))) = arrV cA 40 (fun _ => defaultValue .int) := by
  rw [vp_cell_i]
  exact congrArg (arrV cA 40) (funext fun i => by rw [hp0_z (by decide) (by decide) (by decide) (by decide) (by decide)]; rfl)
theorem ea_45 {z : Nat} {cy : Nat → ClassId} : hpE z cy 45 (hp0 45) = .inl (cy 11, 40, .inl (fun i => hpI (hp0 45 i))) := by rw [hpE_i kd_45 (by decide), ln_45]
set_option maxRecDepth 20000 in
theorem eo_46 {z : Nat} {cy : Nat → ClassId} : hpE z cy 46 (hp0 46) = .inr (3, [.ref (z + 47), .ref (z + 48), .int (hpI 0), .int (hpI 0), .int (hpI 0)]) := by
  rw [hpE_o kd_46 (by decide), show hpnf 3 = 5 by decide +kernel]
  show (.inr (3, [hpfv z 46 (hp0 46) 0, hpfv z 46 (hp0 46) 1, hpfv z 46 (hp0 46) 2, hpfv z 46 (hp0 46) 3, hpfv z 46 (hp0 46) 4]) : va_E) = _
  rw [fr_46_0, fr_46_1, fi_46_2 (r := hp0 46) (a := 0) rfl, fi_46_3 (r := hp0 46) (a := 0) rfl, fi_46_4 (r := hp0 46) (a := 0) rfl]
theorem az_47 (cA : ClassId) : vp_cell cA (40, .inl (fun i => hpI (hp0 47 i))) = arrV cA 40 (fun _ => defaultValue .int) := by
  rw [vp_cell_i]
  exact congrArg (arrV cA 40) (funext fun i => by rw [hp0_z (by decide) (by decide) (by decide) (by decide) (by decide)]; rfl)
theorem ea_47 {z : Nat} {cy : Nat → ClassId} : hpE z cy 47 (hp0 47) = .inl (cy 11, 40, .inl (fun i => hpI (hp0 47 i))) := by rw [hpE_i kd_47 (by decide), ln_47]
theorem az_48 (cA : ClassId) : vp_cell cA (40, .inl (fun i => hpI (hp0 48 i))) = arrV cA 40 (fun _ => defaultValue .int) := by
  rw [vp_cell_i]
  exact congrArg (arrV cA 40) (funext fun i => by rw [hp0_z (by decide) (by decide) (by decide) (by decide) (by decide)]; rfl)
theorem ea_48 {z : Nat} {cy : Nat → ClassId} : hpE z cy 48 (hp0 48) = .inl (cy 11, 40, .inl (fun i => hpI (hp0 48 i))) := by rw [hpE_i kd_48 (by decide), ln_48]
set_option maxRecDepth 20000 in
theorem eo_49 {z : Nat} {cy : Nat → ClassId} : hpE z cy 49 (hp0 49) = .inr (3, [.ref (z + 50), .ref (z + 51), .int (hpI 0), .int (hpI 0), .int (hpI 0)]) := by
  rw [hpE_o kd_49 (by decide), show hpnf 3 = 5 by decide +kernel]
  show (.inr (3, [hpfv z 49 (hp0 49) 0, hpfv z 49 (hp0 49) 1, hpfv z 49 (hp0 49) 2, hpfv z 49 (hp0 49) 3, hpfv z 49 (hp0 49) 4]) : va_E) = _
  rw [fr_49_0, fr_49_1, fi_49_2 (r := hp0 49) (a := 0) rfl, fi_49_3 (r := hp0 49) (a := 0) rfl, fi_49_4 (r := hp0 49) (a := 0) rfl]
theorem az_50 (cA : ClassId) : vp_cell cA (40, .inl (fun i => hpI (hp0 50 i))) = arrV cA 40 (fun _ => defaultValue .int) := by
  rw [vp_cell_i]
  exact congrArg (arrV cA 40) (funext fun i => by rw [hp0_z (by decide) (by decide) (by decide) (by decide) (by decide)]; rfl)
theorem ea_50 {z : Nat} {cy : Nat → ClassId} : hpE z cy 50 (hp0 50) = .inl (cy 11, 40, .inl (fun i => hpI (hp0 50 i))) := by rw [hpE_i kd_50 (by decide), ln_50]
theorem az_51 (cA : ClassId) : vp_cell cA (40, .inl (fun i => hpI (hp0 51 i))) = arrV cA 40 (fun _ => defaultValue .int) := by
  rw [vp_cell_i]
  exact congrArg (arrV cA 40) (funext fun i => by rw [hp0_z (by decide) (by decide) (by decide) (by decide) (by decide)]; rfl)
theorem ea_51 {z : Nat} {cy : Nat → ClassId} : hpE z cy 51 (hp0 51) = .inl (cy 11, 40, .inl (fun i => hpI (hp0 51 i))) := by rw [hpE_i kd_51 (by decide), ln_51]
set_option maxRecDepth 20000 in
theorem eo_52 {z : Nat} {cy : Nat → ClassId} : hpE z cy 52 (hp0 52) = .inr (3, [.ref (z + 53), .ref (z + 54), .int (hpI 0), .int (hpI 0), .int (hpI 0)]) := by
  rw [hpE_o kd_52 (by decide), show hpnf 3 = 5 by decide +kernel]
  show (.inr (3, [hpfv z 52 (hp0 52) 0, hpfv z 52 (hp0 52) 1, hpfv z 52 (hp0 52) 2, hpfv z 52 (hp0 52) 3, hpfv z 52 (hp0 52) 4]) : va_E) = _
  rw [fr_52_0, fr_52_1, fi_52_2 (r := hp0 52) (a := 0) rfl, fi_52_3 (r := hp0 52) (a := 0) rfl, fi_52_4 (r := hp0 52) (a := 0) rfl]
theorem az_53 (cA : ClassId) : vp_cell cA (40, .inl (fun i => hpI (hp0 53 i))) = arrV cA 40 (fun _ => defaultValue .int) := by
  rw [vp_cell_i]
  exact congrArg (arrV cA 40) (funext fun i => by rw [hp0_z (by decide) (by decide) (by decide) (by decide) (by decide)]; rfl)
theorem ea_53 {z : Nat} {cy : Nat → ClassId} : hpE z cy 53 (hp0 53) = .inl (cy 11, 40, .inl (fun i => hpI (hp0 53 i))) := by rw [hpE_i kd_53 (by decide), ln_53]
theorem az_54 (cA : ClassId) : vp_cell cA (40, .inl (fun i => hpI (hp0 54 i))) = arrV cA 40 (fun _ => defaultValue .int) := by
  rw [vp_cell_i]
  exact congrArg (arrV cA 40) (funext fun i => by rw [hp0_z (by decide) (by decide) (by decide) (by decide) (by decide)]; rfl)
theorem ea_54 {z : Nat} {cy : Nat → ClassId} : hpE z cy 54 (hp0 54) = .inl (cy 11, 40, .inl (fun i => hpI (hp0 54 i))) := by rw [hpE_i kd_54 (by decide), ln_54]
set_option maxRecDepth 20000 in
theorem eo_55 {z : Nat} {cy : Nat → ClassId} : hpE z cy 55 (hp0 55) = .inr (3, [.ref (z + 56), .ref (z + 57), .int (hpI 0), .int (hpI 0), .int (hpI 0)]) := by
  rw [hpE_o kd_55 (by decide), show hpnf 3 = 5 by decide +kernel]
  show (.inr (3, [hpfv z 55 (hp0 55) 0, hpfv z 55 (hp0 55) 1, hpfv z 55 (hp0 55) 2, hpfv z 55 (hp0 55) 3, hpfv z 55 (hp0 55) 4]) : va_E) = _
  rw [fr_55_0, fr_55_1, fi_55_2 (r := hp0 55) (a := 0) rfl, fi_55_3 (r := hp0 55) (a := 0) rfl, fi_55_4 (r := hp0 55) (a := 0) rfl]
theorem az_56 (cA : ClassId) : vp_cell cA (40, .inl (fun i => hpI (hp0 56 i))) = arrV cA 40 (fun _ => defaultValue .int) := by
  rw [vp_cell_i]
  exact congrArg (arrV cA 40) (funext fun i => by rw [hp0_z (by decide) (by decide) (by decide) (by decide) (by decide)]; rfl)
theorem ea_56 {z : Nat} {cy : Nat → ClassId} : hpE z cy 56 (hp0 56) = .inl (cy 11, 40, .inl (fun i => hpI (hp0 56 i))) := by rw [hpE_i kd_56 (by decide), ln_56]
theorem az_57 (cA : ClassId) : vp_cell cA (40, .inl (fun i => hpI (hp0 57 i))) = arrV cA 40 (fun _ => defaultValue .int) := by
  rw [vp_cell_i]
  exact congrArg (arrV cA 40) (funext fun i => by rw [hp0_z (by decide) (by decide) (by decide) (by decide) (by decide)]; rfl)
theorem ea_57 {z : Nat} {cy : Nat → ClassId} : hpE z cy 57 (hp0 57) = .inl (cy 11, 40, .inl (fun i => hpI (hp0 57 i))) := by rw [hpE_i kd_57 (by decide), ln_57]
set_option maxRecDepth 20000 in
theorem eo_58 {z : Nat} {cy : Nat → ClassId} : hpE z cy 58 (hp0 58) = .inr (3, [.ref (z + 59), .ref (z + 60), .int (hpI 0), .int (hpI 0), .int (hpI 0)]) := by
  rw [hpE_o kd_58 (by decide), show hpnf 3 = 5 by decide +kernel]
  show (.inr (3, [hpfv z 58 (hp0 58) 0, hpfv z 58 (hp0 58) 1, hpfv z 58 (hp0 58) 2, hpfv z 58 (hp0 58) 3, hpfv z 58 (hp0 58) 4]) : va_E) = _
  rw [fr_58_0, fr_58_1, fi_58_2 (r := hp0 58) (a := 0) rfl, fi_58_3 (r := hp0 58) (a := 0) rfl, fi_58_4 (r := hp0 58) (a := 0) rfl]
theorem az_59 (cA : ClassId) : vp_cell cA (40, .inl (fun i => hpI (hp0 59 i))) = arrV cA 40 (fun _ => defaultValue .int) := by
  rw [vp_cell_i]
  exact congrArg (arrV cA 40) (funext fun i => by rw [hp0_z (by decide) (by decide) (by decide) (by decide) (by decide)]; rfl)
theorem ea_59 {z : Nat} {cy : Nat → ClassId} : hpE z cy 59 (hp0 59) = .inl (cy 11, 40, .inl (fun i => hpI (hp0 59 i))) := by rw [hpE_i kd_59 (by decide), ln_59]
theorem az_60 (cA : ClassId) : vp_cell cA (40, .inl (fun i => hpI (hp0 60 i))) = arrV cA 40 (fun _ => defaultValue .int) := by
  rw [vp_cell_i]
  exact congrArg (arrV cA 40) (funext fun i => by rw [hp0_z (by decide) (by decide) (by decide) (by decide) (by decide)]; rfl)
theorem ea_60 {z : Nat} {cy : Nat → ClassId} : hpE z cy 60 (hp0 60) = .inl (cy 11, 40, .inl (fun i => hpI (hp0 60 i))) := by rw [hpE_i kd_60 (by decide), ln_60]
set_option maxRecDepth 20000 in
theorem eo_61 {z : Nat} {cy : Nat → ClassId} : hpE z cy 61 (hp0 61) = .inr (3, [.ref (z + 62), .ref (z + 63), .int (hpI 0), .int (hpI 0), .int (hpI 0)]) := by
  rw [hpE_o kd_61 (by decide), show hpnf 3 = 5 by decide +kernel]
  show (.inr (3, [hpfv z 61 (hp0 61) 0, hpfv z 61 (hp0 61) 1, hpfv z 61 (hp0 61) 2, hpfv z 61 (hp0 61) 3, hpfv z 61 (hp0 61) 4]) : va_E) = _
  rw [fr_61_0, fr_61_1, fi_61_2 (r := hp0 61) (a := 0) rfl, fi_61_3 (r := hp0 61) (a := 0) rfl, fi_61_4 (r := hp0 61) (a := 0) rfl]
theorem az_62 (cA : ClassId) : vp_cell cA (40, .inl (fun i => hpI (hp0 62 i))) = arrV cA 40 (fun _ => defaultValue .int) := by
  rw [vp_cell_i]
  exact congrArg (arrV cA 40) (funext fun i => by rw [hp0_z (by decide) (by decide) (by decide) (by decide) (by decide)]; rfl)
theorem ea_62 {z : Nat} {cy : Nat → ClassId} : hpE z cy 62 (hp0 62) = .inl (cy 11, 40, .inl (fun i => hpI (hp0 62 i))) := by rw [hpE_i kd_62 (by decide), ln_62]
theorem az_63 (cA : ClassId) : vp_cell cA (40, .inl (fun i => hpI (hp0 63 i))) = arrV cA 40 (fun _ => defaultValue .int) := by
  rw [vp_cell_i]
  exact congrArg (arrV cA 40) (funext fun i => by rw [hp0_z (by decide) (by decide) (by decide) (by decide) (by decide)]; rfl)
theorem ea_63 {z : Nat} {cy : Nat → ClassId} : hpE z cy 63 (hp0 63) = .inl (cy 11, 40, .inl (fun i => hpI (hp0 63 i))) := by rw [hpE_i kd_63 (by decide), ln_63]
set_option maxRecDepth 20000 in
theorem eo_64 {z : Nat} {cy : Nat → ClassId} : hpE z cy 64 (hp0 64) = .inr (3, [.ref (z + 65), .ref (z + 66), .int (hpI 0), .int (hpI 0), .int (hpI 0)]) := by
  rw [hpE_o kd_64 (by decide), show hpnf 3 = 5 by decide +kernel]
  show (.inr (3, [hpfv z 64 (hp0 64) 0, hpfv z 64 (hp0 64) 1, hpfv z 64 (hp0 64) 2, hpfv z 64 (hp0 64) 3, hpfv z 64 (hp0 64) 4]) : va_E) = _
  rw [fr_64_0, fr_64_1, fi_64_2 (r := hp0 64) (a := 0) rfl, fi_64_3 (r := hp0 64) (a := 0) rfl, fi_64_4 (r := hp0 64) (a := 0) rfl]
theorem az_65 (cA : ClassId) : vp_cell cA (40, .inl (fun i => hpI (hp0 65 i))) = arrV cA 40 (fun _ => defaultValue .int) := by
  rw [vp_cell_i]
  exact congrArg (arrV cA 40) (funext fun i => by rw [hp0_z (by decide) (by decide) (by decide) (by decide) (by decide)]; rfl)
theorem ea_65 {z : Nat} {cy : Nat → ClassId} : hpE z cy 65 (hp0 65) = .inl (cy 11, 40, .inl (fun i => hpI (hp0 65 i))) := by rw [hpE_i kd_65 (by decide), ln_65]
theorem az_66 (cA : ClassId) : vp_cell cA (40, .inl (fun i => hpI (hp0 66 i))) = arrV cA 40 (fun _ => defaultValue .int) := by
  rw [vp_cell_i]
  exact congrArg (arrV cA 40) (funext fun i => by rw [hp0_z (by decide) (by decide) (by decide) (by decide) (by decide)]; rfl)
theorem ea_66 {z : Nat} {cy : Nat → ClassId} : hpE z cy 66 (hp0 66) = .inl (cy 11, 40, .inl (fun i => hpI (hp0 66 i))) := by rw [hpE_i kd_66 (by decide), ln_66]
set_option maxRecDepth 20000 in
theorem eo_67 {z : Nat} {cy : Nat → ClassId} : hpE z cy 67 (hp0 67) = .inr (3, [.ref (z + 68), .ref (z + 69), .int (hpI 0), .int (hpI 0), .int (hpI 0)]) := by
  rw [hpE_o kd_67 (by decide), show hpnf 3 = 5 by decide +kernel]
  show (.inr (3, [hpfv z 67 (hp0 67) 0, hpfv z 67 (hp0 67) 1, hpfv z 67 (hp0 67) 2, hpfv z 67 (hp0 67) 3, hpfv z 67 (hp0 67) 4]) : va_E) = _
  rw [fr_67_0, fr_67_1, fi_67_2 (r := hp0 67) (a := 0) rfl, fi_67_3 (r := hp0 67) (a := 0) rfl, fi_67_4 (r := hp0 67) (a := 0) rfl]
theorem az_68 (cA : ClassId) : vp_cell cA (40, .inl (fun i => hpI (hp0 68 i))) = arrV cA 40 (fun _ => defaultValue .int) := by
  rw [vp_cell_i]
  exact congrArg (arrV cA 40) (funext fun i => by rw [hp0_z (by decide) (by decide) (by decide) (by decide) (by decide)]; rfl)
theorem ea_68 {z : Nat} {cy : Nat → ClassId} : hpE z cy 68 (hp0 68) = .inl (cy 11, 40, .inl (fun i => hpI (hp0 68 i))) := by rw [hpE_i kd_68 (by decide), ln_68]
theorem az_69 (cA : ClassId) : vp_cell cA (40, .inl (fun i => hpI (hp0 69 i))) = arrV cA 40 (fun _ => defaultValue .int) := by
  rw [vp_cell_i]
  exact congrArg (arrV cA 40) (funext fun i => by rw [hp0_z (by decide) (by decide) (by decide) (by decide) (by decide)]; rfl)
theorem ea_69 {z : Nat} {cy : Nat → ClassId} : hpE z cy 69 (hp0 69) = .inl (cy 11, 40, .inl (fun i => hpI (hp0 69 i))) := by rw [hpE_i kd_69 (by decide), ln_69]
set_option maxRecDepth 20000 in
theorem eo_70 {z : Nat} {cy : Nat → ClassId} : hpE z cy 70 (hp0 70) = .inr (4, [.ref (z + 71), .int (hpI 0), .int (hpI 0), .int (hpI 0), .int (hpI 0), .int (hpI 0), .int (hpI 0), .int (hpI 0), .int (hpI 0)]) := by
  rw [hpE_o kd_70 (by decide), show hpnf 4 = 9 by decide +kernel]
  show (.inr (4, [hpfv z 70 (hp0 70) 0, hpfv z 70 (hp0 70) 1, hpfv z 70 (hp0 70) 2, hpfv z 70 (hp0 70) 3, hpfv z 70 (hp0 70) 4, hpfv z 70 (hp0 70) 5, hpfv z 70 (hp0 70) 6, hpfv z 70 (hp0 70) 7, hpfv z 70 (hp0 70) 8]) : va_E) = _
  rw [fr_70_0, fi_70_1 (r := hp0 70) (a := 0) rfl, fi_70_2 (r := hp0 70) (a := 0) rfl, fi_70_3 (r := hp0 70) (a := 0) rfl, fi_70_4 (r := hp0 70) (a := 0) rfl, fi_70_5 (r := hp0 70) (a := 0) rfl, fi_70_6 (r := hp0 70) (a := 0) rfl, fi_70_7 (r := hp0 70) (a := 0) rfl, fi_70_8 (r := hp0 70) (a := 0) rfl]
theorem ea_71 {z : Nat} {cy : Nat → ClassId} : hpE z cy 71 (hp0 71) = .inl (cy 15, 17, .inr (.inr (.inr (.inr (fun i => some (z + hprf 71 i)))))) := by rw [hpE_q kd_71 (by decide), ln_71]
set_option maxRecDepth 20000 in
theorem eo_72 {z : Nat} {cy : Nat → ClassId} : hpE z cy 72 (hp0 72) = .inr (3, [.ref (z + 73), .ref (z + 74), .int (hpI 0), .int (hpI 0), .int (hpI 0)]) := by
  rw [hpE_o kd_72 (by decide), show hpnf 3 = 5 by decide +kernel]
  show (.inr (3, [hpfv z 72 (hp0 72) 0, hpfv z 72 (hp0 72) 1, hpfv z 72 (hp0 72) 2, hpfv z 72 (hp0 72) 3, hpfv z 72 (hp0 72) 4]) : va_E) = _
  rw [fr_72_0, fr_72_1, fi_72_2 (r := hp0 72) (a := 0) rfl, fi_72_3 (r := hp0 72) (a := 0) rfl, fi_72_4 (r := hp0 72) (a := 0) rfl]
theorem az_73 (cA : ClassId) : vp_cell cA (40, .inl (fun i => hpI (hp0 73 i))) = arrV cA 40 (fun _ => defaultValue .int) := by
  rw [vp_cell_i]
  exact congrArg (arrV cA 40) (funext fun i => by rw [hp0_z (by decide) (by decide) (by decide) (by decide) (by decide)]; rfl)
theorem ea_73 {z : Nat} {cy : Nat → ClassId} : hpE z cy 73 (hp0 73) = .inl (cy 11, 40, .inl (fun i => hpI (hp0 73 i))) := by rw [hpE_i kd_73 (by decide), ln_73]
theorem az_74 (cA : ClassId) : vp_cell cA (40, .inl (fun i => hpI (hp0 74 i))) = arrV cA 40 (fun _ => defaultValue .int) := by
  rw [vp_cell_i]
  exact congrArg (arrV cA 40) (funext fun i => by rw [hp0_z (by decide) (by decide) (by decide) (by decide) (by decide)]; rfl)
theorem ea_74 {z : Nat} {cy : Nat → ClassId} : hpE z cy 74 (hp0 74) = .inl (cy 11, 40, .inl (fun i => hpI (hp0 74 i))) := by rw [hpE_i kd_74 (by decide), ln_74]
set_option maxRecDepth 20000 in
theorem eo_75 {z : Nat} {cy : Nat → ClassId} : hpE z cy 75 (hp0 75) = .inr (3, [.ref (z + 76), .ref (z + 77), .int (hpI 0), .int (hpI 0), .int (hpI 0)]) := by
  rw [hpE_o kd_75 (by decide), show hpnf 3 = 5 by decide +kernel]
  show (.inr (3, [hpfv z 75 (hp0 75) 0, hpfv z 75 (hp0 75) 1, hpfv z 75 (hp0 75) 2, hpfv z 75 (hp0 75) 3, hpfv z 75 (hp0 75) 4]) : va_E) = _
  rw [fr_75_0, fr_75_1, fi_75_2 (r := hp0 75) (a := 0) rfl, fi_75_3 (r := hp0 75) (a := 0) rfl, fi_75_4 (r := hp0 75) (a := 0) rfl]
theorem az_76 (cA : ClassId) : vp_cell cA (40, .inl (fun i => hpI (hp0 76 i))) = arrV cA 40 (fun _ => defaultValue .int) := by
  rw [vp_cell_i]
  exact congrArg (arrV cA 40) (funext fun i => by rw [hp0_z (by decide) (by decide) (by decide) (by decide) (by decide)]; rfl)
theorem ea_76 {z : Nat} {cy : Nat → ClassId} : hpE z cy 76 (hp0 76) = .inl (cy 11, 40, .inl (fun i => hpI (hp0 76 i))) := by rw [hpE_i kd_76 (by decide), ln_76]
theorem az_77 (cA : ClassId) : vp_cell cA (40, .inl (fun i => hpI (hp0 77 i))) = arrV cA 40 (fun _ => defaultValue .int) := by
  rw [vp_cell_i]
  exact congrArg (arrV cA 40) (funext fun i => by rw [hp0_z (by decide) (by decide) (by decide) (by decide) (by decide)]; rfl)
theorem ea_77 {z : Nat} {cy : Nat → ClassId} : hpE z cy 77 (hp0 77) = .inl (cy 11, 40, .inl (fun i => hpI (hp0 77 i))) := by rw [hpE_i kd_77 (by decide), ln_77]
set_option maxRecDepth 20000 in
theorem eo_78 {z : Nat} {cy : Nat → ClassId} : hpE z cy 78 (hp0 78) = .inr (3, [.ref (z + 79), .ref (z + 80), .int (hpI 0), .int (hpI 0), .int (hpI 0)]) := by
  rw [hpE_o kd_78 (by decide), show hpnf 3 = 5 by decide +kernel]
  show (.inr (3, [hpfv z 78 (hp0 78) 0, hpfv z 78 (hp0 78) 1, hpfv z 78 (hp0 78) 2, hpfv z 78 (hp0 78) 3, hpfv z 78 (hp0 78) 4]) : va_E) = _
  rw [fr_78_0, fr_78_1, fi_78_2 (r := hp0 78) (a := 0) rfl, fi_78_3 (r := hp0 78) (a := 0) rfl, fi_78_4 (r := hp0 78) (a := 0) rfl]
theorem az_79 (cA : ClassId) : vp_cell cA (40, .inl (fun i => hpI (hp0 79 i))) = arrV cA 40 (fun _ => defaultValue .int) := by
  rw [vp_cell_i]
  exact congrArg (arrV cA 40) (funext fun i => by rw [hp0_z (by decide) (by decide) (by decide) (by decide) (by decide)]; rfl)
theorem ea_79 {z : Nat} {cy : Nat → ClassId} : hpE z cy 79 (hp0 79) = .inl (cy 11, 40, .inl (fun i => hpI (hp0 79 i))) := by rw [hpE_i kd_79 (by decide), ln_79]
theorem az_80 (cA : ClassId) : vp_cell cA (40, .inl (fun i => hpI (hp0 80 i))) = arrV cA 40 (fun _ => defaultValue .int) := by
  rw [vp_cell_i]
  exact congrArg (arrV cA 40) (funext fun i => by rw [hp0_z (by decide) (by decide) (by decide) (by decide) (by decide)]; rfl)
theorem ea_80 {z : Nat} {cy : Nat → ClassId} : hpE z cy 80 (hp0 80) = .inl (cy 11, 40, .inl (fun i => hpI (hp0 80 i))) := by rw [hpE_i kd_80 (by decide), ln_80]
set_option maxRecDepth 20000 in
theorem eo_81 {z : Nat} {cy : Nat → ClassId} : hpE z cy 81 (hp0 81) = .inr (3, [.ref (z + 82), .ref (z + 83), .int (hpI 0), .int (hpI 0), .int (hpI 0)]) := by
  rw [hpE_o kd_81 (by decide), show hpnf 3 = 5 by decide +kernel]
  show (.inr (3, [hpfv z 81 (hp0 81) 0, hpfv z 81 (hp0 81) 1, hpfv z 81 (hp0 81) 2, hpfv z 81 (hp0 81) 3, hpfv z 81 (hp0 81) 4]) : va_E) = _
  rw [fr_81_0, fr_81_1, fi_81_2 (r := hp0 81) (a := 0) rfl, fi_81_3 (r := hp0 81) (a := 0) rfl, fi_81_4 (r := hp0 81) (a := 0) rfl]
theorem az_82 (cA : ClassId) : vp_cell cA (40, .inl (fun i => hpI (hp0 82 i))) = arrV cA 40 (fun _ => defaultValue .int) := by
  rw [vp_cell_i]
  exact congrArg (arrV cA 40) (funext fun i => by rw [hp0_z (by decide) (by decide) (by decide) (by decide) (by decide)]; rfl)
theorem ea_82 {z : Nat} {cy : Nat → ClassId} : hpE z cy 82 (hp0 82) = .inl (cy 11, 40, .inl (fun i => hpI (hp0 82 i))) := by rw [hpE_i kd_82 (by decide), ln_82]
theorem az_83 (cA : ClassId) : vp_cell cA (40, .inl (fun i => hpI (hp0 83 i))) = arrV cA 40 (fun _ => defaultValue .int) := by
  rw [vp_cell_i]
  exact congrArg (arrV cA 40) (funext fun i => by rw [hp0_z (by decide) (by decide) (by decide) (by decide) (by decide)]; rfl)
theorem ea_83 {z : Nat} {cy : Nat → ClassId} : hpE z cy 83 (hp0 83) = .inl (cy 11, 40, .inl (fun i => hpI (hp0 83 i))) := by rw [hpE_i kd_83 (by decide), ln_83]
set_option maxRecDepth 20000 in
theorem eo_84 {z : Nat} {cy : Nat → ClassId} : hpE z cy 84 (hp0 84) = .inr (3, [.ref (z + 85), .ref (z + 86), .int (hpI 0), .int (hpI 0), .int (hpI 0)]) := by
  rw [hpE_o kd_84 (by decide), show hpnf 3 = 5 by decide +kernel]
  show (.inr (3, [hpfv z 84 (hp0 84) 0, hpfv z 84 (hp0 84) 1, hpfv z 84 (hp0 84) 2, hpfv z 84 (hp0 84) 3, hpfv z 84 (hp0 84) 4]) : va_E) = _
  rw [fr_84_0, fr_84_1, fi_84_2 (r := hp0 84) (a := 0) rfl, fi_84_3 (r := hp0 84) (a := 0) rfl, fi_84_4 (r := hp0 84) (a := 0) rfl]
theorem az_85 (cA : ClassId) : vp_cell cA (40, .inl (fun i => hpI (hp0 85 i))) = arrV cA 40 (fun _ => defaultValue .int) := by
  rw [vp_cell_i]
  exact congrArg (arrV cA 40) (funext fun i => by rw [hp0_z (by decide) (by decide) (by decide) (by decide) (by decide)]; rfl)
theorem ea_85 {z : Nat} {cy : Nat → ClassId} : hpE z cy 85 (hp0 85) = .inl (cy 11, 40, .inl (fun i => hpI (hp0 85 i))) := by rw [hpE_i kd_85 (by decide), ln_85]
theorem az_86 (cA : ClassId) : vp_cell cA (40, .inl (fun i => hpI (hp0 86 i))) = arrV cA 40 (fun _ => defaultValue .int) := by
  rw [vp_cell_i]
  exact congrArg (arrV cA 40) (funext fun i => by rw [hp0_z (by decide) (by decide) (by decide) (by decide) (by decide)]; rfl)
theorem ea_86 {z : Nat} {cy : Nat → ClassId} : hpE z cy 86 (hp0 86) = .inl (cy 11, 40, .inl (fun i => hpI (hp0 86 i))) := by rw [hpE_i kd_86 (by decide), ln_86]
set_option maxRecDepth 20000 in
theorem eo_87 {z : Nat} {cy : Nat → ClassId} : hpE z cy 87 (hp0 87) = .inr (3, [.ref (z + 88), .ref (z + 89), .int (hpI 0), .int (hpI 0), .int (hpI 0)]) := by
  rw [hpE_o kd_87 (by decide), show hpnf 3 = 5 by decide +kernel]
  show (.inr (3, [hpfv z 87 (hp0 87) 0, hpfv z 87 (hp0 87) 1, hpfv z 87 (hp0 87) 2, hpfv z 87 (hp0 87) 3, hpfv z 87 (hp0 87) 4]) : va_E) = _
  rw [fr_87_0, fr_87_1, fi_87_2 (r := hp0 87) (a := 0) rfl, fi_87_3 (r := hp0 87) (a := 0) rfl, fi_87_4 (r := hp0 87) (a := 0) rfl]
theorem az_88 (cA : ClassId) : vp_cell cA (40, .inl (fun i => hpI (hp0 88 i))) = arrV cA 40 (fun _ => defaultValue .int) := by
  rw [vp_cell_i]
  exact congrArg (arrV cA 40) (funext fun i => by rw [hp0_z (by decide) (by decide) (by decide) (by decide) (by decide)]; rfl)
theorem ea_88 {z : Nat} {cy : Nat → ClassId} : hpE z cy 88 (hp0 88) = .inl (cy 11, 40, .inl (fun i => hpI (hp0 88 i))) := by rw [hpE_i kd_88 (by decide), ln_88]
theorem az_89 (cA : ClassId) : vp_cell cA (40, .inl (fun i => hpI (hp0 89 i))) = arrV cA 40 (fun _ => defaultValue .int) := by
  rw [vp_cell_i]
  exact congrArg (arrV cA 40) (funext fun i => by rw [hp0_z (by decide) (by decide) (by decide) (by decide) (by decide)]; rfl)
theorem ea_89 {z : Nat} {cy : Nat → ClassId} : hpE z cy 89 (hp0 89) = .inl (cy 11, 40, .inl (fun i => hpI (hp0 89 i))) := by rw [hpE_i kd_89 (by decide), ln_89]
set_option maxRecDepth 20000 in
theorem eo_90 {z : Nat} {cy : Nat → ClassId} : hpE z cy 90 (hp0 90) = .inr (3, [.ref (z + 91), .ref (z + 92), .int (hpI 0), .int (hpI 0), .int (hpI 0)]) := by
  rw [hpE_o kd_90 (by decide), show hpnf 3 = 5 by decide +kernel]
  show (.inr (3, [hpfv z 90 (hp0 90) 0, hpfv z 90 (hp0 90) 1, hpfv z 90 (hp0 90) 2, hpfv z 90 (hp0 90) 3, hpfv z 90 (hp0 90) 4]) : va_E) = _
  rw [fr_90_0, fr_90_1, fi_90_2 (r := hp0 90) (a := 0) rfl, fi_90_3 (r := hp0 90) (a := 0) rfl, fi_90_4 (r := hp0 90) (a := 0) rfl]
theorem az_91 (cA : ClassId) : vp_cell cA (40, .inl (fun i => hpI (hp0 91 i))) = arrV cA 40 (fun _ => defaultValue .int) := by
  rw [vp_cell_i]
  exact congrArg (arrV cA 40) (funext fun i => by rw [hp0_z (by decide) (by decide) (by decide) (by decide) (by decide)]; rfl)
theorem ea_91 {z : Nat} {cy : Nat → ClassId} : hpE z cy 91 (hp0 91) = .inl (cy 11, 40, .inl (fun i => hpI (hp0 91 i))) := by rw [hpE_i kd_91 (by decide), ln_91]
theorem az_92 (cA : ClassId) : vp_cell cA (40, .inl (fun i => hpI (hp0 92 i))) = arrV cA 40 (fun _ => defaultValue .int) := by
  rw [vp_cell_i]
  exact congrArg (arrV cA 40) (funext fun i => by rw [hp0_z (by decide) (by decide) (by decide) (by decide) (by decide)]; rfl)
theorem ea_92 {z : Nat} {cy : Nat → ClassId} : hpE z cy 92 (hp0 92) = .inl (cy 11, 40, .inl (fun i => hpI (hp0 92 i))) := by rw [hpE_i kd_92 (by decide), ln_92]
set_option maxRecDepth 20000 in
theorem eo_93 {z : Nat} {cy : Nat → ClassId} : hpE z cy 93 (hp0 93) = .inr (3, [.ref (z + 94), .ref (z + 95), .int (hpI 0), .int (hpI 0), .int (hpI 0)]) := by
  rw [hpE_o kd_93 (by decide), show hpnf 3 = 5 by decide +kernel]
  show (.inr (3, [hpfv z 93 (hp0 93) 0, hpfv z 93 (hp0 93) 1, hpfv z 93 (hp0 93) 2, hpfv z 93 (hp0 93) 3, hpfv z 93 (hp0 93) 4]) : va_E) = _
  rw [fr_93_0, fr_93_1, fi_93_2 (r := hp0 93) (a := 0) rfl, fi_93_3 (r := hp0 93) (a := 0) rfl, fi_93_4 (r := hp0 93) (a := 0) rfl]
theorem az_94 (cA : ClassId) : vp_cell cA (40, .inl (fun i => hpI (hp0 94 i))) = arrV cA 40 (fun _ => defaultValue .int) := by
  rw [vp_cell_i]
  exact congrArg (arrV cA 40) (funext fun i => by rw [hp0_z (by decide) (by decide) (by decide) (by decide) (by decide)]; rfl)
theorem ea_94 {z : Nat} {cy : Nat → ClassId} : hpE z cy 94 (hp0 94) = .inl (cy 11, 40, .inl (fun i => hpI (hp0 94 i))) := by rw [hpE_i kd_94 (by decide), ln_94]
theorem az_95 (cA : ClassId) : vp_cell cA (40, .inl (fun i => hpI (hp0 95 i))) = arrV cA 40 (fun _ => defaultValue .int) := by
  rw [vp_cell_i]
  exact congrArg (arrV cA 40) (funext fun i => by rw [hp0_z (by decide) (by decide) (by decide) (by decide) (by decide)]; rfl)
theorem ea_95 {z : Nat} {cy : Nat → ClassId} : hpE z cy 95 (hp0 95) = .inl (cy 11, 40, .inl (fun i => hpI (hp0 95 i))) := by rw [hpE_i kd_95 (by decide), ln_95]
set_option maxRecDepth 20000 in
theorem eo_96 {z : Nat} {cy : Nat → ClassId} : hpE z cy 96 (hp0 96) = .inr (3, [.ref (z + 97), .ref (z + 98), .int (hpI 0), .int (hpI 0), .int (hpI 0)]) := by
  rw [hpE_o kd_96 (by decide), show hpnf 3 = 5 by decide +kernel]
  show (.inr (3, [hpfv z 96 (hp0 96) 0, hpfv z 96 (hp0 96) 1, hpfv z 96 (hp0 96) 2, hpfv z 96 (hp0 96) 3, hpfv z 96 (hp0 96) 4]) : va_E) = _
  rw [fr_96_0, fr_96_1, fi_96_2 (r := hp0 96) (a := 0) rfl, fi_96_3 (r := hp0 96) (a := 0) rfl, fi_96_4 (r := hp0 96) (a := 0) rfl]
theorem az_97 (cA : ClassId) : vp_cell cA (40, .inl (fun i => hpI (hp0 97 i))) = arrV cA 40 (fun _ => defaultValue .int) := by
  rw [vp_cell_i]
  exact congrArg (arrV cA 40) (funext fun i => by rw [hp0_z (by decide) (by decide) (by decide) (by decide) (by decide)]; rfl)
theorem ea_97 {z : Nat} {cy : Nat → ClassId} : hpE z cy 97 (hp0 97) = .inl (cy 11, 40, .inl (fun i => hpI (hp0 97 i))) := by rw [hpE_i kd_97 (by decide), ln_97]
theorem az_98 (cA : ClassId) : vp_cell cA (40, .inl (fun i => hpI (hp0 98 i))) = arrV cA 40 (fun _ => defaultValue .int) := by
  rw [vp_cell_i]
  exact congrArg (arrV cA 40) (funext fun i => by rw [hp0_z (by decide) (by decide) (by decide) (by decide) (by decide)]; rfl)
theorem ea_98 {z : Nat} {cy : Nat → ClassId} : hpE z cy 98 (hp0 98) = .inl (cy 11, 40, .inl (fun i => hpI (hp0 98 i))) := by rw [hpE_i kd_98 (by decide), ln_98]
set_option maxRecDepth 20000 in
theorem eo_99 {z : Nat} {cy : Nat → ClassId} : hpE z cy 99 (hp0 99) = .inr (3, [.ref (z + 100), .ref (z + 101), .int (hpI 0), .int (hpI 0), .int (hpI 0)]) := by
  rw [hpE_o kd_99 (by decide), show hpnf 3 = 5 by decide +kernel]
  show (.inr (3, [hpfv z 99 (hp0 99) 0, hpfv z 99 (hp0 99) 1, hpfv z 99 (hp0 99) 2, hpfv z 99 (hp0 99) 3, hpfv z 99 (hp0 99) 4]) : va_E) = _
  rw [fr_99_0, fr_99_1, fi_99_2 (r := hp0 99) (a := 0) rfl, fi_99_3 (r := hp0 99) (a := 0) rfl, fi_99_4 (r := hp0 99) (a := 0) rfl]
theorem az_100 (cA : ClassId) : vp_cell cA (40, .inl (fun i => hpI (hp0 100 i))) = arrV cA 40 (fun _ => defaultValue .int) := by
  rw [vp_cell_i]
  exact congrArg (arrV cA 40) (funext fun i => by rw [hp0_z (by decide) (by decide) (by decide) (by decide) (by decide)]; rfl)
theorem ea_100 {z : Nat} {cy : Nat → ClassId} : hpE z cy 100 (hp0 100) = .inl (cy 11, 40, .inl (fun i => hpI (hp0 100 i))) := by rw [hpE_i kd_100 (by decide), ln_100]
theorem az_101 (cA : ClassId) : vp_cell cA (40, .inl (fun i => hpI (hp0 101 i))) = arrV cA 40 (fun _ => defaultValue .int) := by
  rw [vp_cell_i]
  exact congrArg (arrV cA 40) (funext fun i => by rw [hp0_z (by decide) (by decide) (by decide) (by decide) (by decide)]; rfl)
theorem ea_101 {z : Nat} {cy : Nat → ClassId} : hpE z cy 101 (hp0 101) = .inl (cy 11, 40, .inl (fun i => hpI (hp0 101 i))) := by rw [hpE_i kd_101 (by decide), ln_101]
set_option maxRecDepth 20000 in
theorem eo_102 {z : Nat} {cy : Nat → ClassId} : hpE z cy 102 (hp0 102) = .inr (3, [.ref (z + 103), .ref (z + 104), .int (hpI 0), .int (hpI 0), .int (hpI 0)]) := by
  rw [hpE_o kd_102 (by decide), show hpnf 3 = 5 by decide +kernel]
  show (.inr (3, [hpfv z 102 (hp0 102) 0, hpfv z 102 (hp0 102) 1, hpfv z 102 (hp0 102) 2, hpfv z 102 (hp0 102) 3, hpfv z 102 (hp0 102) 4]) : va_E) = _
  rw [fr_102_0, fr_102_1, fi_102_2 (r := hp0 102) (a := 0) rfl, fi_102_3 (r := hp0 102) (a := 0) rfl, fi_102_4 (r := hp0 102) (a := 0) rfl]
theorem az_103 (cA : ClassId) : vp_cell cA (40, .inl (fun i => hpI (hp0 103 i))) = arrV cA 40 (fun _ => defaultValue .int) := by
  rw [vp_cell_i]
  exact congrArg (arrV cA 40) (funext fun i => by rw [hp0_z (by decide) (by decide) (by decide) (by decide) (by decide)]; rfl)
theorem ea_103 {z : Nat} {cy : Nat → ClassId} : hpE z cy 103 (hp0 103) = .inl (cy 11, 40, .inl (fun i => hpI (hp0 103 i))) := by rw [hpE_i kd_103 (by decide), ln_103]
theorem az_104 (cA : ClassId) : vp_cell cA (40, .inl (fun i => hpI (hp0 104 i))) = arrV cA 40 (fun _ => defaultValue .int) := by
  rw [vp_cell_i]
  exact congrArg (arrV cA 40) (funext fun i => by rw [hp0_z (by decide) (by decide) (by decide) (by decide) (by decide)]; rfl)
theorem ea_104 {z : Nat} {cy : Nat → ClassId} : hpE z cy 104 (hp0 104) = .inl (cy 11, 40, .inl (fun i => hpI (hp0 104 i))) := by rw [hpE_i kd_104 (by decide), ln_104]
set_option maxRecDepth 20000 in
theorem eo_105 {z : Nat} {cy : Nat → ClassId} : hpE z cy 105 (hp0 105) = .inr (3, [.ref (z + 106), .ref (z + 107), .int (hpI 0), .int (hpI 0), .int (hpI 0)]) := by
  rw [hpE_o kd_105 (by decide), show hpnf 3 = 5 by decide +kernel]
  show (.inr (3, [hpfv z 105 (hp0 105) 0, hpfv z 105 (hp0 105) 1, hpfv z 105 (hp0 105) 2, hpfv z 105 (hp0 105) 3, hpfv z 105 (hp0 105) 4]) : va_E) = _
  rw [fr_105_0, fr_105_1, fi_105_2 (r := hp0 105) (a := 0) rfl, fi_105_3 (r := hp0 105) (a := 0) rfl, fi_105_4 (r := hp0 105) (a := 0) rfl]
theorem az_106 (cA : ClassId) : vp_cell cA (40, .inl (fun i => hpI (hp0 106 i))) = arrV cA 40 (fun _ => defaultValue .int) := by
  rw [vp_cell_i]
  exact congrArg (arrV cA 40) (funext fun i => by rw [hp0_z (by decide) (by decide) (by decide) (by decide) (by decide)]; rfl)
theorem ea_106 {z : Nat} {cy : Nat → ClassId} : hpE z cy 106 (hp0 106) = .inl (cy 11, 40, .inl (fun i => hpI (hp0 106 i))) := by rw [hpE_i kd_106 (by decide), ln_106]
theorem az_107 (cA : ClassId) : vp_cell cA (40, .inl (fun i => hpI (hp0 107 i))) = arrV cA 40 (fun _ => defaultValue .int) := by
  rw [vp_cell_i]
  exact congrArg (arrV cA 40) (funext fun i => by rw [hp0_z (by decide) (by decide) (by decide) (by decide) (by decide)]; rfl)
theorem ea_107 {z : Nat} {cy : Nat → ClassId} : hpE z cy 107 (hp0 107) = .inl (cy 11, 40, .inl (fun i => hpI (hp0 107 i))) := by rw [hpE_i kd_107 (by decide), ln_107]
set_option maxRecDepth 20000 in
theorem eo_108 {z : Nat} {cy : Nat → ClassId} : hpE z cy 108 (hp0 108) = .inr (3, [.ref (z + 109), .ref (z + 110), .int (hpI 0), .int (hpI 0), .int (hpI 0)]) := by
  rw [hpE_o kd_108 (by decide), show hpnf 3 = 5 by decide +kernel]
  show (.inr (3, [hpfv z 108 (hp0 108) 0, hpfv z 108 (hp0 108) 1, hpfv z 108 (hp0 108) 2, hpfv z 108 (hp0 108) 3, hpfv z 108 (hp0 108) 4]) : va_E) = _
  rw [fr_108_0, fr_108_1, fi_108_2 (r := hp0 108) (a := 0) rfl, fi_108_3 (r := hp0 108) (a := 0) rfl, fi_108_4 (r := hp0 108) (a := 0) rfl]
theorem az_109 (cA : ClassId) : vp_cell cA (40, .inl (fun i => hpI (hp0 109 i))) = arrV cA 40 (fun _ => defaultValue .int) := by
  rw [vp_cell_i]
  exact congrArg (arrV cA 40) (funext fun i => by rw [hp0_z (by decide) (by decide) (by decide) (by decide) (by decide)]; rfl)
theorem ea_109 {z : Nat} {cy : Nat → ClassId} : hpE z cy 109 (hp0 109) = .inl (cy 11, 40, .inl (fun i => hpI (hp0 109 i))) := by rw [hpE_i kd_109 (by decide), ln_109]
theorem az_110 (cA : ClassId) : vp_cell cA (40, .inl (fun i => hpI (hp0 110 i))) = arrV cA 40 (fun _ => defaultValue .int) := by
  rw [vp_cell_i]
  exact congrArg (arrV cA 40) (funext fun i => by rw [hp0_z (by decide) (by decide) (by decide) (by decide) (by decide)]; rfl)
theorem ea_110 {z : Nat} {cy : Nat → ClassId} : hpE z cy 110 (hp0 110) = .inl (cy 11, 40, .inl (fun i => hpI (hp0 110 i))) := by rw [hpE_i kd_110 (by decide), ln_110]
set_option maxRecDepth 20000 in
theorem eo_111 {z : Nat} {cy : Nat → ClassId} : hpE z cy 111 (hp0 111) = .inr (3, [.ref (z + 112), .ref (z + 113), .int (hpI 0), .int (hpI 0), .int (hpI 0)]) := by
  rw [hpE_o kd_111 (by decide), show hpnf 3 = 5 by decide +kernel]
  show (.inr (3, [hpfv z 111 (hp0 111) 0, hpfv z 111 (hp0 111) 1, hpfv z 111 (hp0 111) 2, hpfv z 111 (hp0 111) 3, hpfv z 111 (hp0 111) 4]) : va_E) = _
  rw [fr_111_0, fr_111_1, fi_111_2 (r := hp0 111) (a := 0) rfl, fi_111_3 (r := hp0 111) (a := 0) rfl, fi_111_4 (r := hp0 111) (a := 0) rfl]
theorem az_112 (cA : ClassId) : vp_cell cA (40, .inl (fun i => hpI (hp0 112 i))) = arrV cA 40 (fun _ => defaultValue .int) := by
  rw [vp_cell_i]
  exact congrArg (arrV cA 40) (funext fun i => by rw [hp0_z (by decide) (by decide) (by decide) (by decide) (by decide)]; rfl)
theorem ea_112 {z : Nat} {cy : Nat → ClassId} : hpE z cy 112 (hp0 112) = .inl (cy 11, 40, .inl (fun i => hpI (hp0 112 i))) := by rw [hpE_i kd_112 (by decide), ln_112]
theorem az_113 (cA : ClassId) : vp_cell cA (40, .inl (fun i => hpI (hp0 113 i))) = arrV cA 40 (fun _ => defaultValue .int) := by
  rw [vp_cell_i]
  exact congrArg (arrV cA 40) (funext fun i => by rw [hp0_z (by decide) (by decide) (by decide) (by decide) (by decide)]; rfl)
theorem ea_113 {z : Nat} {cy : Nat → ClassId} : hpE z cy 113 (hp0 113) = .inl (cy 11, 40, .inl (fun i => hpI (hp0 113 i))) := by rw [hpE_i kd_113 (by decide), ln_113]
set_option maxRecDepth 20000 in
theorem eo_114 {z : Nat} {cy : Nat → ClassId} : hpE z cy 114 (hp0 114) = .inr (3, [.ref (z + 115), .ref (z + 116), .int (hpI 0), .int (hpI 0), .int (hpI 0)]) := by
  rw [hpE_o kd_114 (by decide), show hpnf 3 = 5 by decide +kernel]
  show (.inr (3, [hpfv z 114 (hp0 114) 0, hpfv z 114 (hp0 114) 1, hpfv z 114 (hp0 114) 2, hpfv z 114 (hp0 114) 3, hpfv z 114 (hp0 114) 4]) : va_E) = _
  rw [fr_114_0, fr_114_1, fi_114_2 (r := hp0 114) (a := 0) rfl, fi_114_3 (r := hp0 114) (a := 0) rfl, fi_114_4 (r := hp0 114) (a := 0) rfl]
theorem az_115 (cA : ClassId) : vp_cell cA (40, .inl (fun i => hpI (hp0 115 i))) = arrV cA 40 (fun _ => defaultValue .int) := by
  rw [vp_cell_i]
  exact congrArg (arrV cA 40) (funext fun i => by rw [hp0_z (by decide) (by decide) (by decide) (by decide) (by decide)]; rfl)
theorem ea_115 {z : Nat} {cy : Nat → ClassId} : hpE z cy 115 (hp0 115) = .inl (cy 11, 40, .inl (fun i => hpI (hp0 115 i))) := by rw [hpE_i kd_115 (by decide), ln_115]
theorem az_116 (cA : ClassId) : vp_cell cA (40, .inl (fun i => hpI (hp0 116 i))) = arrV cA 40 (fun _ => defaultValue .int) := by
  rw [vp_cell_i]
  exact congrArg (arrV cA 40) (funext fun i => by rw [hp0_z (by decide) (by decide) (by decide) (by decide) (by decide)]; rfl)
theorem ea_116 {z : Nat} {cy : Nat → ClassId} : hpE z cy 116 (hp0 116) = .inl (cy 11, 40, .inl (fun i => hpI (hp0 116 i))) := by rw [hpE_i kd_116 (by decide), ln_116]
set_option maxRecDepth 20000 in
theorem eo_117 {z : Nat} {cy : Nat → ClassId} : hpE z cy 117 (hp0 117) = .inr (3, [.ref (z + 118), .ref (z + 119), .int (hpI 0), .int (hpI 0), .int (hpI 0)]) := by
  rw [hpE_o kd_117 (by decide), show hpnf 3 = 5 by decide +kernel]
  show (.inr (3, [hpfv z 117 (hp0 117) 0, hpfv z 117 (hp0 117) 1, hpfv z 117 (hp0 117) 2, hpfv z 117 (hp0 117) 3, hpfv z 117 (hp0 117) 4]) : va_E) = _
  rw [fr_117_0, fr_117_1, fi_117_2 (r := hp0 117) (a := 0) rfl, fi_117_3 (r := hp0 117) (a := 0) rfl, fi_117_4 (r := hp0 117) (a := 0) rfl]
theorem az_118 (cA : ClassId) : vp_cell cA (40, .inl (fun i => hpI (hp0 118 i))) = arrV cA 40 (fun _ => defaultValue .int) := by
  rw [vp_cell_i]
  exact congrArg (arrV cA 40) (funext fun i => by rw [hp0_z (by decide) (by decide) (by decide) (by decide) (by decide)]; rfl)
theorem ea_118 {z : Nat} {cy : Nat → ClassId} : hpE z cy 118 (hp0 118) = .inl (cy 11, 40, .inl (fun i => hpI (hp0 118 i))) := by rw [hpE_i kd_118 (by decide), ln_118]
theorem az_119 (cA : ClassId) : vp_cell cA (40, .inl (fun i => hpI (hp0 119 i))) = arrV cA 40 (fun _ => defaultValue .int) := by
  rw [vp_cell_i]
  exact congrArg (arrV cA 40) (funext fun i => by rw [hp0_z (by decide) (by decide) (by decide) (by decide) (by decide)]; rfl)
theorem ea_119 {z : Nat} {cy : Nat → ClassId} : hpE z cy 119 (hp0 119) = .inl (cy 11, 40, .inl (fun i => hpI (hp0 119 i))) := by rw [hpE_i kd_119 (by decide), ln_119]
set_option maxRecDepth 20000 in
theorem eo_120 {z : Nat} {cy : Nat → ClassId} : hpE z cy 120 (hp0 120) = .inr (3, [.ref (z + 121), .ref (z + 122), .int (hpI 0), .int (hpI 0), .int (hpI 0)]) := by
  rw [hpE_o kd_120 (by decide), show hpnf 3 = 5 by decide +kernel]
  show (.inr (3, [hpfv z 120 (hp0 120) 0, hpfv z 120 (hp0 120) 1, hpfv z 120 (hp0 120) 2, hpfv z 120 (hp0 120) 3, hpfv z 120 (hp0 120) 4]) : va_E) = _
  rw [fr_120_0, fr_120_1, fi_120_2 (r := hp0 120) (a := 0) rfl, fi_120_3 (r := hp0 120) (a := 0) rfl, fi_120_4 (r := hp0 120) (a := 0) rfl]
theorem az_121 (cA : ClassId) : vp_cell cA (40, .inl (fun i => hpI (hp0 121 i))) = arrV cA 40 (fun _ => defaultValue .int) := by
  rw [vp_cell_i]
  exact congrArg (arrV cA 40) (funext fun i => by rw [hp0_z (by decide) (by decide) (by decide) (by decide) (by decide)]; rfl)
theorem ea_121 {z : Nat} {cy : Nat → ClassId} : hpE z cy 121 (hp0 121) = .inl (cy 11, 40, .inl (fun i => hpI (hp0 121 i))) := by rw [hpE_i kd_121 (by decide), ln_121]
theorem az_122 (cA : ClassId) : vp_cell cA (40, .inl (fun i => hpI (hp0 122 i))) = arrV cA 40 (fun _ => defaultValue .int) := by
  rw [vp_cell_i]
  exact congrArg (arrV cA 40) (funext fun i => by rw [hp0_z (by decide) (by decide) (by decide) (by decide) (by decide)]; rfl)
theorem ea_122 {z : Nat} {cy : Nat → ClassId} : hpE z cy 122 (hp0 122) = .inl (cy 11, 40, .inl (fun i => hpI (hp0 122 i))) := by rw [hpE_i kd_122 (by decide), ln_122]
set_option maxRecDepth 20000 in
theorem eo_123 {z : Nat} {cy : Nat → ClassId} : hpE z cy 123 (hp0 123) = .inr (2, [.ref (z + 124), .ref (z + 127), .int (hpI 0), .int (hpI 0), .int (hpI 0), .int (hpI 0)]) := by
  rw [hpE_o kd_123 (by decide), show hpnf 2 = 6 by decide +kernel]
  show (.inr (2, [hpfv z 123 (hp0 123) 0, hpfv z 123 (hp0 123) 1, hpfv z 123 (hp0 123) 2, hpfv z 123 (hp0 123) 3, hpfv z 123 (hp0 123) 4, hpfv z 123 (hp0 123) 5]) : va_E) = _
  rw [fr_123_0, fr_123_1, fi_123_2 (r := hp0 123) (a := 0) rfl, fi_123_3 (r := hp0 123) (a := 0) rfl, fi_123_4 (r := hp0 123) (a := 0) rfl, fi_123_5 (r := hp0 123) (a := 0) rfl]
set_option maxRecDepth 20000 in
theorem eo_124 {z : Nat} {cy : Nat → ClassId} : hpE z cy 124 (hp0 124) = .inr (3, [.ref (z + 125), .ref (z + 126), .int (hpI 0), .int (hpI 0), .int (hpI 0)]) := by
  rw [hpE_o kd_124 (by decide), show hpnf 3 = 5 by decide +kernel]
  show (.inr (3, [hpfv z 124 (hp0 124) 0, hpfv z 124 (hp0 124) 1, hpfv z 124 (hp0 124) 2, hpfv z 124 (hp0 124) 3, hpfv z 124 (hp0 124) 4]) : va_E) = _
  rw [fr_124_0, fr_124_1, fi_124_2 (r := hp0 124) (a := 0) rfl, fi_124_3 (r := hp0 124) (a := 0) rfl, fi_124_4 (r := hp0 124) (a := 0) rfl]
theorem az_125 (cA : ClassId) : vp_cell cA (40, .inl (fun i => hpI (hp0 125 i))) = arrV cA 40 (fun _ => defaultValue .int) := by
  rw [vp_cell_i]
  exact congrArg (arrV cA 40) (funext fun i => by rw [hp0_z (by decide) (by decide) (by decide) (by decide) (by decide)]; rfl)
theorem ea_125 {z : Nat} {cy : Nat → ClassId} : hpE z cy 125 (hp0 125) = .inl (cy 11, 40, .inl (fun i => hpI (hp0 125 i))) := by rw [hpE_i kd_125 (by decide), ln_125]
theorem az_126 (cA : ClassId) : vp_cell cA (40, .inl (fun i => hpI (hp0 126 i))) = arrV cA 40 (fun _ => defaultValue .int) := by
  rw [vp_cell_i]
  exact congrArg (arrV cA 40) (funext fun i => by rw [hp0_z (by decide) (by decide) (by decide) (by decide) (by decide)]; rfl)
theorem ea_126 {z : Nat} {cy : Nat → ClassId} : hpE z cy 126 (hp0 126) = .inl (cy 11, 40, .inl (fun i => hpI (hp0 126 i))) := by rw [hpE_i kd_126 (by decide), ln_126]
set_option maxRecDepth 20000 in
theorem eo_127 {z : Nat} {cy : Nat → ClassId} : hpE z cy 127 (hp0 127) = .inr (3, [.ref (z + 128), .ref (z + 129), .int (hpI 0), .int (hpI 0), .int (hpI 0)]) := by
  rw [hpE_o kd_127 (by decide), show hpnf 3 = 5 by decide +kernel]
  show (.inr (3, [hpfv z 127 (hp0 127) 0, hpfv z 127 (hp0 127) 1, hpfv z 127 (hp0 127) 2, hpfv z 127 (hp0 127) 3, hpfv z 127 (hp0 127) 4]) : va_E) = _
  rw [fr_127_0, fr_127_1, fi_127_2 (r := hp0 127) (a := 0) rfl, fi_127_3 (r := hp0 127) (a := 0) rfl, fi_127_4 (r := hp0 127) (a := 0) rfl]
theorem az_128 (cA : ClassId) : vp_cell cA (40, .inl (fun i => hpI (hp0 128 i))) = arrV cA 40 (fun _ => defaultValue .int) := by
  rw [vp_cell_i]
  exact congrArg (arrV cA 40) (funext fun i => by rw [hp0_z (by decide) (by decide) (by decide) (by decide) (by decide)]; rfl)
theorem ea_128 {z : Nat} {cy : Nat → ClassId} : hpE z cy 128 (hp0 128) = .inl (cy 11, 40, .inl (fun i => hpI (hp0 128 i))) := by rw [hpE_i kd_128 (by decide), ln_128]
theorem az_129 (cA : ClassId) : vp_cell cA (40, .inl (fun i => hpI (hp0 129 i))) = arrV cA 40 (fun _ => defaultValue .int) := by
  rw [vp_cell_i]
  exact congrArg (arrV cA 40) (funext fun i => by rw [hp0_z (by decide) (by decide) (by decide) (by decide) (by decide)]; rfl)
theorem ea_129 {z : Nat} {cy : Nat → ClassId} : hpE z cy 129 (hp0 129) = .inl (cy 11, 40, .inl (fun i => hpI (hp0 129 i))) := by rw [hpE_i kd_129 (by decide), ln_129]
set_option maxRecDepth 20000 in
theorem eo_130 {z : Nat} {cy : Nat → ClassId} : hpE z cy 130 (hp0 130) = .inr (0, [.ref (z + 131), .ref (z + 132), .ref (z + 133), .ref (z + 134), .ref (z + 135), .ref (z + 136), .ref (z + 137), .ref (z + 138), .int (hpI 0), .int (hpI 0), .int (hpI 0), .int (hpI 0), .int (hpI 0), .int (hpI 0), .int (hpI (-1))]) := by
  rw [hpE_o kd_130 (by decide), show hpnf 0 = 15 by decide +kernel]
  show (.inr (0, [hpfv z 130 (hp0 130) 0, hpfv z 130 (hp0 130) 1, hpfv z 130 (hp0 130) 2, hpfv z 130 (hp0 130) 3, hpfv z 130 (hp0 130) 4, hpfv z 130 (hp0 130) 5, hpfv z 130 (hp0 130) 6, hpfv z 130 (hp0 130) 7, hpfv z 130 (hp0 130) 8, hpfv z 130 (hp0 130) 9, hpfv z 130 (hp0 130) 10, hpfv z 130 (hp0 130) 11, hpfv z 130 (hp0 130) 12, hpfv z 130 (hp0 130) 13, hpfv z 130 (hp0 130) 14]) : va_E) = _
  rw [fr_130_0, fr_130_1, fr_130_2, fr_130_3, fr_130_4, fr_130_5, fr_130_6, fr_130_7, fi_130_8 (r := hp0 130) (a := 0) rfl, fi_130_9 (r := hp0 130) (a := 0) rfl, fi_130_10 (r := hp0 130) (a := 0) rfl, fi_130_11 (r := hp0 130) (a := 0) rfl, fi_130_12 (r := hp0 130) (a := 0) rfl, fi_130_13 (r := hp0 130) (a := 0) rfl, fi_130_14 (r := hp0 130) (a := (-1)) rfl]
theorem az_131 (cA : ClassId) : vp_cell cA (135, .inr (.inl (fun i => hpJ (hp0 131 i)))) = arrV cA 135 (fun _ => defaultValue .long) := by
  rw [vp_cell_l]
  exact congrArg (arrV cA 135) (funext fun i => by rw [hp0_z (by decide) (by decide) (by decide) (by decide) (by decide)]; rfl)
theorem ea_131 {z : Nat} {cy : Nat → ClassId} : hpE z cy 131 (hp0 131) = .inl (cy 12, 135, .inr (.inl (fun i => hpJ (hp0 131 i)))) := by rw [hpE_l kd_131, ln_131]
theorem az_132 (cA : ClassId) : vp_cell cA (135, .inl (fun i => hpI (hp0 132 i))) = arrV cA 135 (fun _ => defaultValue .int) := by
  rw [vp_cell_i]
  exact congrArg (arrV cA 135) (funext fun i => by rw [hp0_z (by decide) (by decide) (by decide) (by decide) (by decide)]; rfl)
theorem ea_132 {z : Nat} {cy : Nat → ClassId} : hpE z cy 132 (hp0 132) = .inl (cy 11, 135, .inl (fun i => hpI (hp0 132 i))) := by rw [hpE_i kd_132 (by decide), ln_132]
theorem az_133 (cA : ClassId) : vp_cell cA (135, .inl (fun i => hpI (hp0 133 i))) = arrV cA 135 (fun _ => defaultValue .int) := by
  rw [vp_cell_i]
  exact congrArg (arrV cA 135) (funext fun i => by rw [hp0_z (by decide) (by decide) (by decide) (by decide) (by decide)]; rfl)
theorem ea_133 {z : Nat} {cy : Nat → ClassId} : hpE z cy 133 (hp0 133) = .inl (cy 11, 135, .inl (fun i => hpI (hp0 133 i))) := by rw [hpE_i kd_133 (by decide), ln_133]
theorem az_134 (cA : ClassId) : vp_cell cA (135, .inl (fun i => hpI (hp0 134 i))) = arrV cA 135 (fun _ => defaultValue .int) := by
  rw [vp_cell_i]
  exact congrArg (arrV cA 135) (funext fun i => by rw [hp0_z (by decide) (by decide) (by decide) (by decide) (by decide)]; rfl)
theorem ea_134 {z : Nat} {cy : Nat → ClassId} : hpE z cy 134 (hp0 134) = .inl (cy 11, 135, .inl (fun i => hpI (hp0 134 i))) := by rw [hpE_i kd_134 (by decide), ln_134]
theorem az_135 (cA : ClassId) : vp_cell cA (135, .inl (fun i => hpI (hp0 135 i))) = arrV cA 135 (fun _ => defaultValue .int) := by
  rw [vp_cell_i]
  exact congrArg (arrV cA 135) (funext fun i => by rw [hp0_z (by decide) (by decide) (by decide) (by decide) (by decide)]; rfl)
theorem ea_135 {z : Nat} {cy : Nat → ClassId} : hpE z cy 135 (hp0 135) = .inl (cy 11, 135, .inl (fun i => hpI (hp0 135 i))) := by rw [hpE_i kd_135 (by decide), ln_135]
theorem az_136 (cA : ClassId) : vp_cell cA (135, .inl (fun i => hpI (hp0 136 i))) = arrV cA 135 (fun _ => defaultValue .int) := by
  rw [vp_cell_i]
  exact congrArg (arrV cA 135) (funext fun i => by rw [hp0_z (by decide) (by decide) (by decide) (by decide) (by decide)]; rfl)
theorem ea_136 {z : Nat} {cy : Nat → ClassId} : hpE z cy 136 (hp0 136) = .inl (cy 11, 135, .inl (fun i => hpI (hp0 136 i))) := by rw [hpE_i kd_136 (by decide), ln_136]
theorem az_137 (cA : ClassId) : vp_cell cA (14, .inl (fun i => hpI (hp0 137 i))) = arrV cA 14 (fun _ => defaultValue .int) := by
  rw [vp_cell_i]
  exact congrArg (arrV cA 14) (funext fun i => by rw [hp0_z (by decide) (by decide) (by decide) (by decide) (by decide)]; rfl)
theorem ea_137 {z : Nat} {cy : Nat → ClassId} : hpE z cy 137 (hp0 137) = .inl (cy 11, 14, .inl (fun i => hpI (hp0 137 i))) := by rw [hpE_i kd_137 (by decide), ln_137]
set_option maxRecDepth 20000 in
theorem eo_138 {z : Nat} {cy : Nat → ClassId} : hpE z cy 138 (hp0 138) = .inr (3, [.ref (z + 139), .ref (z + 140), .int (hpI 0), .int (hpI 0), .int (hpI 0)]) := by
  rw [hpE_o kd_138 (by decide), show hpnf 3 = 5 by decide +kernel]
  show (.inr (3, [hpfv z 138 (hp0 138) 0, hpfv z 138 (hp0 138) 1, hpfv z 138 (hp0 138) 2, hpfv z 138 (hp0 138) 3, hpfv z 138 (hp0 138) 4]) : va_E) = _
  rw [fr_138_0, fr_138_1, fi_138_2 (r := hp0 138) (a := 0) rfl, fi_138_3 (r := hp0 138) (a := 0) rfl, fi_138_4 (r := hp0 138) (a := 0) rfl]
theorem az_139 (cA : ClassId) : vp_cell cA (40, .inl (fun i => hpI (hp0 139 i))) = arrV cA 40 (fun _ => defaultValue .int) := by
  rw [vp_cell_i]
  exact congrArg (arrV cA 40) (funext fun i => by rw [hp0_z (by decide) (by decide) (by decide) (by decide) (by decide)]; rfl)
theorem ea_139 {z : Nat} {cy : Nat → ClassId} : hpE z cy 139 (hp0 139) = .inl (cy 11, 40, .inl (fun i => hpI (hp0 139 i))) := by rw [hpE_i kd_139 (by decide), ln_139]
theorem az_140 (cA : ClassId) : vp_cell cA (40, .inl (fun i => hpI (hp0 140 i))) = arrV cA 40 (fun _ => defaultValue .int) := by
  rw [vp_cell_i]
  exact congrArg (arrV cA 40) (funext fun i => by rw [hp0_z (by decide) (by decide) (by decide) (by decide) (by decide)]; rfl)
theorem ea_140 {z : Nat} {cy : Nat → ClassId} : hpE z cy 140 (hp0 140) = .inl (cy 11, 40, .inl (fun i => hpI (hp0 140 i))) := by rw [hpE_i kd_140 (by decide), ln_140]
set_option maxRecDepth 20000 in
theorem eo_141 {z : Nat} {cy : Nat → ClassId} : hpE z cy 141 (hp0 141) = .inr (5, [.ref (z + 142), .ref (z + 143), .int (hpI 0)]) := by
  rw [hpE_o kd_141 (by decide), show hpnf 5 = 3 by decide +kernel]
  show (.inr (5, [hpfv z 141 (hp0 141) 0, hpfv z 141 (hp0 141) 1, hpfv z 141 (hp0 141) 2]) : va_E) = _
  rw [fr_141_0, fr_141_1, fi_141_2 (r := hp0 141) (a := 0) rfl]
theorem az_142 (cA : ClassId) : vp_cell cA (20, .inl (fun i => hpI (hp0 142 i))) = arrV cA 20 (fun _ => defaultValue .int) := by
  rw [vp_cell_i]
  exact congrArg (arrV cA 20) (funext fun i => by rw [hp0_z (by decide) (by decide) (by decide) (by decide) (by decide)]; rfl)
theorem ea_142 {z : Nat} {cy : Nat → ClassId} : hpE z cy 142 (hp0 142) = .inl (cy 11, 20, .inl (fun i => hpI (hp0 142 i))) := by rw [hpE_i kd_142 (by decide), ln_142]
theorem ea_143 {z : Nat} {cy : Nat → ClassId} : hpE z cy 143 (hp0 143) = .inl (cy 17, 20, .inr (.inr (.inr (.inr (fun i => some (z + (144 + i))))))) := by rw [hpE_q kd_143 (by decide), ln_143]; exact congrArg (fun f => (.inl (cy 17, 20, .inr (.inr (.inr (.inr f)))) : va_E)) (funext fun i => by rw [show hprf 143 i = 144 + i by unfold hprf; rw [kd_143]; rfl])
theorem az_144 (cA : ClassId) : vp_cell cA (17, .inl (fun i => hpI (hp0 144 i))) = arrV cA 17 (fun _ => defaultValue .int) := by
  rw [vp_cell_i]
  exact congrArg (arrV cA 17) (funext fun i => by rw [hp0_z (by decide) (by decide) (by decide) (by decide) (by decide)]; rfl)
theorem ea_144 {z : Nat} {cy : Nat → ClassId} : hpE z cy 144 (hp0 144) = .inl (cy 11, 17, .inl (fun i => hpI (hp0 144 i))) := by rw [hpE_i kd_144 (by decide), ln_144]
theorem ei_144 {z : Nat} {cy : Nat → ClassId} : hpE z cy 144 (hp0 144) = .inl (cy 11, 17, .inl (fun _ => hpI 0)) := by
  rw [ea_144]
  exact congrArg (fun f => (.inl (cy 11, 17, .inl f) : va_E)) (funext fun i => by rw [hp0_z (by decide) (by decide) (by decide) (by decide) (by decide)])
theorem az_145 (cA : ClassId) : vp_cell cA (17, .inl (fun i => hpI (hp0 145 i))) = arrV cA 17 (fun _ => defaultValue .int) := by
  rw [vp_cell_i]
  exact congrArg (arrV cA 17) (funext fun i => by rw [hp0_z (by decide) (by decide) (by decide) (by decide) (by decide)]; rfl)
theorem ea_145 {z : Nat} {cy : Nat → ClassId} : hpE z cy 145 (hp0 145) = .inl (cy 11, 17, .inl (fun i => hpI (hp0 145 i))) := by rw [hpE_i kd_145 (by decide), ln_145]
theorem ei_145 {z : Nat} {cy : Nat → ClassId} : hpE z cy 145 (hp0 145) = .inl (cy 11, 17, .inl (fun _ => hpI 0)) := by
  rw [ea_145]
  exact congrArg (fun f => (.inl (cy 11, 17, .inl f) : va_E)) (funext fun i => by rw [hp0_z (by decide) (by decide) (by decide) (by decide) (by decide)])
theorem az_146 (cA : ClassId) : vp_cell cA (17, .inl (fun i => hpI (hp0 146 i))) = arrV cA 17 (fun _ => defaultValue .int) := by
  rw [vp_cell_i]
  exact congrArg (arrV cA 17) (funext fun i => by rw [hp0_z (by decide) (by decide) (by decide) (by decide) (by decide)]; rfl)
theorem ea_146 {z : Nat} {cy : Nat → ClassId} : hpE z cy 146 (hp0 146) = .inl (cy 11, 17, .inl (fun i => hpI (hp0 146 i))) := by rw [hpE_i kd_146 (by decide), ln_146]
theorem ei_146 {z : Nat} {cy : Nat → ClassId} : hpE z cy 146 (hp0 146) = .inl (cy 11, 17, .inl (fun _ => hpI 0)) := by
  rw [ea_146]
  exact congrArg (fun f => (.inl (cy 11, 17, .inl f) : va_E)) (funext fun i => by rw [hp0_z (by decide) (by decide) (by decide) (by decide) (by decide)])
theorem az_147 (cA : ClassId) : vp_cell cA (17, .inl (fun i => hpI (hp0 147 i))) = arrV cA 17 (fun _ => defaultValue .int) := by
  rw [vp_cell_i]
  exact congrArg (arrV cA 17) (funext fun i => by rw [hp0_z (by decide) (by decide) (by decide) (by decide) (by decide)]; rfl)
theorem ea_147 {z : Nat} {cy : Nat → ClassId} : hpE z cy 147 (hp0 147) = .inl (cy 11, 17, .inl (fun i => hpI (hp0 147 i))) := by rw [hpE_i kd_147 (by decide), ln_147]
theorem ei_147 {z : Nat} {cy : Nat → ClassId} : hpE z cy 147 (hp0 147) = .inl (cy 11, 17, .inl (fun _ => hpI 0)) := by
  rw [ea_147]
  exact congrArg (fun f => (.inl (cy 11, 17, .inl f) : va_E)) (funext fun i => by rw [hp0_z (by decide) (by decide) (by decide) (by decide) (by decide)])
theorem az_148 (cA : ClassId) : vp_cell cA (17, .inl (fun i => hpI (hp0 148 i))) = arrV cA 17 (fun _ => defaultValue .int) := by
  rw [vp_cell_i]
  exact congrArg (arrV cA 17) (funext fun i => by rw [hp0_z (by decide) (by decide) (by decide) (by decide) (by decide)]; rfl)
theorem ea_148 {z : Nat} {cy : Nat → ClassId} : hpE z cy 148 (hp0 148) = .inl (cy 11, 17, .inl (fun i => hpI (hp0 148 i))) := by rw [hpE_i kd_148 (by decide), ln_148]
theorem ei_148 {z : Nat} {cy : Nat → ClassId} : hpE z cy 148 (hp0 148) = .inl (cy 11, 17, .inl (fun _ => hpI 0)) := by
  rw [ea_148]
  exact congrArg (fun f => (.inl (cy 11, 17, .inl f) : va_E)) (funext fun i => by rw [hp0_z (by decide) (by decide) (by decide) (by decide) (by decide)])
theorem az_149 (cA : ClassId) : vp_cell cA (17, .inl (fun i => hpI (hp0 149 i))) = arrV cA 17 (fun _ => defaultValue .int) := by
  rw [vp_cell_i]
  exact congrArg (arrV cA 17) (funext fun i => by rw [hp0_z (by decide) (by decide) (by decide) (by decide) (by decide)]; rfl)
theorem ea_149 {z : Nat} {cy : Nat → ClassId} : hpE z cy 149 (hp0 149) = .inl (cy 11, 17, .inl (fun i => hpI (hp0 149 i))) := by rw [hpE_i kd_149 (by decide), ln_149]
theorem ei_149 {z : Nat} {cy : Nat → ClassId} : hpE z cy 149 (hp0 149) = .inl (cy 11, 17, .inl (fun _ => hpI 0)) := by
  rw [ea_149]
  exact congrArg (fun f => (.inl (cy 11, 17, .inl f) : va_E)) (funext fun i => by rw [hp0_z (by decide) (by decide) (by decide) (by decide) (by decide)])
theorem az_150 (cA : ClassId) : vp_cell cA (17, .inl (fun i => hpI (hp0 150 i))) = arrV cA 17 (fun _ => defaultValue .int) := by
  rw [vp_cell_i]
  exact congrArg (arrV cA 17) (funext fun i => by rw [hp0_z (by decide) (by decide) (by decide) (by decide) (by decide)]; rfl)
theorem ea_150 {z : Nat} {cy : Nat → ClassId} : hpE z cy 150 (hp0 150) = .inl (cy 11, 17, .inl (fun i => hpI (hp0 150 i))) := by rw [hpE_i kd_150 (by decide), ln_150]
theorem ei_150 {z : Nat} {cy : Nat → ClassId} : hpE z cy 150 (hp0 150) = .inl (cy 11, 17, .inl (fun _ => hpI 0)) := by
  rw [ea_150]
  exact congrArg (fun f => (.inl (cy 11, 17, .inl f) : va_E)) (funext fun i => by rw [hp0_z (by decide) (by decide) (by decide) (by decide) (by decide)])
theorem az_151 (cA : ClassId) : vp_cell cA (17, .inl (fun i => hpI (hp0 151 i))) = arrV cA 17 (fun _ => defaultValue .int) := by
  rw [vp_cell_i]
  exact congrArg (arrV cA 17) (funext fun i => by rw [hp0_z (by decide) (by decide) (by decide) (by decide) (by decide)]; rfl)
theorem ea_151 {z : Nat} {cy : Nat → ClassId} : hpE z cy 151 (hp0 151) = .inl (cy 11, 17, .inl (fun i => hpI (hp0 151 i))) := by rw [hpE_i kd_151 (by decide), ln_151]
theorem ei_151 {z : Nat} {cy : Nat → ClassId} : hpE z cy 151 (hp0 151) = .inl (cy 11, 17, .inl (fun _ => hpI 0)) := by
  rw [ea_151]
  exact congrArg (fun f => (.inl (cy 11, 17, .inl f) : va_E)) (funext fun i => by rw [hp0_z (by decide) (by decide) (by decide) (by decide) (by decide)])
theorem az_152 (cA : ClassId) : vp_cell cA (17, .inl (fun i => hpI (hp0 152 i))) = arrV cA 17 (fun _ => defaultValue .int) := by
  rw [vp_cell_i]
  exact congrArg (arrV cA 17) (funext fun i => by rw [hp0_z (by decide) (by decide) (by decide) (by decide) (by decide)]; rfl)
theorem ea_152 {z : Nat} {cy : Nat → ClassId} : hpE z cy 152 (hp0 152) = .inl (cy 11, 17, .inl (fun i => hpI (hp0 152 i))) := by rw [hpE_i kd_152 (by decide), ln_152]
theorem ei_152 {z : Nat} {cy : Nat → ClassId} : hpE z cy 152 (hp0 152) = .inl (cy 11, 17, .inl (fun _ => hpI 0)) := by
  rw [ea_152]
  exact congrArg (fun f => (.inl (cy 11, 17, .inl f) : va_E)) (funext fun i => by rw [hp0_z (by decide) (by decide) (by decide) (by decide) (by decide)])
theorem az_153 (cA : ClassId) : vp_cell cA (17, .inl (fun i => hpI (hp0 153 i))) = arrV cA 17 (fun _ => defaultValue .int) := by
  rw [vp_cell_i]
  exact congrArg (arrV cA 17) (funext fun i => by rw [hp0_z (by decide) (by decide) (by decide) (by decide) (by decide)]; rfl)
theorem ea_153 {z : Nat} {cy : Nat → ClassId} : hpE z cy 153 (hp0 153) = .inl (cy 11, 17, .inl (fun i => hpI (hp0 153 i))) := by rw [hpE_i kd_153 (by decide), ln_153]
theorem ei_153 {z : Nat} {cy : Nat → ClassId} : hpE z cy 153 (hp0 153) = .inl (cy 11, 17, .inl (fun _ => hpI 0)) := by
  rw [ea_153]
  exact congrArg (fun f => (.inl (cy 11, 17, .inl f) : va_E)) (funext fun i => by rw [hp0_z (by decide) (by decide) (by decide) (by decide) (by decide)])
theorem az_154 (cA : ClassId) : vp_cell cA (17, .inl (fun i => hpI (hp0 154 i))) = arrV cA 17 (fun _ => defaultValue .int) := by
  rw [vp_cell_i]
  exact congrArg (arrV cA 17) (funext fun i => by rw [hp0_z (by decide) (by decide) (by decide) (by decide) (by decide)]; rfl)
theorem ea_154 {z : Nat} {cy : Nat → ClassId} : hpE z cy 154 (hp0 154) = .inl (cy 11, 17, .inl (fun i => hpI (hp0 154 i))) := by rw [hpE_i kd_154 (by decide), ln_154]
theorem ei_154 {z : Nat} {cy : Nat → ClassId} : hpE z cy 154 (hp0 154) = .inl (cy 11, 17, .inl (fun _ => hpI 0)) := by
  rw [ea_154]
  exact congrArg (fun f => (.inl (cy 11, 17, .inl f) : va_E)) (funext fun i => by rw [hp0_z (by decide) (by decide) (by decide) (by decide) (by decide)])
theorem az_155 (cA : ClassId) : vp_cell cA (17, .inl (fun i => hpI (hp0 155 i))) = arrV cA 17 (fun _ => defaultValue .int) := by
  rw [vp_cell_i]
  exact congrArg (arrV cA 17) (funext fun i => by rw [hp0_z (by decide) (by decide) (by decide) (by decide) (by decide)]; rfl)
theorem ea_155 {z : Nat} {cy : Nat → ClassId} : hpE z cy 155 (hp0 155) = .inl (cy 11, 17, .inl (fun i => hpI (hp0 155 i))) := by rw [hpE_i kd_155 (by decide), ln_155]
theorem ei_155 {z : Nat} {cy : Nat → ClassId} : hpE z cy 155 (hp0 155) = .inl (cy 11, 17, .inl (fun _ => hpI 0)) := by
  rw [ea_155]
  exact congrArg (fun f => (.inl (cy 11, 17, .inl f) : va_E)) (funext fun i => by rw [hp0_z (by decide) (by decide) (by decide) (by decide) (by decide)])
theorem az_156 (cA : ClassId) : vp_cell cA (17, .inl (fun i => hpI (hp0 156 i))) = arrV cA 17 (fun _ => defaultValue .int) := by
  rw [vp_cell_i]
  exact congrArg (arrV cA 17) (funext fun i => by rw [hp0_z (by decide) (by decide) (by decide) (by decide) (by decide)]; rfl)
theorem ea_156 {z : Nat} {cy : Nat → ClassId} : hpE z cy 156 (hp0 156) = .inl (cy 11, 17, .inl (fun i => hpI (hp0 156 i))) := by rw [hpE_i kd_156 (by decide), ln_156]
theorem ei_156 {z : Nat} {cy : Nat → ClassId} : hpE z cy 156 (hp0 156) = .inl (cy 11, 17, .inl (fun _ => hpI 0)) := by
  rw [ea_156]
  exact congrArg (fun f => (.inl (cy 11, 17, .inl f) : va_E)) (funext fun i => by rw [hp0_z (by decide) (by decide) (by decide) (by decide) (by decide)])
theorem az_157 (cA : ClassId) : vp_cell cA (17, .inl (fun i => hpI (hp0 157 i))) = arrV cA 17 (fun _ => defaultValue .int) := by
  rw [vp_cell_i]
  exact congrArg (arrV cA 17) (funext fun i => by rw [hp0_z (by decide) (by decide) (by decide) (by decide) (by decide)]; rfl)
theorem ea_157 {z : Nat} {cy : Nat → ClassId} : hpE z cy 157 (hp0 157) = .inl (cy 11, 17, .inl (fun i => hpI (hp0 157 i))) := by rw [hpE_i kd_157 (by decide), ln_157]
theorem ei_157 {z : Nat} {cy : Nat → ClassId} : hpE z cy 157 (hp0 157) = .inl (cy 11, 17, .inl (fun _ => hpI 0)) := by
  rw [ea_157]
  exact congrArg (fun f => (.inl (cy 11, 17, .inl f) : va_E)) (funext fun i => by rw [hp0_z (by decide) (by decide) (by decide) (by decide) (by decide)])
theorem az_158 (cA : ClassId) : vp_cell cA (17, .inl (fun i => hpI (hp0 158 i))) = arrV cA 17 (fun _ => defaultValue .int) := by
  rw [vp_cell_i]
  exact congrArg (arrV cA 17) (funext fun i => by rw [hp0_z (by decide) (by decide) (by decide) (by decide) (by decide)]; rfl)
theorem ea_158 {z : Nat} {cy : Nat → ClassId} : hpE z cy 158 (hp0 158) = .inl (cy 11, 17, .inl (fun i => hpI (hp0 158 i))) := by rw [hpE_i kd_158 (by decide), ln_158]
theorem ei_158 {z : Nat} {cy : Nat → ClassId} : hpE z cy 158 (hp0 158) = .inl (cy 11, 17, .inl (fun _ => hpI 0)) := by
  rw [ea_158]
  exact congrArg (fun f => (.inl (cy 11, 17, .inl f) : va_E)) (funext fun i => by rw [hp0_z (by decide) (by decide) (by decide) (by decide) (by decide)])
theorem az_159 (cA : ClassId) : vp_cell cA (17, .inl (fun i => hpI (hp0 159 i))) = arrV cA 17 (fun _ => defaultValue .int) := by
  rw [vp_cell_i]
  exact congrArg (arrV cA 17) (funext fun i => by rw [hp0_z (by decide) (by decide) (by decide) (by decide) (by decide)]; rfl)
theorem ea_159 {z : Nat} {cy : Nat → ClassId} : hpE z cy 159 (hp0 159) = .inl (cy 11, 17, .inl (fun i => hpI (hp0 159 i))) := by rw [hpE_i kd_159 (by decide), ln_159]
theorem ei_159 {z : Nat} {cy : Nat → ClassId} : hpE z cy 159 (hp0 159) = .inl (cy 11, 17, .inl (fun _ => hpI 0)) := by
  rw [ea_159]
  exact congrArg (fun f => (.inl (cy 11, 17, .inl f) : va_E)) (funext fun i => by rw [hp0_z (by decide) (by decide) (by decide) (by decide) (by decide)])
theorem az_160 (cA : ClassId) : vp_cell cA (17, .inl (fun i => hpI (hp0 160 i))) = arrV cA 17 (fun _ => defaultValue .int) := by
  rw [vp_cell_i]
  exact congrArg (arrV cA 17) (funext fun i => by rw [hp0_z (by decide) (by decide) (by decide) (by decide) (by decide)]; rfl)
theorem ea_160 {z : Nat} {cy : Nat → ClassId} : hpE z cy 160 (hp0 160) = .inl (cy 11, 17, .inl (fun i => hpI (hp0 160 i))) := by rw [hpE_i kd_160 (by decide), ln_160]
theorem ei_160 {z : Nat} {cy : Nat → ClassId} : hpE z cy 160 (hp0 160) = .inl (cy 11, 17, .inl (fun _ => hpI 0)) := by
  rw [ea_160]
  exact congrArg (fun f => (.inl (cy 11, 17, .inl f) : va_E)) (funext fun i => by rw [hp0_z (by decide) (by decide) (by decide) (by decide) (by decide)])
theorem az_161 (cA : ClassId) : vp_cell cA (17, .inl (fun i => hpI (hp0 161 i))) = arrV cA 17 (fun _ => defaultValue .int) := by
  rw [vp_cell_i]
  exact congrArg (arrV cA 17) (funext fun i => by rw [hp0_z (by decide) (by decide) (by decide) (by decide) (by decide)]; rfl)
theorem ea_161 {z : Nat} {cy : Nat → ClassId} : hpE z cy 161 (hp0 161) = .inl (cy 11, 17, .inl (fun i => hpI (hp0 161 i))) := by rw [hpE_i kd_161 (by decide), ln_161]
theorem ei_161 {z : Nat} {cy : Nat → ClassId} : hpE z cy 161 (hp0 161) = .inl (cy 11, 17, .inl (fun _ => hpI 0)) := by
  rw [ea_161]
  exact congrArg (fun f => (.inl (cy 11, 17, .inl f) : va_E)) (funext fun i => by rw [hp0_z (by decide) (by decide) (by decide) (by decide) (by decide)])
theorem az_162 (cA : ClassId) : vp_cell cA (17, .inl (fun i => hpI (hp0 162 i))) = arrV cA 17 (fun _ => defaultValue .int) := by
  rw [vp_cell_i]
  exact congrArg (arrV cA 17) (funext fun i => by rw [hp0_z (by decide) (by decide) (by decide) (by decide) (by decide)]; rfl)
theorem ea_162 {z : Nat} {cy : Nat → ClassId} : hpE z cy 162 (hp0 162) = .inl (cy 11, 17, .inl (fun i => hpI (hp0 162 i))) := by rw [hpE_i kd_162 (by decide), ln_162]
theorem ei_162 {z : Nat} {cy : Nat → ClassId} : hpE z cy 162 (hp0 162) = .inl (cy 11, 17, .inl (fun _ => hpI 0)) := by
  rw [ea_162]
  exact congrArg (fun f => (.inl (cy 11, 17, .inl f) : va_E)) (funext fun i => by rw [hp0_z (by decide) (by decide) (by decide) (by decide) (by decide)])
theorem az_163 (cA : ClassId) : vp_cell cA (17, .inl (fun i => hpI (hp0 163 i))) = arrV cA 17 (fun _ => defaultValue .int) := by
  rw [vp_cell_i]
  exact congrArg (arrV cA 17) (funext fun i => by rw [hp0_z (by decide) (by decide) (by decide) (by decide) (by decide)]; rfl)
theorem ea_163 {z : Nat} {cy : Nat → ClassId} : hpE z cy 163 (hp0 163) = .inl (cy 11, 17, .inl (fun i => hpI (hp0 163 i))) := by rw [hpE_i kd_163 (by decide), ln_163]
theorem ei_163 {z : Nat} {cy : Nat → ClassId} : hpE z cy 163 (hp0 163) = .inl (cy 11, 17, .inl (fun _ => hpI 0)) := by
  rw [ea_163]
  exact congrArg (fun f => (.inl (cy 11, 17, .inl f) : va_E)) (funext fun i => by rw [hp0_z (by decide) (by decide) (by decide) (by decide) (by decide)])
set_option maxRecDepth 20000 in
theorem eo_164 {z : Nat} {cy : Nat → ClassId} : hpE z cy 164 (hp0 164) = .inr (3, [.ref (z + 165), .ref (z + 166), .int (hpI 0), .int (hpI 0), .int (hpI 0)]) := by
  rw [hpE_o kd_164 (by decide), show hpnf 3 = 5 by decide +kernel]
  show (.inr (3, [hpfv z 164 (hp0 164) 0, hpfv z 164 (hp0 164) 1, hpfv z 164 (hp0 164) 2, hpfv z 164 (hp0 164) 3, hpfv z 164 (hp0 164) 4]) : va_E) = _
  rw [fr_164_0, fr_164_1, fi_164_2 (r := hp0 164) (a := 0) rfl, fi_164_3 (r := hp0 164) (a := 0) rfl, fi_164_4 (r := hp0 164) (a := 0) rfl]
theorem az_165 (cA : ClassId) : vp_cell cA (40, .inl (fun i => hpI (hp0 165 i))) = arrV cA 40 (fun _ => defaultValue .int) := by
  rw [vp_cell_i]
  exact congrArg (arrV cA 40) (funext fun i => by rw [hp0_z (by decide) (by decide) (by decide) (by decide) (by decide)]; rfl)
theorem ea_165 {z : Nat} {cy : Nat → ClassId} : hpE z cy 165 (hp0 165) = .inl (cy 11, 40, .inl (fun i => hpI (hp0 165 i))) := by rw [hpE_i kd_165 (by decide), ln_165]
theorem az_166 (cA : ClassId) : vp_cell cA (40, .inl (fun i => hpI (hp0 166 i))) = arrV cA 40 (fun _ => defaultValue .int) := by
  rw [vp_cell_i]
  exact congrArg (arrV cA 40) (funext fun i => by rw [hp0_z (by decide) (by decide) (by decide) (by decide) (by decide)]; rfl)
theorem ea_166 {z : Nat} {cy : Nat → ClassId} : hpE z cy 166 (hp0 166) = .inl (cy 11, 40, .inl (fun i => hpI (hp0 166 i))) := by rw [hpE_i kd_166 (by decide), ln_166]
theorem az_167 (cA : ClassId) : vp_cell cA (64, .inl (fun i => hpI (hp0 167 i))) = arrV cA 64 (fun _ => defaultValue .int) := by
  rw [vp_cell_i]
  exact congrArg (arrV cA 64) (funext fun i => by rw [hp0_z (by decide) (by decide) (by decide) (by decide) (by decide)]; rfl)
theorem ea_167 {z : Nat} {cy : Nat → ClassId} : hpE z cy 167 (hp0 167) = .inl (cy 11, 64, .inl (fun i => hpI (hp0 167 i))) := by rw [hpE_i kd_167 (by decide), ln_167]
theorem az_168 (cA : ClassId) : vp_cell cA (8, .inl (fun i => hpI (hp0 168 i))) = arrV cA 8 (fun _ => defaultValue .int) := by
  rw [vp_cell_i]
  exact congrArg (arrV cA 8) (funext fun i => by rw [hp0_z (by decide) (by decide) (by decide) (by decide) (by decide)]; rfl)
theorem ea_168 {z : Nat} {cy : Nat → ClassId} : hpE z cy 168 (hp0 168) = .inl (cy 11, 8, .inl (fun i => hpI (hp0 168 i))) := by rw [hpE_i kd_168 (by decide), ln_168]
set_option maxRecDepth 20000 in
theorem eo_169 {z : Nat} {cy : Nat → ClassId} : hpE z cy 169 (hp0 169) = .inr (1, [.ref (z + 170), .ref (z + 171), .ref (z + 172), .ref (z + 173), .ref (z + 174), .int (hpI 0), .int (hpI 0), .int (hpI 0), .int (hpI 0), .int (hpI 0), .int (hpI 0), .int (hpI 0), .int (hpI 0)]) := by
  rw [hpE_o kd_169 (by decide), show hpnf 1 = 13 by decide +kernel]
  show (.inr (1, [hpfv z 169 (hp0 169) 0, hpfv z 169 (hp0 169) 1, hpfv z 169 (hp0 169) 2, hpfv z 169 (hp0 169) 3, hpfv z 169 (hp0 169) 4, hpfv z 169 (hp0 169) 5, hpfv z 169 (hp0 169) 6, hpfv z 169 (hp0 169) 7, hpfv z 169 (hp0 169) 8, hpfv z 169 (hp0 169) 9, hpfv z 169 (hp0 169) 10, hpfv z 169 (hp0 169) 11, hpfv z 169 (hp0 169) 12]) : va_E) = _
  rw [fr_169_0, fr_169_1, fr_169_2, fr_169_3, fr_169_4, fi_169_5 (r := hp0 169) (a := 0) rfl, fi_169_6 (r := hp0 169) (a := 0) rfl, fi_169_7 (r := hp0 169) (a := 0) rfl, fi_169_8 (r := hp0 169) (a := 0) rfl, fi_169_9 (r := hp0 169) (a := 0) rfl, fi_169_10 (r := hp0 169) (a := 0) rfl, fi_169_11 (r := hp0 169) (a := 0) rfl, fi_169_12 (r := hp0 169) (a := 0) rfl]
theorem az_170 (cA : ClassId) : vp_cell cA (8, .inl (fun i => hpI (hp0 170 i))) = arrV cA 8 (fun _ => defaultValue .int) := by
  rw [vp_cell_i]
  exact congrArg (arrV cA 8) (funext fun i => by rw [hp0_z (by decide) (by decide) (by decide) (by decide) (by decide)]; rfl)
theorem ea_170 {z : Nat} {cy : Nat → ClassId} : hpE z cy 170 (hp0 170) = .inl (cy 11, 8, .inl (fun i => hpI (hp0 170 i))) := by rw [hpE_i kd_170 (by decide), ln_170]
theorem az_171 (cA : ClassId) : vp_cell cA (6, .inl (fun i => hpI (hp0 171 i))) = arrV cA 6 (fun _ => defaultValue .int) := by
  rw [vp_cell_i]
  exact congrArg (arrV cA 6) (funext fun i => by rw [hp0_z (by decide) (by decide) (by decide) (by decide) (by decide)]; rfl)
theorem ea_171 {z : Nat} {cy : Nat → ClassId} : hpE z cy 171 (hp0 171) = .inl (cy 11, 6, .inl (fun i => hpI (hp0 171 i))) := by rw [hpE_i kd_171 (by decide), ln_171]
theorem az_172 (cA : ClassId) : vp_cell cA (6, .inl (fun i => hpI (hp0 172 i))) = arrV cA 6 (fun _ => defaultValue .int) := by
  rw [vp_cell_i]
  exact congrArg (arrV cA 6) (funext fun i => by rw [hp0_z (by decide) (by decide) (by decide) (by decide) (by decide)]; rfl)
theorem ea_172 {z : Nat} {cy : Nat → ClassId} : hpE z cy 172 (hp0 172) = .inl (cy 11, 6, .inl (fun i => hpI (hp0 172 i))) := by rw [hpE_i kd_172 (by decide), ln_172]
theorem az_173 (cA : ClassId) : vp_cell cA (20, .inl (fun i => hpI (hp0 173 i))) = arrV cA 20 (fun _ => defaultValue .int) := by
  rw [vp_cell_i]
  exact congrArg (arrV cA 20) (funext fun i => by rw [hp0_z (by decide) (by decide) (by decide) (by decide) (by decide)]; rfl)
theorem ea_173 {z : Nat} {cy : Nat → ClassId} : hpE z cy 173 (hp0 173) = .inl (cy 11, 20, .inl (fun i => hpI (hp0 173 i))) := by rw [hpE_i kd_173 (by decide), ln_173]
theorem az_174 (cA : ClassId) : vp_cell cA (20, .inl (fun i => hpI (hp0 174 i))) = arrV cA 20 (fun _ => defaultValue .int) := by
  rw [vp_cell_i]
  exact congrArg (arrV cA 20) (funext fun i => by rw [hp0_z (by decide) (by decide) (by decide) (by decide) (by decide)]; rfl)
theorem ea_174 {z : Nat} {cy : Nat → ClassId} : hpE z cy 174 (hp0 174) = .inl (cy 11, 20, .inl (fun i => hpI (hp0 174 i))) := by rw [hpE_i kd_174 (by decide), ln_174]
set_option maxRecDepth 20000 in
theorem eo_175 {z : Nat} {cy : Nat → ClassId} : hpE z cy 175 (hp0 175) = .inr (1, [.ref (z + 176), .ref (z + 177), .ref (z + 178), .ref (z + 179), .ref (z + 180), .int (hpI 0), .int (hpI 0), .int (hpI 0), .int (hpI 0), .int (hpI 0), .int (hpI 0), .int (hpI 0), .int (hpI 0)]) := by
  rw [hpE_o kd_175 (by decide), show hpnf 1 = 13 by decide +kernel]
  show (.inr (1, [hpfv z 175 (hp0 175) 0, hpfv z 175 (hp0 175) 1, hpfv z 175 (hp0 175) 2, hpfv z 175 (hp0 175) 3, hpfv z 175 (hp0 175) 4, hpfv z 175 (hp0 175) 5, hpfv z 175 (hp0 175) 6, hpfv z 175 (hp0 175) 7, hpfv z 175 (hp0 175) 8, hpfv z 175 (hp0 175) 9, hpfv z 175 (hp0 175) 10, hpfv z 175 (hp0 175) 11, hpfv z 175 (hp0 175) 12]) : va_E) = _
  rw [fr_175_0, fr_175_1, fr_175_2, fr_175_3, fr_175_4, fi_175_5 (r := hp0 175) (a := 0) rfl, fi_175_6 (r := hp0 175) (a := 0) rfl, fi_175_7 (r := hp0 175) (a := 0) rfl, fi_175_8 (r := hp0 175) (a := 0) rfl, fi_175_9 (r := hp0 175) (a := 0) rfl, fi_175_10 (r := hp0 175) (a := 0) rfl, fi_175_11 (r := hp0 175) (a := 0) rfl, fi_175_12 (r := hp0 175) (a := 0) rfl]
theorem az_176 (cA : ClassId) : vp_cell cA (8, .inl (fun i => hpI (hp0 176 i))) = arrV cA 8 (fun _ => defaultValue .int) := by
  rw [vp_cell_i]
  exact congrArg (arrV cA 8) (funext fun i => by rw [hp0_z (by decide) (by decide) (by decide) (by decide) (by decide)]; rfl)
theorem ea_176 {z : Nat} {cy : Nat → ClassId} : hpE z cy 176 (hp0 176) = .inl (cy 11, 8, .inl (fun i => hpI (hp0 176 i))) := by rw [hpE_i kd_176 (by decide), ln_176]
theorem az_177 (cA : ClassId) : vp_cell cA (6, .inl (fun i => hpI (hp0 177 i))) = arrV cA 6 (fun _ => defaultValue .int) := by
  rw [vp_cell_i]
  exact congrArg (arrV cA 6) (funext fun i => by rw [hp0_z (by decide) (by decide) (by decide) (by decide) (by decide)]; rfl)
theorem ea_177 {z : Nat} {cy : Nat → ClassId} : hpE z cy 177 (hp0 177) = .inl (cy 11, 6, .inl (fun i => hpI (hp0 177 i))) := by rw [hpE_i kd_177 (by decide), ln_177]
theorem az_178 (cA : ClassId) : vp_cell cA (6, .inl (fun i => hpI (hp0 178 i))) = arrV cA 6 (fun _ => defaultValue .int) := by
  rw [vp_cell_i]
  exact congrArg (arrV cA 6) (funext fun i => by rw [hp0_z (by decide) (by decide) (by decide) (by decide) (by decide)]; rfl)
theorem ea_178 {z : Nat} {cy : Nat → ClassId} : hpE z cy 178 (hp0 178) = .inl (cy 11, 6, .inl (fun i => hpI (hp0 178 i))) := by rw [hpE_i kd_178 (by decide), ln_178]
theorem az_179 (cA : ClassId) : vp_cell cA (20, .inl (fun i => hpI (hp0 179 i))) = arrV cA 20 (fun _ => defaultValue .int) := by
  rw [vp_cell_i]
  exact congrArg (arrV cA 20) (funext fun i => by rw [hp0_z (by decide) (by decide) (by decide) (by decide) (by decide)]; rfl)
theorem ea_179 {z : Nat} {cy : Nat → ClassId} : hpE z cy 179 (hp0 179) = .inl (cy 11, 20, .inl (fun i => hpI (hp0 179 i))) := by rw [hpE_i kd_179 (by decide), ln_179]
theorem az_180 (cA : ClassId) : vp_cell cA (20, .inl (fun i => hpI (hp0 180 i))) = arrV cA 20 (fun _ => defaultValue .int) := by
  rw [vp_cell_i]
  exact congrArg (arrV cA 20) (funext fun i => by rw [hp0_z (by decide) (by decide) (by decide) (by decide) (by decide)]; rfl)
theorem ea_180 {z : Nat} {cy : Nat → ClassId} : hpE z cy 180 (hp0 180) = .inl (cy 11, 20, .inl (fun i => hpI (hp0 180 i))) := by rw [hpE_i kd_180 (by decide), ln_180]
set_option maxRecDepth 20000 in
theorem eo_181 {z : Nat} {cy : Nat → ClassId} : hpE z cy 181 (hp0 181) = .inr (1, [.ref (z + 182), .ref (z + 183), .ref (z + 184), .ref (z + 185), .ref (z + 186), .int (hpI 0), .int (hpI 0), .int (hpI 0), .int (hpI 0), .int (hpI 0), .int (hpI 0), .int (hpI 0), .int (hpI 0)]) := by
  rw [hpE_o kd_181 (by decide), show hpnf 1 = 13 by decide +kernel]
  show (.inr (1, [hpfv z 181 (hp0 181) 0, hpfv z 181 (hp0 181) 1, hpfv z 181 (hp0 181) 2, hpfv z 181 (hp0 181) 3, hpfv z 181 (hp0 181) 4, hpfv z 181 (hp0 181) 5, hpfv z 181 (hp0 181) 6, hpfv z 181 (hp0 181) 7, hpfv z 181 (hp0 181) 8, hpfv z 181 (hp0 181) 9, hpfv z 181 (hp0 181) 10, hpfv z 181 (hp0 181) 11, hpfv z 181 (hp0 181) 12]) : va_E) = _
  rw [fr_181_0, fr_181_1, fr_181_2, fr_181_3, fr_181_4, fi_181_5 (r := hp0 181) (a := 0) rfl, fi_181_6 (r := hp0 181) (a := 0) rfl, fi_181_7 (r := hp0 181) (a := 0) rfl, fi_181_8 (r := hp0 181) (a := 0) rfl, fi_181_9 (r := hp0 181) (a := 0) rfl, fi_181_10 (r := hp0 181) (a := 0) rfl, fi_181_11 (r := hp0 181) (a := 0) rfl, fi_181_12 (r := hp0 181) (a := 0) rfl]
theorem az_182 (cA : ClassId) : vp_cell cA (8, .inl (fun i => hpI (hp0 182 i))) = arrV cA 8 (fun _ => defaultValue .int) := by
  rw [vp_cell_i]
  exact congrArg (arrV cA 8) (funext fun i => by rw [hp0_z (by decide) (by decide) (by decide) (by decide) (by decide)]; rfl)
theorem ea_182 {z : Nat} {cy : Nat → ClassId} : hpE z cy 182 (hp0 182) = .inl (cy 11, 8, .inl (fun i => hpI (hp0 182 i))) := by rw [hpE_i kd_182 (by decide), ln_182]
theorem az_183 (cA : ClassId) : vp_cell cA (6, .inl (fun i => hpI (hp0 183 i))) = arrV cA 6 (fun _ => defaultValue .int) := by
  rw [vp_cell_i]
  exact congrArg (arrV cA 6) (funext fun i => by rw [hp0_z (by decide) (by decide) (by decide) (by decide) (by decide)]; rfl)
theorem ea_183 {z : Nat} {cy : Nat → ClassId} : hpE z cy 183 (hp0 183) = .inl (cy 11, 6, .inl (fun i => hpI (hp0 183 i))) := by rw [hpE_i kd_183 (by decide), ln_183]
theorem az_184 (cA : ClassId) : vp_cell cA (6, .inl (fun i => hpI (hp0 184 i))) = arrV cA 6 (fun _ => defaultValue .int) := by
  rw [vp_cell_i]
  exact congrArg (arrV cA 6) (funext fun i => by rw [hp0_z (by decide) (by decide) (by decide) (by decide) (by decide)]; rfl)
theorem ea_184 {z : Nat} {cy : Nat → ClassId} : hpE z cy 184 (hp0 184) = .inl (cy 11, 6, .inl (fun i => hpI (hp0 184 i))) := by rw [hpE_i kd_184 (by decide), ln_184]
theorem az_185 (cA : ClassId) : vp_cell cA (20, .inl (fun i => hpI (hp0 185 i))) = arrV cA 20 (fun _ => defaultValue .int) := by
  rw [vp_cell_i]
  exact congrArg (arrV cA 20) (funext fun i => by rw [hp0_z (by decide) (by decide) (by decide) (by decide) (by decide)]; rfl)
theorem ea_185 {z : Nat} {cy : Nat → ClassId} : hpE z cy 185 (hp0 185) = .inl (cy 11, 20, .inl (fun i => hpI (hp0 185 i))) := by rw [hpE_i kd_185 (by decide), ln_185]
theorem az_186 (cA : ClassId) : vp_cell cA (20, .inl (fun i => hpI (hp0 186 i))) = arrV cA 20 (fun _ => defaultValue .int) := by
  rw [vp_cell_i]
  exact congrArg (arrV cA 20) (funext fun i => by rw [hp0_z (by decide) (by decide) (by decide) (by decide) (by decide)]; rfl)
theorem ea_186 {z : Nat} {cy : Nat → ClassId} : hpE z cy 186 (hp0 186) = .inl (cy 11, 20, .inl (fun i => hpI (hp0 186 i))) := by rw [hpE_i kd_186 (by decide), ln_186]
set_option maxRecDepth 20000 in
theorem eo_187 {z : Nat} {cy : Nat → ClassId} : hpE z cy 187 (hp0 187) = .inr (6, [.ref (z + 188), .int (hpI 0), .int (hpI 0), .int (hpI 0)]) := by
  rw [hpE_o kd_187 (by decide), show hpnf 6 = 4 by decide +kernel]
  show (.inr (6, [hpfv z 187 (hp0 187) 0, hpfv z 187 (hp0 187) 1, hpfv z 187 (hp0 187) 2, hpfv z 187 (hp0 187) 3]) : va_E) = _
  rw [fr_187_0, fi_187_1 (r := hp0 187) (a := 0) rfl, fi_187_2 (r := hp0 187) (a := 0) rfl, fi_187_3 (r := hp0 187) (a := 0) rfl]
theorem az_188 (cA : ClassId) : vp_cell cA (60, .inr (.inl (fun i => hpJ (hp0 188 i)))) = arrV cA 60 (fun _ => defaultValue .long) := by
  rw [vp_cell_l]
  exact congrArg (arrV cA 60) (funext fun i => by rw [hp0_z (by decide) (by decide) (by decide) (by decide) (by decide)]; rfl)
theorem ea_188 {z : Nat} {cy : Nat → ClassId} : hpE z cy 188 (hp0 188) = .inl (cy 12, 60, .inr (.inl (fun i => hpJ (hp0 188 i)))) := by rw [hpE_l kd_188, ln_188]
set_option maxRecDepth 20000 in
theorem eo_189 {z : Nat} {cy : Nat → ClassId} : hpE z cy 189 (hp0 189) = .inr (6, [.ref (z + 190), .int (hpI 0), .int (hpI 0), .int (hpI 0)]) := by
  rw [hpE_o kd_189 (by decide), show hpnf 6 = 4 by decide +kernel]
  show (.inr (6, [hpfv z 189 (hp0 189) 0, hpfv z 189 (hp0 189) 1, hpfv z 189 (hp0 189) 2, hpfv z 189 (hp0 189) 3]) : va_E) = _
  rw [fr_189_0, fi_189_1 (r := hp0 189) (a := 0) rfl, fi_189_2 (r := hp0 189) (a := 0) rfl, fi_189_3 (r := hp0 189) (a := 0) rfl]
theorem az_190 (cA : ClassId) : vp_cell cA (60, .inr (.inl (fun i => hpJ (hp0 190 i)))) = arrV cA 60 (fun _ => defaultValue .long) := by
  rw [vp_cell_l]
  exact congrArg (arrV cA 60) (funext fun i => by rw [hp0_z (by decide) (by decide) (by decide) (by decide) (by decide)]; rfl)
theorem ea_190 {z : Nat} {cy : Nat → ClassId} : hpE z cy 190 (hp0 190) = .inl (cy 12, 60, .inr (.inl (fun i => hpJ (hp0 190 i)))) := by rw [hpE_l kd_190, ln_190]
set_option maxRecDepth 20000 in
theorem eo_191 {z : Nat} {cy : Nat → ClassId} : hpE z cy 191 (hp0 191) = .inr (6, [.ref (z + 192), .int (hpI 0), .int (hpI 0), .int (hpI 0)]) := by
  rw [hpE_o kd_191 (by decide), show hpnf 6 = 4 by decide +kernel]
  show (.inr (6, [hpfv z 191 (hp0 191) 0, hpfv z 191 (hp0 191) 1, hpfv z 191 (hp0 191) 2, hpfv z 191 (hp0 191) 3]) : va_E) = _
  rw [fr_191_0, fi_191_1 (r := hp0 191) (a := 0) rfl, fi_191_2 (r := hp0 191) (a := 0) rfl, fi_191_3 (r := hp0 191) (a := 0) rfl]
theorem az_192 (cA : ClassId) : vp_cell cA (60, .inr (.inl (fun i => hpJ (hp0 192 i)))) = arrV cA 60 (fun _ => defaultValue .long) := by
  rw [vp_cell_l]
  exact congrArg (arrV cA 60) (funext fun i => by rw [hp0_z (by decide) (by decide) (by decide) (by decide) (by decide)]; rfl)
theorem ea_192 {z : Nat} {cy : Nat → ClassId} : hpE z cy 192 (hp0 192) = .inl (cy 12, 60, .inr (.inl (fun i => hpJ (hp0 192 i)))) := by rw [hpE_l kd_192, ln_192]
set_option maxRecDepth 20000 in
theorem eo_193 {z : Nat} {cy : Nat → ClassId} : hpE z cy 193 (hp0 193) = .inr (6, [.ref (z + 194), .int (hpI 0), .int (hpI 0), .int (hpI 0)]) := by
  rw [hpE_o kd_193 (by decide), show hpnf 6 = 4 by decide +kernel]
  show (.inr (6, [hpfv z 193 (hp0 193) 0, hpfv z 193 (hp0 193) 1, hpfv z 193 (hp0 193) 2, hpfv z 193 (hp0 193) 3]) : va_E) = _
  rw [fr_193_0, fi_193_1 (r := hp0 193) (a := 0) rfl, fi_193_2 (r := hp0 193) (a := 0) rfl, fi_193_3 (r := hp0 193) (a := 0) rfl]
theorem az_194 (cA : ClassId) : vp_cell cA (60, .inr (.inl (fun i => hpJ (hp0 194 i)))) = arrV cA 60 (fun _ => defaultValue .long) := by
  rw [vp_cell_l]
  exact congrArg (arrV cA 60) (funext fun i => by rw [hp0_z (by decide) (by decide) (by decide) (by decide) (by decide)]; rfl)
theorem ea_194 {z : Nat} {cy : Nat → ClassId} : hpE z cy 194 (hp0 194) = .inl (cy 12, 60, .inr (.inl (fun i => hpJ (hp0 194 i)))) := by rw [hpE_l kd_194, ln_194]
set_option maxRecDepth 20000 in
theorem eo_195 {z : Nat} {cy : Nat → ClassId} : hpE z cy 195 (hp0 195) = .inr (9, (.int (hpI 0) :: .ref (z + 196) :: .ref (z + 197) :: .ref (z + 198) :: .ref (z + 199) :: .int (hpI 0) :: .ref (z + 200) :: .int (hpI 0) :: .int (hpI 0) :: .int (hpI 0) :: .int (hpI 0) :: .int (hpI 0) :: .int (hpI 0) :: .int (hpI (-1)) :: .ref (z + 201) :: .ref (z + 202) :: .int (hpI 0) :: .int (hpI 0) :: .int (hpI 0) :: .ref (z + 203) :: .ref (z + 204) :: .int (hpI 0) :: .int (hpI 0) :: .int (hpI 0) :: .int (hpI 0) :: .ref (z + 205) :: .ref (z + 206) :: .int (hpI 0) :: .int (hpI 0) :: .ref (z + 207) :: .ref (z + 208) :: .ref (z + 209) :: .int (hpI 0) :: .int (hpI 0) :: .ref (z + 210) :: .ref (z + 211) :: .int (hpI 0) :: .int (hpI 0) :: .ref (z + 212) :: .long (hpJ 0) :: .long (hpJ 0) :: .long (hpJ 0) :: .ref (z + 213) :: .ref (z + 214) :: .ref (z + 215) :: .ref (z + 216) :: [])) := by
  rw [hpE_o kd_195 (by decide), show hpnf 9 = 46 by decide +kernel]
  show (.inr (9, (hpfv z 195 (hp0 195) 0 :: hpfv z 195 (hp0 195) 1 :: hpfv z 195 (hp0 195) 2 :: hpfv z 195 (hp0 195) 3 :: hpfv z 195 (hp0 195) 4 :: hpfv z 195 (hp0 195) 5 :: hpfv z 195 (hp0 195) 6 :: hpfv z 195 (hp0 195) 7 :: hpfv z 195 (hp0 195) 8 :: hpfv z 195 (hp0 195) 9 :: hpfv z 195 (hp0 195) 10 :: hpfv z 195 (hp0 195) 11 :: hpfv z 195 (hp0 195) 12 :: hpfv z 195 (hp0 195) 13 :: hpfv z 195 (hp0 195) 14 :: hpfv z 195 (hp0 195) 15 :: hpfv z 195 (hp0 195) 16 :: hpfv z 195 (hp0 195) 17 :: hpfv z 195 (hp0 195) 18 :: hpfv z 195 (hp0 195) 19 :: hpfv z 195 (hp0 195) 20 :: hpfv z 195 (hp0 195) 21 :: hpfv z 195 (hp0 195) 22 :: hpfv z 195 (hp0 195) 23 :: hpfv z 195 (hp0 195) 24 :: hpfv z 195 (hp0 195) 25 :: hpfv z 195 (hp0 195) 26 :: hpfv z 195 (hp0 195) 27 :: hpfv z 195 (hp0 195) 28 :: hpfv z 195 (hp0 195) 29 :: hpfv z 195 (hp0 195) 30 :: hpfv z 195 (hp0 195) 31 :: hpfv z 195 (hp0 195) 32 :: hpfv z 195 (hp0 195) 33 :: hpfv z 195 (hp0 195) 34 :: hpfv z 195 (hp0 195) 35 :: hpfv z 195 (hp0 195) 36 :: hpfv z 195 (hp0 195) 37 :: hpfv z 195 (hp0 195) 38 :: hpfv z 195 (hp0 195) 39 :: hpfv z 195 (hp0 195) 40 :: hpfv z 195 (hp0 195) 41 :: hpfv z 195 (hp0 195) 42 :: hpfv z 195 (hp0 195) 43 :: hpfv z 195 (hp0 195) 44 :: hpfv z 195 (hp0 195) 45 :: [])) : va_E) = _
  rw [fi_195_0 (r := hp0 195) (a := 0) rfl, fr_195_1, fr_195_2, fr_195_3, fr_195_4, fi_195_5 (r := hp0 195) (a := 0) rfl, fr_195_6, fi_195_7 (r := hp0 195) (a := 0) rfl, fi_195_8 (r := hp0 195) (a := 0) rfl, fi_195_9 (r := hp0 195) (a := 0) rfl, fi_195_10 (r := hp0 195) (a := 0) rfl, fi_195_11 (r := hp0 195) (a := 0) rfl, fi_195_12 (r := hp0 195) (a := 0) rfl, fi_195_13 (r := hp0 195) (a := (-1)) rfl, fr_195_14, fr_195_15, fi_195_16 (r := hp0 195) (a := 0) rfl, fi_195_17 (r := hp0 195) (a := 0) rfl, fi_195_18 (r := hp0 195) (a := 0) rfl, fr_195_19, fr_195_20, fi_195_21 (r := hp0 195) (a := 0) rfl, fi_195_22 (r := hp0 195) (a := 0) rfl, fi_195_23 (r := hp0 195) (a := 0) rfl, fi_195_24 (r := hp0 195) (a := 0) rfl, fr_195_25, fr_195_26, fi_195_27 (r := hp0 195) (a := 0) rfl, fi_195_28 (r := hp0 195) (a := 0) rfl, fr_195_29, fr_195_30, fr_195_31, fi_195_32 (r := hp0 195) (a := 0) rfl, fi_195_33 (r := hp0 195) (a := 0) rfl, fr_195_34, fr_195_35, fi_195_36 (r := hp0 195) (a := 0) rfl, fi_195_37 (r := hp0 195) (a := 0) rfl, fr_195_38, fi_195_39 (r := hp0 195) (a := 0) rfl, fi_195_40 (r := hp0 195) (a := 0) rfl, fi_195_41 (r := hp0 195) (a := 0) rfl, fr_195_42, fr_195_43, fr_195_44, fr_195_45]
theorem az_196 (cA : ClassId) : vp_cell cA (47, .inl (fun i => hpI (hp0 196 i))) = arrV cA 47 (fun _ => defaultValue .int) := by
  rw [vp_cell_i]
  exact congrArg (arrV cA 47) (funext fun i => by rw [hp0_z (by decide) (by decide) (by decide) (by decide) (by decide)]; rfl)
theorem ea_196 {z : Nat} {cy : Nat → ClassId} : hpE z cy 196 (hp0 196) = .inl (cy 11, 47, .inl (fun i => hpI (hp0 196 i))) := by rw [hpE_i kd_196 (by decide), ln_196]
theorem az_197 (cA : ClassId) : vp_cell cA (141, .inl (fun i => hpI (hp0 197 i))) = arrV cA 141 (fun _ => defaultValue .int) := by
  rw [vp_cell_i]
  exact congrArg (arrV cA 141) (funext fun i => by rw [hp0_z (by decide) (by decide) (by decide) (by decide) (by decide)]; rfl)
theorem ea_197 {z : Nat} {cy : Nat → ClassId} : hpE z cy 197 (hp0 197) = .inl (cy 11, 141, .inl (fun i => hpI (hp0 197 i))) := by rw [hpE_i kd_197 (by decide), ln_197]
theorem az_198 (cA : ClassId) : vp_cell cA (3, .inl (fun i => hpI (hp0 198 i))) = arrV cA 3 (fun _ => defaultValue .boolean) := by
  rw [vp_cell_i]
  exact congrArg (arrV cA 3) (funext fun i => by rw [hp0_z (by decide) (by decide) (by decide) (by decide) (by decide)]; rfl)
theorem ea_198 {z : Nat} {cy : Nat → ClassId} : hpE z cy 198 (hp0 198) = .inl (cy 13, 3, .inl (fun i => hpI (hp0 198 i))) := by rw [hpE_i kd_198 (by decide), ln_198]
theorem az_199 (cA : ClassId) : vp_cell cA (500, .inl (fun i => hpI (hp0 199 i))) = arrV cA 500 (fun _ => defaultValue .byte) := by
  rw [vp_cell_i]
  exact congrArg (arrV cA 500) (funext fun i => by rw [hp0_z (by decide) (by decide) (by decide) (by decide) (by decide)]; rfl)
theorem ea_199 {z : Nat} {cy : Nat → ClassId} : hpE z cy 199 (hp0 199) = .inl (cy 10, 500, .inl (fun i => hpI (hp0 199 i))) := by rw [hpE_i kd_199 (by decide), ln_199]
theorem az_200 (cA : ClassId) : vp_cell cA (5, .inl (fun i => hpI (hp0 200 i))) = arrV cA 5 (fun _ => defaultValue .int) := by
  rw [vp_cell_i]
  exact congrArg (arrV cA 5) (funext fun i => by rw [hp0_z (by decide) (by decide) (by decide) (by decide) (by decide)]; rfl)
theorem ea_200 {z : Nat} {cy : Nat → ClassId} : hpE z cy 200 (hp0 200) = .inl (cy 11, 5, .inl (fun i => hpI (hp0 200 i))) := by rw [hpE_i kd_200 (by decide), ln_200]
theorem az_201 (cA : ClassId) : vp_cell cA (47, .inl (fun i => hpI (hp0 201 i))) = arrV cA 47 (fun _ => defaultValue .int) := by
  rw [vp_cell_i]
  exact congrArg (arrV cA 47) (funext fun i => by rw [hp0_z (by decide) (by decide) (by decide) (by decide) (by decide)]; rfl)
theorem ea_201 {z : Nat} {cy : Nat → ClassId} : hpE z cy 201 (hp0 201) = .inl (cy 11, 47, .inl (fun i => hpI (hp0 201 i))) := by rw [hpE_i kd_201 (by decide), ln_201]
theorem az_202 (cA : ClassId) : vp_cell cA (14721, .inl (fun i => hpI (hp0 202 i))) = arrV cA 14721 (fun _ => defaultValue .int) := by
  rw [vp_cell_i]
  exact congrArg (arrV cA 14721) (funext fun i => by rw [hp0_z (by decide) (by decide) (by decide) (by decide) (by decide)]; rfl)
theorem ea_202 {z : Nat} {cy : Nat → ClassId} : hpE z cy 202 (hp0 202) = .inl (cy 11, 14721, .inl (fun i => hpI (hp0 202 i))) := by rw [hpE_i kd_202 (by decide), ln_202]
theorem az_203 (cA : ClassId) : vp_cell cA (8, .inl (fun i => hpI (hp0 203 i))) = arrV cA 8 (fun _ => defaultValue .int) := by
  rw [vp_cell_i]
  exact congrArg (arrV cA 8) (funext fun i => by rw [hp0_z (by decide) (by decide) (by decide) (by decide) (by decide)]; rfl)
theorem ea_203 {z : Nat} {cy : Nat → ClassId} : hpE z cy 203 (hp0 203) = .inl (cy 11, 8, .inl (fun i => hpI (hp0 203 i))) := by rw [hpE_i kd_203 (by decide), ln_203]
theorem az_204 (cA : ClassId) : vp_cell cA (6, .inl (fun i => hpI (hp0 204 i))) = arrV cA 6 (fun _ => defaultValue .int) := by
  rw [vp_cell_i]
  exact congrArg (arrV cA 6) (funext fun i => by rw [hp0_z (by decide) (by decide) (by decide) (by decide) (by decide)]; rfl)
theorem ea_204 {z : Nat} {cy : Nat → ClassId} : hpE z cy 204 (hp0 204) = .inl (cy 11, 6, .inl (fun i => hpI (hp0 204 i))) := by rw [hpE_i kd_204 (by decide), ln_204]
theorem az_205 (cA : ClassId) : vp_cell cA (16, .inl (fun i => hpI (hp0 205 i))) = arrV cA 16 (fun _ => defaultValue .int) := by
  rw [vp_cell_i]
  exact congrArg (arrV cA 16) (funext fun i => by rw [hp0_z (by decide) (by decide) (by decide) (by decide) (by decide)]; rfl)
theorem ea_205 {z : Nat} {cy : Nat → ClassId} : hpE z cy 205 (hp0 205) = .inl (cy 11, 16, .inl (fun i => hpI (hp0 205 i))) := by rw [hpE_i kd_205 (by decide), ln_205]
theorem az_206 (cA : ClassId) : vp_cell cA (16, .inl (fun i => hpI (hp0 206 i))) = arrV cA 16 (fun _ => defaultValue .int) := by
  rw [vp_cell_i]
  exact congrArg (arrV cA 16) (funext fun i => by rw [hp0_z (by decide) (by decide) (by decide) (by decide) (by decide)]; rfl)
theorem ea_206 {z : Nat} {cy : Nat → ClassId} : hpE z cy 206 (hp0 206) = .inl (cy 11, 16, .inl (fun i => hpI (hp0 206 i))) := by rw [hpE_i kd_206 (by decide), ln_206]
theorem az_207 (cA : ClassId) : vp_cell cA (2025, .inl (fun i => hpI (hp0 207 i))) = arrV cA 2025 (fun _ => defaultValue .int) := by
  rw [vp_cell_i]
  exact congrArg (arrV cA 2025) (funext fun i => by rw [hp0_z (by decide) (by decide) (by decide) (by decide) (by decide)]; rfl)
theorem ea_207 {z : Nat} {cy : Nat → ClassId} : hpE z cy 207 (hp0 207) = .inl (cy 11, 2025, .inl (fun i => hpI (hp0 207 i))) := by rw [hpE_i kd_207 (by decide), ln_207]
theorem az_208 (cA : ClassId) : vp_cell cA (135, .inl (fun i => hpI (hp0 208 i))) = arrV cA 135 (fun _ => defaultValue .int) := by
  rw [vp_cell_i]
  exact congrArg (arrV cA 135) (funext fun i => by rw [hp0_z (by decide) (by decide) (by decide) (by decide) (by decide)]; rfl)
theorem ea_208 {z : Nat} {cy : Nat → ClassId} : hpE z cy 208 (hp0 208) = .inl (cy 11, 135, .inl (fun i => hpI (hp0 208 i))) := by rw [hpE_i kd_208 (by decide), ln_208]
theorem az_209 (cA : ClassId) : vp_cell cA (135, .inl (fun i => hpI (hp0 209 i))) = arrV cA 135 (fun _ => defaultValue .int) := by
  rw [vp_cell_i]
  exact congrArg (arrV cA 135) (funext fun i => by rw [hp0_z (by decide) (by decide) (by decide) (by decide) (by decide)]; rfl)
theorem ea_209 {z : Nat} {cy : Nat → ClassId} : hpE z cy 209 (hp0 209) = .inl (cy 11, 135, .inl (fun i => hpI (hp0 209 i))) := by rw [hpE_i kd_209 (by decide), ln_209]
theorem az_210 (cA : ClassId) : vp_cell cA (20, .inl (fun i => hpI (hp0 210 i))) = arrV cA 20 (fun _ => defaultValue .int) := by
  rw [vp_cell_i]
  exact congrArg (arrV cA 20) (funext fun i => by rw [hp0_z (by decide) (by decide) (by decide) (by decide) (by decide)]; rfl)
theorem ea_210 {z : Nat} {cy : Nat → ClassId} : hpE z cy 210 (hp0 210) = .inl (cy 11, 20, .inl (fun i => hpI (hp0 210 i))) := by rw [hpE_i kd_210 (by decide), ln_210]
theorem az_211 (cA : ClassId) : vp_cell cA (340, .inl (fun i => hpI (hp0 211 i))) = arrV cA 340 (fun _ => defaultValue .int) := by
  rw [vp_cell_i]
  exact congrArg (arrV cA 340) (funext fun i => by rw [hp0_z (by decide) (by decide) (by decide) (by decide) (by decide)]; rfl)
theorem ea_211 {z : Nat} {cy : Nat → ClassId} : hpE z cy 211 (hp0 211) = .inl (cy 11, 340, .inl (fun i => hpI (hp0 211 i))) := by rw [hpE_i kd_211 (by decide), ln_211]
theorem az_212 (cA : ClassId) : vp_cell cA (64, .inl (fun i => hpI (hp0 212 i))) = arrV cA 64 (fun _ => defaultValue .int) := by
  rw [vp_cell_i]
  exact congrArg (arrV cA 64) (funext fun i => by rw [hp0_z (by decide) (by decide) (by decide) (by decide) (by decide)]; rfl)
theorem ea_212 {z : Nat} {cy : Nat → ClassId} : hpE z cy 212 (hp0 212) = .inl (cy 11, 64, .inl (fun i => hpI (hp0 212 i))) := by rw [hpE_i kd_212 (by decide), ln_212]
theorem az_214 (cA : ClassId) : vp_cell cA (4, .inl (fun i => hpI (hp0 214 i))) = arrV cA 4 (fun _ => defaultValue .int) := by
  rw [vp_cell_i]
  exact congrArg (arrV cA 4) (funext fun i => by rw [hp0_z (by decide) (by decide) (by decide) (by decide) (by decide)]; rfl)
theorem ea_214 {z : Nat} {cy : Nat → ClassId} : hpE z cy 214 (hp0 214) = .inl (cy 11, 4, .inl (fun i => hpI (hp0 214 i))) := by rw [hpE_i kd_214 (by decide), ln_214]
theorem az_215 (cA : ClassId) : vp_cell cA (240, .inr (.inl (fun i => hpJ (hp0 215 i)))) = arrV cA 240 (fun _ => defaultValue .long) := by
  rw [vp_cell_l]
  exact congrArg (arrV cA 240) (funext fun i => by rw [hp0_z (by decide) (by decide) (by decide) (by decide) (by decide)]; rfl)
theorem ea_215 {z : Nat} {cy : Nat → ClassId} : hpE z cy 215 (hp0 215) = .inl (cy 12, 240, .inr (.inl (fun i => hpJ (hp0 215 i)))) := by rw [hpE_l kd_215, ln_215]
theorem az_216 (cA : ClassId) : vp_cell cA (60, .inr (.inl (fun i => hpJ (hp0 216 i)))) = arrV cA 60 (fun _ => defaultValue .long) := by
  rw [vp_cell_l]
  exact congrArg (arrV cA 60) (funext fun i => by rw [hp0_z (by decide) (by decide) (by decide) (by decide) (by decide)]; rfl)
theorem ea_216 {z : Nat} {cy : Nat → ClassId} : hpE z cy 216 (hp0 216) = .inl (cy 12, 60, .inr (.inl (fun i => hpJ (hp0 216 i)))) := by rw [hpE_l kd_216, ln_216]
theorem many_done {z : Nat} {cy : Nat → ClassId} : hpE z cy 213 (hp0 213) = .inl (cy 11, 4, .inl (fun j => hpI ((hpu (hpu (hpu (hpu (fun _ => (0 : Int)) 0 (-1)) 1 (-1)) 2 (-1)) 3 (-1)) j))) := by
  rw [hpE_i kd_213 (by decide), ln_213]
  refine congrArg (fun f => (.inl (cy 11, 4, .inl f) : va_E)) (funext fun i => congrArg hpI ?_)
  rcases (show i = 0 ∨ i = 1 ∨ i = 2 ∨ i = 3 ∨ 4 ≤ i by omega) with rfl | rfl | rfl | rfl | h
  · rfl
  · rfl
  · rfl
  · rfl
  · unfold hp0 hpu
    rw [if_neg (by omega), if_neg (by omega), if_neg (by omega), if_neg (by omega), if_neg (by omega), if_neg (by omega), if_neg (by omega), if_neg (by omega), if_neg (by omega)]
theorem yk_0 : hpYK yX0_init cX0_init 1 := ⟨wd_249, wd_7, wd_250, rfl, by decide +kernel, by decide +kernel, by decide +kernel⟩
theorem yk_1 : hpYK yX1_init cX1_init 1 := ⟨wd_61, wd_3, wd_62, rfl, by decide +kernel, by decide +kernel, by decide +kernel⟩
theorem yk_2 : hpYK yX2_init cX2_init 1 := ⟨wd_218, wd_6, wd_219, rfl, by decide +kernel, by decide +kernel, by decide +kernel⟩
theorem yk_3 : hpYK yX3_init cX3_init 1 := ⟨wd_149, wd_5, wd_150, rfl, by decide +kernel, by decide +kernel, by decide +kernel⟩
theorem yk_4 : hpYK yX4_init cX4_init 2 := ⟨wd_142, wd_4, wd_143, rfl, by decide +kernel, by decide +kernel, by decide +kernel⟩
theorem yk_5 : hpYK yX5_init cX5_init 1 := ⟨wd_309, wd_8, wd_310, rfl, by decide +kernel, by decide +kernel, by decide +kernel⟩
theorem yk_6 : hpYK yX6_init cX6_init 1 := ⟨wd_329, wd_9, wd_330, rfl, by decide +kernel, by decide +kernel, by decide +kernel⟩
theorem yk_7 : hpYK yX7_init cX7_init 1 := ⟨wd_29, wd_2, wd_30, rfl, by decide +kernel, by decide +kernel, by decide +kernel⟩
theorem yk_8 : hpYK yX8_init cX8_init 2 := ⟨wd_21, wd_1, wd_22, rfl, by decide +kernel, by decide +kernel, by decide +kernel⟩
theorem yk_9 : hpYK yX9_init cX9_init 1 := ⟨wd_1254, wd_10, wd_1255, rfl, by decide +kernel, by decide +kernel, by decide +kernel⟩

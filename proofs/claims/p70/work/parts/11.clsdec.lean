theorem dX0_codeOf_0 : decode cX0_codeOf 0 = .ok (.lconst 0, 1) := by decide +kernel
theorem dX0_codeOf_1 : decode cX0_codeOf 1 = .ok (.lstore_n 1, 1) := by decide +kernel
theorem dX0_codeOf_2 : decode cX0_codeOf 2 = .ok (.bipush 14, 2) := by decide +kernel
theorem dX0_codeOf_4 : decode cX0_codeOf 4 = .ok (.istore_n 3, 1) := by decide +kernel
theorem dX0_codeOf_5 : decode cX0_codeOf 5 = .ok (.iconst 0, 1) := by decide +kernel
theorem dX0_codeOf_6 : decode cX0_codeOf 6 = .ok (.istore 4, 2) := by decide +kernel
theorem dX0_codeOf_8 : decode cX0_codeOf 8 = .ok (.iload 4, 2) := by decide +kernel
theorem dX0_codeOf_10 : decode cX0_codeOf 10 = .ok (.aload_n 0, 1) := by decide +kernel
theorem dX0_codeOf_11 : decode cX0_codeOf 11 = .ok (.getfield 87, 3) := by decide +kernel
theorem dX0_codeOf_14 : decode cX0_codeOf 14 = .ok (.if_icmp .ge 50, 3) := by decide +kernel
theorem dX0_codeOf_17 : decode cX0_codeOf 17 = .ok (.iconst 0, 1) := by decide +kernel
theorem dX0_codeOf_18 : decode cX0_codeOf 18 = .ok (.istore 5, 2) := by decide +kernel
theorem dX0_codeOf_20 : decode cX0_codeOf 20 = .ok (.iload 5, 2) := by decide +kernel
theorem dX0_codeOf_22 : decode cX0_codeOf 22 = .ok (.aload_n 0, 1) := by decide +kernel
theorem dX0_codeOf_23 : decode cX0_codeOf 23 = .ok (.getfield 90, 3) := by decide +kernel
theorem dX0_codeOf_26 : decode cX0_codeOf 26 = .ok (.iload 4, 2) := by decide +kernel
theorem dX0_codeOf_28 : decode cX0_codeOf 28 = .ok (.iaload, 1) := by decide +kernel
theorem dX0_codeOf_29 : decode cX0_codeOf 29 = .ok (.if_icmp .ge 29, 3) := by decide +kernel
theorem dX0_codeOf_32 : decode cX0_codeOf 32 = .ok (.iload_n 3, 1) := by decide +kernel
theorem dX0_codeOf_33 : decode cX0_codeOf 33 = .ok (.ifCond .le 25, 3) := by decide +kernel
theorem dX0_codeOf_36 : decode cX0_codeOf 36 = .ok (.lload_n 1, 1) := by decide +kernel
theorem dX0_codeOf_37 : decode cX0_codeOf 37 = .ok (.iconst 4, 1) := by decide +kernel
theorem dX0_codeOf_38 : decode cX0_codeOf 38 = .ok (.lshl, 1) := by decide +kernel
theorem dX0_codeOf_39 : decode cX0_codeOf 39 = .ok (.aload_n 0, 1) := by decide +kernel
theorem dX0_codeOf_40 : decode cX0_codeOf 40 = .ok (.getfield 93, 3) := by decide +kernel
theorem dX0_codeOf_43 : decode cX0_codeOf 43 = .ok (.iload 4, 2) := by decide +kernel
theorem dX0_codeOf_45 : decode cX0_codeOf 45 = .ok (.iaload, 1) := by decide +kernel
theorem dX0_codeOf_46 : decode cX0_codeOf 46 = .ok (.i2l, 1) := by decide +kernel
theorem dX0_codeOf_47 : decode cX0_codeOf 47 = .ok (.lor, 1) := by decide +kernel
theorem dX0_codeOf_48 : decode cX0_codeOf 48 = .ok (.lstore_n 1, 1) := by decide +kernel
theorem dX0_codeOf_49 : decode cX0_codeOf 49 = .ok (.iinc 3 (-1), 3) := by decide +kernel
theorem dX0_codeOf_52 : decode cX0_codeOf 52 = .ok (.iinc 5 1, 3) := by decide +kernel
theorem dX0_codeOf_55 : decode cX0_codeOf 55 = .ok (.goto (-35), 3) := by decide +kernel
theorem dX0_codeOf_58 : decode cX0_codeOf 58 = .ok (.iinc 4 1, 3) := by decide +kernel
theorem dX0_codeOf_61 : decode cX0_codeOf 61 = .ok (.goto (-53), 3) := by decide +kernel
theorem dX0_codeOf_64 : decode cX0_codeOf 64 = .ok (.lload_n 1, 1) := by decide +kernel
theorem dX0_codeOf_65 : decode cX0_codeOf 65 = .ok (.iconst 4, 1) := by decide +kernel
theorem dX0_codeOf_66 : decode cX0_codeOf 66 = .ok (.iload_n 3, 1) := by decide +kernel
theorem dX0_codeOf_67 : decode cX0_codeOf 67 = .ok (.imul, 1) := by decide +kernel
theorem dX0_codeOf_68 : decode cX0_codeOf 68 = .ok (.lshl, 1) := by decide +kernel
theorem dX0_codeOf_69 : decode cX0_codeOf 69 = .ok (.lreturn, 1) := by decide +kernel
theorem dX0_codeOfParts_0 : decode cX0_codeOfParts 0 = .ok (.lconst 0, 1) := by decide +kernel
theorem dX0_codeOfParts_1 : decode cX0_codeOfParts 1 = .ok (.lstore_n 2, 1) := by decide +kernel
theorem dX0_codeOfParts_2 : decode cX0_codeOfParts 2 = .ok (.iconst 0, 1) := by decide +kernel
theorem dX0_codeOfParts_3 : decode cX0_codeOfParts 3 = .ok (.istore 4, 2) := by decide +kernel
theorem dX0_codeOfParts_5 : decode cX0_codeOfParts 5 = .ok (.iload 4, 2) := by decide +kernel
theorem dX0_codeOfParts_7 : decode cX0_codeOfParts 7 = .ok (.bipush 14, 2) := by decide +kernel
theorem dX0_codeOfParts_9 : decode cX0_codeOfParts 9 = .ok (.if_icmp .ge 32, 3) := by decide +kernel
theorem dX0_codeOfParts_12 : decode cX0_codeOfParts 12 = .ok (.lload_n 2, 1) := by decide +kernel
theorem dX0_codeOfParts_13 : decode cX0_codeOfParts 13 = .ok (.iconst 4, 1) := by decide +kernel
theorem dX0_codeOfParts_14 : decode cX0_codeOfParts 14 = .ok (.lshl, 1) := by decide +kernel
theorem dX0_codeOfParts_15 : decode cX0_codeOfParts 15 = .ok (.iload 4, 2) := by decide +kernel
theorem dX0_codeOfParts_17 : decode cX0_codeOfParts 17 = .ok (.iload_n 1, 1) := by decide +kernel
theorem dX0_codeOfParts_18 : decode cX0_codeOfParts 18 = .ok (.if_icmp .ge 13, 3) := by decide +kernel
theorem dX0_codeOfParts_21 : decode cX0_codeOfParts 21 = .ok (.aload_n 0, 1) := by decide +kernel
theorem dX0_codeOfParts_22 : decode cX0_codeOfParts 22 = .ok (.getfield 31, 3) := by decide +kernel
theorem dX0_codeOfParts_25 : decode cX0_codeOfParts 25 = .ok (.iload 4, 2) := by decide +kernel
theorem dX0_codeOfParts_27 : decode cX0_codeOfParts 27 = .ok (.iaload, 1) := by decide +kernel
theorem dX0_codeOfParts_28 : decode cX0_codeOfParts 28 = .ok (.goto 4, 3) := by decide +kernel
theorem dX0_codeOfParts_31 : decode cX0_codeOfParts 31 = .ok (.iconst 0, 1) := by decide +kernel
theorem dX0_codeOfParts_32 : decode cX0_codeOfParts 32 = .ok (.i2l, 1) := by decide +kernel
theorem dX0_codeOfParts_33 : decode cX0_codeOfParts 33 = .ok (.lor, 1) := by decide +kernel
theorem dX0_codeOfParts_34 : decode cX0_codeOfParts 34 = .ok (.lstore_n 2, 1) := by decide +kernel
theorem dX0_codeOfParts_35 : decode cX0_codeOfParts 35 = .ok (.iinc 4 1, 3) := by decide +kernel
theorem dX0_codeOfParts_38 : decode cX0_codeOfParts 38 = .ok (.goto (-33), 3) := by decide +kernel
theorem dX0_codeOfParts_41 : decode cX0_codeOfParts 41 = .ok (.lload_n 2, 1) := by decide +kernel
theorem dX0_codeOfParts_42 : decode cX0_codeOfParts 42 = .ok (.lreturn, 1) := by decide +kernel
theorem dX0_comersTo_0 : decode cX0_comersTo 0 = .ok (.aload_n 0, 1) := by decide +kernel
theorem dX0_comersTo_1 : decode cX0_comersTo 1 = .ok (.getfield 19, 3) := by decide +kernel
theorem dX0_comersTo_4 : decode cX0_comersTo 4 = .ok (.aload_n 0, 1) := by decide +kernel
theorem dX0_comersTo_5 : decode cX0_comersTo 5 = .ok (.aload_n 1, 1) := by decide +kernel
theorem dX0_comersTo_6 : decode cX0_comersTo 6 = .ok (.invokestatic 113, 3) := by decide +kernel
theorem dX0_comersTo_9 : decode cX0_comersTo 9 = .ok (.invokevirtual 117, 3) := by decide +kernel
theorem dX0_comersTo_12 : decode cX0_comersTo 12 = .ok (.iaload, 1) := by decide +kernel
theorem dX0_comersTo_13 : decode cX0_comersTo 13 = .ok (.ireturn, 1) := by decide +kernel
theorem dX0_countRings_0 : decode cX0_countRings 0 = .ok (.aload_n 0, 1) := by decide +kernel
theorem dX0_countRings_1 : decode cX0_countRings 1 = .ok (.iconst 0, 1) := by decide +kernel
theorem dX0_countRings_2 : decode cX0_countRings 2 = .ok (.putfield 130, 3) := by decide +kernel
theorem dX0_countRings_5 : decode cX0_countRings 5 = .ok (.iconst 0, 1) := by decide +kernel
theorem dX0_countRings_6 : decode cX0_countRings 6 = .ok (.istore_n 1, 1) := by decide +kernel
theorem dX0_countRings_7 : decode cX0_countRings 7 = .ok (.iload_n 1, 1) := by decide +kernel
theorem dX0_countRings_8 : decode cX0_countRings 8 = .ok (.aload_n 0, 1) := by decide +kernel
theorem dX0_countRings_9 : decode cX0_countRings 9 = .ok (.getfield 59, 3) := by decide +kernel
theorem dX0_countRings_12 : decode cX0_countRings 12 = .ok (.if_icmp .ge 69, 3) := by decide +kernel
theorem dX0_countRings_15 : decode cX0_countRings 15 = .ok (.aload_n 0, 1) := by decide +kernel
theorem dX0_countRings_16 : decode cX0_countRings 16 = .ok (.getfield 22, 3) := by decide +kernel
theorem dX0_countRings_19 : decode cX0_countRings 19 = .ok (.iload_n 1, 1) := by decide +kernel
theorem dX0_countRings_20 : decode cX0_countRings 20 = .ok (.iaload, 1) := by decide +kernel
theorem dX0_countRings_21 : decode cX0_countRings 21 = .ok (.ifCond .le 13, 3) := by decide +kernel
theorem dX0_countRings_24 : decode cX0_countRings 24 = .ok (.aload_n 0, 1) := by decide +kernel
theorem dX0_countRings_25 : decode cX0_countRings 25 = .ok (.dup, 1) := by decide +kernel
theorem dX0_countRings_26 : decode cX0_countRings 26 = .ok (.getfield 130, 3) := by decide +kernel
theorem dX0_countRings_29 : decode cX0_countRings 29 = .ok (.iconst 1, 1) := by decide +kernel
theorem dX0_countRings_30 : decode cX0_countRings 30 = .ok (.iadd, 1) := by decide +kernel
theorem dX0_countRings_31 : decode cX0_countRings 31 = .ok (.putfield 130, 3) := by decide +kernel
theorem dX0_countRings_34 : decode cX0_countRings 34 = .ok (.iload_n 1, 1) := by decide +kernel
theorem dX0_countRings_35 : decode cX0_countRings 35 = .ok (.istore_n 2, 1) := by decide +kernel
theorem dX0_countRings_36 : decode cX0_countRings 36 = .ok (.iconst 0, 1) := by decide +kernel
theorem dX0_countRings_37 : decode cX0_countRings 37 = .ok (.istore_n 3, 1) := by decide +kernel
theorem dX0_countRings_38 : decode cX0_countRings 38 = .ok (.iload_n 3, 1) := by decide +kernel
theorem dX0_countRings_39 : decode cX0_countRings 39 = .ok (.aload_n 0, 1) := by decide +kernel
theorem dX0_countRings_40 : decode cX0_countRings 40 = .ok (.getfield 59, 3) := by decide +kernel
theorem dX0_countRings_43 : decode cX0_countRings 43 = .ok (.if_icmp .ge 32, 3) := by decide +kernel
theorem dX0_countRings_46 : decode cX0_countRings 46 = .ok (.aload_n 0, 1) := by decide +kernel
theorem dX0_countRings_47 : decode cX0_countRings 47 = .ok (.getfield 22, 3) := by decide +kernel
theorem dX0_countRings_50 : decode cX0_countRings 50 = .ok (.iload_n 2, 1) := by decide +kernel
theorem dX0_countRings_51 : decode cX0_countRings 51 = .ok (.iaload, 1) := by decide +kernel
theorem dX0_countRings_52 : decode cX0_countRings 52 = .ok (.ifCond .le 23, 3) := by decide +kernel
theorem dX0_countRings_55 : decode cX0_countRings 55 = .ok (.aload_n 0, 1) := by decide +kernel
theorem dX0_countRings_56 : decode cX0_countRings 56 = .ok (.getfield 22, 3) := by decide +kernel
theorem dX0_countRings_59 : decode cX0_countRings 59 = .ok (.iload_n 2, 1) := by decide +kernel
theorem dX0_countRings_60 : decode cX0_countRings 60 = .ok (.iconst 0, 1) := by decide +kernel
theorem dX0_countRings_61 : decode cX0_countRings 61 = .ok (.iastore, 1) := by decide +kernel
theorem dX0_countRings_62 : decode cX0_countRings 62 = .ok (.aload_n 0, 1) := by decide +kernel
theorem dX0_countRings_63 : decode cX0_countRings 63 = .ok (.getfield 15, 3) := by decide +kernel
theorem dX0_countRings_66 : decode cX0_countRings 66 = .ok (.iload_n 2, 1) := by decide +kernel
theorem dX0_countRings_67 : decode cX0_countRings 67 = .ok (.iaload, 1) := by decide +kernel
theorem dX0_countRings_68 : decode cX0_countRings 68 = .ok (.istore_n 2, 1) := by decide +kernel
theorem dX0_countRings_69 : decode cX0_countRings 69 = .ok (.iinc 3 1, 3) := by decide +kernel
theorem dX0_countRings_72 : decode cX0_countRings 72 = .ok (.goto (-34), 3) := by decide +kernel
theorem dX0_countRings_75 : decode cX0_countRings 75 = .ok (.iinc 1 1, 3) := by decide +kernel
theorem dX0_countRings_78 : decode cX0_countRings 78 = .ok (.goto (-71), 3) := by decide +kernel
theorem dX0_countRings_81 : decode cX0_countRings 81 = .ok (.return_, 1) := by decide +kernel
theorem dX0_fill_0 : decode cX0_fill 0 = .ok (.aload_n 0, 1) := by decide +kernel
theorem dX0_fill_1 : decode cX0_fill 1 = .ok (.getfield 37, 3) := by decide +kernel
theorem dX0_fill_4 : decode cX0_fill 4 = .ok (.invokevirtual 96, 3) := by decide +kernel
theorem dX0_fill_7 : decode cX0_fill 7 = .ok (.iconst 0, 1) := by decide +kernel
theorem dX0_fill_8 : decode cX0_fill 8 = .ok (.istore_n 3, 1) := by decide +kernel
theorem dX0_fill_9 : decode cX0_fill 9 = .ok (.iload_n 3, 1) := by decide +kernel
theorem dX0_fill_10 : decode cX0_fill 10 = .ok (.bipush 14, 2) := by decide +kernel
theorem dX0_fill_12 : decode cX0_fill 12 = .ok (.if_icmp .ge 21, 3) := by decide +kernel
theorem dX0_fill_15 : decode cX0_fill 15 = .ok (.aload_n 0, 1) := by decide +kernel
theorem dX0_fill_16 : decode cX0_fill 16 = .ok (.getfield 37, 3) := by decide +kernel
theorem dX0_fill_19 : decode cX0_fill 19 = .ok (.lload_n 1, 1) := by decide +kernel
theorem dX0_fill_20 : decode cX0_fill 20 = .ok (.iload_n 3, 1) := by decide +kernel
theorem dX0_fill_21 : decode cX0_fill 21 = .ok (.invokestatic 99, 3) := by decide +kernel
theorem dX0_fill_24 : decode cX0_fill 24 = .ok (.invokevirtual 103, 3) := by decide +kernel
theorem dX0_fill_27 : decode cX0_fill 27 = .ok (.iinc 3 1, 3) := by decide +kernel
theorem dX0_fill_30 : decode cX0_fill 30 = .ok (.goto (-21), 3) := by decide +kernel
theorem dX0_fill_33 : decode cX0_fill 33 = .ok (.return_, 1) := by decide +kernel
theorem dX0_heapOfCode_0 : decode cX0_heapOfCode 0 = .ok (.iload_n 2, 1) := by decide +kernel
theorem dX0_heapOfCode_1 : decode cX0_heapOfCode 1 = .ok (.bipush 14, 2) := by decide +kernel
theorem dX0_heapOfCode_3 : decode cX0_heapOfCode 3 = .ok (.if_icmp .ge 19, 3) := by decide +kernel
theorem dX0_heapOfCode_6 : decode cX0_heapOfCode 6 = .ok (.lload_n 0, 1) := by decide +kernel
theorem dX0_heapOfCode_7 : decode cX0_heapOfCode 7 = .ok (.iconst 4, 1) := by decide +kernel
theorem dX0_heapOfCode_8 : decode cX0_heapOfCode 8 = .ok (.bipush 13, 2) := by decide +kernel
theorem dX0_heapOfCode_10 : decode cX0_heapOfCode 10 = .ok (.iload_n 2, 1) := by decide +kernel
theorem dX0_heapOfCode_11 : decode cX0_heapOfCode 11 = .ok (.isub, 1) := by decide +kernel
theorem dX0_heapOfCode_12 : decode cX0_heapOfCode 12 = .ok (.imul, 1) := by decide +kernel
theorem dX0_heapOfCode_13 : decode cX0_heapOfCode 13 = .ok (.lshr, 1) := by decide +kernel
theorem dX0_heapOfCode_14 : decode cX0_heapOfCode 14 = .ok (.ldc2_w 85, 3) := by decide +kernel
theorem dX0_heapOfCode_17 : decode cX0_heapOfCode 17 = .ok (.land, 1) := by decide +kernel
theorem dX0_heapOfCode_18 : decode cX0_heapOfCode 18 = .ok (.l2i, 1) := by decide +kernel
theorem dX0_heapOfCode_19 : decode cX0_heapOfCode 19 = .ok (.goto 4, 3) := by decide +kernel
theorem dX0_heapOfCode_22 : decode cX0_heapOfCode 22 = .ok (.iconst 0, 1) := by decide +kernel
theorem dX0_heapOfCode_23 : decode cX0_heapOfCode 23 = .ok (.ireturn, 1) := by decide +kernel
theorem dX0_heapOfFirstComer_0 : decode cX0_heapOfFirstComer 0 = .ok (.aload_n 0, 1) := by decide +kernel
theorem dX0_heapOfFirstComer_1 : decode cX0_heapOfFirstComer 1 = .ok (.aload_n 1, 1) := by decide +kernel
theorem dX0_heapOfFirstComer_2 : decode cX0_heapOfFirstComer 2 = .ok (.invokestatic 113, 3) := by decide +kernel
theorem dX0_heapOfFirstComer_5 : decode cX0_heapOfFirstComer 5 = .ok (.invokevirtual 117, 3) := by decide +kernel
theorem dX0_heapOfFirstComer_8 : decode cX0_heapOfFirstComer 8 = .ok (.istore_n 3, 1) := by decide +kernel
theorem dX0_heapOfFirstComer_9 : decode cX0_heapOfFirstComer 9 = .ok (.iconst 0, 1) := by decide +kernel
theorem dX0_heapOfFirstComer_10 : decode cX0_heapOfFirstComer 10 = .ok (.istore 4, 2) := by decide +kernel
theorem dX0_heapOfFirstComer_12 : decode cX0_heapOfFirstComer 12 = .ok (.iload 4, 2) := by decide +kernel
theorem dX0_heapOfFirstComer_14 : decode cX0_heapOfFirstComer 14 = .ok (.aload_n 0, 1) := by decide +kernel
theorem dX0_heapOfFirstComer_15 : decode cX0_heapOfFirstComer 15 = .ok (.getfield 59, 3) := by decide +kernel
theorem dX0_heapOfFirstComer_18 : decode cX0_heapOfFirstComer 18 = .ok (.if_icmp .ge 45, 3) := by decide +kernel
theorem dX0_heapOfFirstComer_21 : decode cX0_heapOfFirstComer 21 = .ok (.aload_n 0, 1) := by decide +kernel
theorem dX0_heapOfFirstComer_22 : decode cX0_heapOfFirstComer 22 = .ok (.getfield 15, 3) := by decide +kernel
theorem dX0_heapOfFirstComer_25 : decode cX0_heapOfFirstComer 25 = .ok (.iload 4, 2) := by decide +kernel
theorem dX0_heapOfFirstComer_27 : decode cX0_heapOfFirstComer 27 = .ok (.iaload, 1) := by decide +kernel
theorem dX0_heapOfFirstComer_28 : decode cX0_heapOfFirstComer 28 = .ok (.iload_n 3, 1) := by decide +kernel
theorem dX0_heapOfFirstComer_29 : decode cX0_heapOfFirstComer 29 = .ok (.if_icmp .ne 28, 3) := by decide +kernel
theorem dX0_heapOfFirstComer_32 : decode cX0_heapOfFirstComer 32 = .ok (.aload_n 0, 1) := by decide +kernel
theorem dX0_heapOfFirstComer_33 : decode cX0_heapOfFirstComer 33 = .ok (.getfield 11, 3) := by decide +kernel
theorem dX0_heapOfFirstComer_36 : decode cX0_heapOfFirstComer 36 = .ok (.iload 4, 2) := by decide +kernel
theorem dX0_heapOfFirstComer_38 : decode cX0_heapOfFirstComer 38 = .ok (.laload, 1) := by decide +kernel
theorem dX0_heapOfFirstComer_39 : decode cX0_heapOfFirstComer 39 = .ok (.iload_n 2, 1) := by decide +kernel
theorem dX0_heapOfFirstComer_40 : decode cX0_heapOfFirstComer 40 = .ok (.invokestatic 99, 3) := by decide +kernel
theorem dX0_heapOfFirstComer_43 : decode cX0_heapOfFirstComer 43 = .ok (.istore 5, 2) := by decide +kernel
theorem dX0_heapOfFirstComer_45 : decode cX0_heapOfFirstComer 45 = .ok (.iload 5, 2) := by decide +kernel
theorem dX0_heapOfFirstComer_47 : decode cX0_heapOfFirstComer 47 = .ok (.ifCond .le 8, 3) := by decide +kernel
theorem dX0_heapOfFirstComer_50 : decode cX0_heapOfFirstComer 50 = .ok (.iload 5, 2) := by decide +kernel
theorem dX0_heapOfFirstComer_52 : decode cX0_heapOfFirstComer 52 = .ok (.goto 4, 3) := by decide +kernel
theorem dX0_heapOfFirstComer_55 : decode cX0_heapOfFirstComer 55 = .ok (.iconst (-1), 1) := by decide +kernel
theorem dX0_heapOfFirstComer_56 : decode cX0_heapOfFirstComer 56 = .ok (.ireturn, 1) := by decide +kernel
theorem dX0_heapOfFirstComer_57 : decode cX0_heapOfFirstComer 57 = .ok (.iinc 4 1, 3) := by decide +kernel
theorem dX0_heapOfFirstComer_60 : decode cX0_heapOfFirstComer 60 = .ok (.goto (-48), 3) := by decide +kernel
theorem dX0_heapOfFirstComer_63 : decode cX0_heapOfFirstComer 63 = .ok (.iconst (-1), 1) := by decide +kernel
theorem dX0_heapOfFirstComer_64 : decode cX0_heapOfFirstComer 64 = .ok (.ireturn, 1) := by decide +kernel
theorem dX0_indexOf_0 : decode cX0_indexOf 0 = .ok (.iconst 0, 1) := by decide +kernel
theorem dX0_indexOf_1 : decode cX0_indexOf 1 = .ok (.istore_n 3, 1) := by decide +kernel
theorem dX0_indexOf_2 : decode cX0_indexOf 2 = .ok (.aload_n 0, 1) := by decide +kernel
theorem dX0_indexOf_3 : decode cX0_indexOf 3 = .ok (.getfield 59, 3) := by decide +kernel
theorem dX0_indexOf_6 : decode cX0_indexOf 6 = .ok (.iconst 1, 1) := by decide +kernel
theorem dX0_indexOf_7 : decode cX0_indexOf 7 = .ok (.isub, 1) := by decide +kernel
theorem dX0_indexOf_8 : decode cX0_indexOf 8 = .ok (.istore 4, 2) := by decide +kernel
theorem dX0_indexOf_10 : decode cX0_indexOf 10 = .ok (.iconst 0, 1) := by decide +kernel
theorem dX0_indexOf_11 : decode cX0_indexOf 11 = .ok (.istore 5, 2) := by decide +kernel
theorem dX0_indexOf_13 : decode cX0_indexOf 13 = .ok (.iload 5, 2) := by decide +kernel
theorem dX0_indexOf_15 : decode cX0_indexOf 15 = .ok (.sipush 135, 3) := by decide +kernel
theorem dX0_indexOf_18 : decode cX0_indexOf 18 = .ok (.if_icmp .ge 47, 3) := by decide +kernel
theorem dX0_indexOf_21 : decode cX0_indexOf 21 = .ok (.iload_n 3, 1) := by decide +kernel
theorem dX0_indexOf_22 : decode cX0_indexOf 22 = .ok (.iload 4, 2) := by decide +kernel
theorem dX0_indexOf_24 : decode cX0_indexOf 24 = .ok (.if_icmp .ge 41, 3) := by decide +kernel
theorem dX0_indexOf_27 : decode cX0_indexOf 27 = .ok (.iload_n 3, 1) := by decide +kernel
theorem dX0_indexOf_28 : decode cX0_indexOf 28 = .ok (.iload 4, 2) := by decide +kernel
theorem dX0_indexOf_30 : decode cX0_indexOf 30 = .ok (.iadd, 1) := by decide +kernel
theorem dX0_indexOf_31 : decode cX0_indexOf 31 = .ok (.iconst 2, 1) := by decide +kernel
theorem dX0_indexOf_32 : decode cX0_indexOf 32 = .ok (.idiv, 1) := by decide +kernel
theorem dX0_indexOf_33 : decode cX0_indexOf 33 = .ok (.istore 6, 2) := by decide +kernel
theorem dX0_indexOf_35 : decode cX0_indexOf 35 = .ok (.aload_n 0, 1) := by decide +kernel
theorem dX0_indexOf_36 : decode cX0_indexOf 36 = .ok (.getfield 11, 3) := by decide +kernel
theorem dX0_indexOf_39 : decode cX0_indexOf 39 = .ok (.iload 6, 2) := by decide +kernel
theorem dX0_indexOf_41 : decode cX0_indexOf 41 = .ok (.laload, 1) := by decide +kernel
theorem dX0_indexOf_42 : decode cX0_indexOf 42 = .ok (.lload_n 1, 1) := by decide +kernel
theorem dX0_indexOf_43 : decode cX0_indexOf 43 = .ok (.lcmp, 1) := by decide +kernel
theorem dX0_indexOf_44 : decode cX0_indexOf 44 = .ok (.ifCond .le 11, 3) := by decide +kernel
theorem dX0_indexOf_47 : decode cX0_indexOf 47 = .ok (.iload 6, 2) := by decide +kernel
theorem dX0_indexOf_49 : decode cX0_indexOf 49 = .ok (.iconst 1, 1) := by decide +kernel
theorem dX0_indexOf_50 : decode cX0_indexOf 50 = .ok (.iadd, 1) := by decide +kernel
theorem dX0_indexOf_51 : decode cX0_indexOf 51 = .ok (.istore_n 3, 1) := by decide +kernel
theorem dX0_indexOf_52 : decode cX0_indexOf 52 = .ok (.goto 7, 3) := by decide +kernel
theorem dX0_indexOf_55 : decode cX0_indexOf 55 = .ok (.iload 6, 2) := by decide +kernel
theorem dX0_indexOf_57 : decode cX0_indexOf 57 = .ok (.istore 4, 2) := by decide +kernel
theorem dX0_indexOf_59 : decode cX0_indexOf 59 = .ok (.iinc 5 1, 3) := by decide +kernel
theorem dX0_indexOf_62 : decode cX0_indexOf 62 = .ok (.goto (-49), 3) := by decide +kernel
theorem dX0_indexOf_65 : decode cX0_indexOf 65 = .ok (.iload_n 3, 1) := by decide +kernel
theorem dX0_indexOf_66 : decode cX0_indexOf 66 = .ok (.ireturn, 1) := by decide +kernel
theorem dX0_linkRows_0 : decode cX0_linkRows 0 = .ok (.iconst 0, 1) := by decide +kernel
theorem dX0_linkRows_1 : decode cX0_linkRows 1 = .ok (.istore_n 2, 1) := by decide +kernel
theorem dX0_linkRows_2 : decode cX0_linkRows 2 = .ok (.iload_n 2, 1) := by decide +kernel
theorem dX0_linkRows_3 : decode cX0_linkRows 3 = .ok (.aload_n 0, 1) := by decide +kernel
theorem dX0_linkRows_4 : decode cX0_linkRows 4 = .ok (.getfield 59, 3) := by decide +kernel
theorem dX0_linkRows_7 : decode cX0_linkRows 7 = .ok (.if_icmp .ge 16, 3) := by decide +kernel
theorem dX0_linkRows_10 : decode cX0_linkRows 10 = .ok (.aload_n 0, 1) := by decide +kernel
theorem dX0_linkRows_11 : decode cX0_linkRows 11 = .ok (.getfield 19, 3) := by decide +kernel
theorem dX0_linkRows_14 : decode cX0_linkRows 14 = .ok (.iload_n 2, 1) := by decide +kernel
theorem dX0_linkRows_15 : decode cX0_linkRows 15 = .ok (.iconst 0, 1) := by decide +kernel
theorem dX0_linkRows_16 : decode cX0_linkRows 16 = .ok (.iastore, 1) := by decide +kernel
theorem dX0_linkRows_17 : decode cX0_linkRows 17 = .ok (.iinc 2 1, 3) := by decide +kernel
theorem dX0_linkRows_20 : decode cX0_linkRows 20 = .ok (.goto (-18), 3) := by decide +kernel
theorem dX0_linkRows_23 : decode cX0_linkRows 23 = .ok (.iconst 0, 1) := by decide +kernel
theorem dX0_linkRows_24 : decode cX0_linkRows 24 = .ok (.istore_n 2, 1) := by decide +kernel
theorem dX0_linkRows_25 : decode cX0_linkRows 25 = .ok (.iload_n 2, 1) := by decide +kernel
theorem dX0_linkRows_26 : decode cX0_linkRows 26 = .ok (.aload_n 0, 1) := by decide +kernel
theorem dX0_linkRows_27 : decode cX0_linkRows 27 = .ok (.getfield 59, 3) := by decide +kernel
theorem dX0_linkRows_30 : decode cX0_linkRows 30 = .ok (.if_icmp .ge 59, 3) := by decide +kernel
theorem dX0_linkRows_33 : decode cX0_linkRows 33 = .ok (.aload_n 0, 1) := by decide +kernel
theorem dX0_linkRows_34 : decode cX0_linkRows 34 = .ok (.aload_n 0, 1) := by decide +kernel
theorem dX0_linkRows_35 : decode cX0_linkRows 35 = .ok (.getfield 11, 3) := by decide +kernel
theorem dX0_linkRows_38 : decode cX0_linkRows 38 = .ok (.iload_n 2, 1) := by decide +kernel
theorem dX0_linkRows_39 : decode cX0_linkRows 39 = .ok (.laload, 1) := by decide +kernel
theorem dX0_linkRows_40 : decode cX0_linkRows 40 = .ok (.invokevirtual 106, 3) := by decide +kernel
theorem dX0_linkRows_43 : decode cX0_linkRows 43 = .ok (.aload_n 0, 1) := by decide +kernel
theorem dX0_linkRows_44 : decode cX0_linkRows 44 = .ok (.getfield 37, 3) := by decide +kernel
theorem dX0_linkRows_47 : decode cX0_linkRows 47 = .ok (.iload_n 1, 1) := by decide +kernel
theorem dX0_linkRows_48 : decode cX0_linkRows 48 = .ok (.invokevirtual 110, 3) := by decide +kernel
theorem dX0_linkRows_51 : decode cX0_linkRows 51 = .ok (.aload_n 0, 1) := by decide +kernel
theorem dX0_linkRows_52 : decode cX0_linkRows 52 = .ok (.getfield 15, 3) := by decide +kernel
theorem dX0_linkRows_55 : decode cX0_linkRows 55 = .ok (.iload_n 2, 1) := by decide +kernel
theorem dX0_linkRows_56 : decode cX0_linkRows 56 = .ok (.aload_n 0, 1) := by decide +kernel
theorem dX0_linkRows_57 : decode cX0_linkRows 57 = .ok (.aload_n 0, 1) := by decide +kernel
theorem dX0_linkRows_58 : decode cX0_linkRows 58 = .ok (.getfield 37, 3) := by decide +kernel
theorem dX0_linkRows_61 : decode cX0_linkRows 61 = .ok (.invokestatic 113, 3) := by decide +kernel
theorem dX0_linkRows_64 : decode cX0_linkRows 64 = .ok (.invokevirtual 117, 3) := by decide +kernel
theorem dX0_linkRows_67 : decode cX0_linkRows 67 = .ok (.iastore, 1) := by decide +kernel
theorem dX0_linkRows_68 : decode cX0_linkRows 68 = .ok (.aload_n 0, 1) := by decide +kernel
theorem dX0_linkRows_69 : decode cX0_linkRows 69 = .ok (.getfield 19, 3) := by decide +kernel
theorem dX0_linkRows_72 : decode cX0_linkRows 72 = .ok (.aload_n 0, 1) := by decide +kernel
theorem dX0_linkRows_73 : decode cX0_linkRows 73 = .ok (.getfield 15, 3) := by decide +kernel
theorem dX0_linkRows_76 : decode cX0_linkRows 76 = .ok (.iload_n 2, 1) := by decide +kernel
theorem dX0_linkRows_77 : decode cX0_linkRows 77 = .ok (.iaload, 1) := by decide +kernel
theorem dX0_linkRows_78 : decode cX0_linkRows 78 = .ok (.dup2, 1) := by decide +kernel
theorem dX0_linkRows_79 : decode cX0_linkRows 79 = .ok (.iaload, 1) := by decide +kernel
theorem dX0_linkRows_80 : decode cX0_linkRows 80 = .ok (.iconst 1, 1) := by decide +kernel
theorem dX0_linkRows_81 : decode cX0_linkRows 81 = .ok (.iadd, 1) := by decide +kernel
theorem dX0_linkRows_82 : decode cX0_linkRows 82 = .ok (.iastore, 1) := by decide +kernel
theorem dX0_linkRows_83 : decode cX0_linkRows 83 = .ok (.iinc 2 1, 3) := by decide +kernel
theorem dX0_linkRows_86 : decode cX0_linkRows 86 = .ok (.goto (-61), 3) := by decide +kernel
theorem dX0_linkRows_89 : decode cX0_linkRows 89 = .ok (.aload_n 0, 1) := by decide +kernel
theorem dX0_linkRows_90 : decode cX0_linkRows 90 = .ok (.iconst 0, 1) := by decide +kernel
theorem dX0_linkRows_91 : decode cX0_linkRows 91 = .ok (.putfield 121, 3) := by decide +kernel
theorem dX0_linkRows_94 : decode cX0_linkRows 94 = .ok (.iconst 0, 1) := by decide +kernel
theorem dX0_linkRows_95 : decode cX0_linkRows 95 = .ok (.istore_n 2, 1) := by decide +kernel
theorem dX0_linkRows_96 : decode cX0_linkRows 96 = .ok (.iload_n 2, 1) := by decide +kernel
theorem dX0_linkRows_97 : decode cX0_linkRows 97 = .ok (.aload_n 0, 1) := by decide +kernel
theorem dX0_linkRows_98 : decode cX0_linkRows 98 = .ok (.getfield 59, 3) := by decide +kernel
theorem dX0_linkRows_101 : decode cX0_linkRows 101 = .ok (.if_icmp .ge 44, 3) := by decide +kernel
theorem dX0_linkRows_104 : decode cX0_linkRows 104 = .ok (.aload_n 0, 1) := by decide +kernel
theorem dX0_linkRows_105 : decode cX0_linkRows 105 = .ok (.getfield 22, 3) := by decide +kernel
theorem dX0_linkRows_108 : decode cX0_linkRows 108 = .ok (.iload_n 2, 1) := by decide +kernel
theorem dX0_linkRows_109 : decode cX0_linkRows 109 = .ok (.aload_n 0, 1) := by decide +kernel
theorem dX0_linkRows_110 : decode cX0_linkRows 110 = .ok (.getfield 19, 3) := by decide +kernel
theorem dX0_linkRows_113 : decode cX0_linkRows 113 = .ok (.iload_n 2, 1) := by decide +kernel
theorem dX0_linkRows_114 : decode cX0_linkRows 114 = .ok (.iaload, 1) := by decide +kernel
theorem dX0_linkRows_115 : decode cX0_linkRows 115 = .ok (.iastore, 1) := by decide +kernel
theorem dX0_linkRows_116 : decode cX0_linkRows 116 = .ok (.aload_n 0, 1) := by decide +kernel
theorem dX0_linkRows_117 : decode cX0_linkRows 117 = .ok (.dup, 1) := by decide +kernel
theorem dX0_linkRows_118 : decode cX0_linkRows 118 = .ok (.getfield 121, 3) := by decide +kernel
theorem dX0_linkRows_121 : decode cX0_linkRows 121 = .ok (.aload_n 0, 1) := by decide +kernel
theorem dX0_linkRows_122 : decode cX0_linkRows 122 = .ok (.getfield 19, 3) := by decide +kernel
theorem dX0_linkRows_125 : decode cX0_linkRows 125 = .ok (.iload_n 2, 1) := by decide +kernel
theorem dX0_linkRows_126 : decode cX0_linkRows 126 = .ok (.iaload, 1) := by decide +kernel
theorem dX0_linkRows_127 : decode cX0_linkRows 127 = .ok (.ifCond .ne 7, 3) := by decide +kernel
theorem dX0_linkRows_130 : decode cX0_linkRows 130 = .ok (.iconst 1, 1) := by decide +kernel
theorem dX0_linkRows_131 : decode cX0_linkRows 131 = .ok (.goto 4, 3) := by decide +kernel
theorem dX0_linkRows_134 : decode cX0_linkRows 134 = .ok (.iconst 0, 1) := by decide +kernel
theorem dX0_linkRows_135 : decode cX0_linkRows 135 = .ok (.iadd, 1) := by decide +kernel
theorem dX0_linkRows_136 : decode cX0_linkRows 136 = .ok (.putfield 121, 3) := by decide +kernel
theorem dX0_linkRows_139 : decode cX0_linkRows 139 = .ok (.iinc 2 1, 3) := by decide +kernel
theorem dX0_linkRows_142 : decode cX0_linkRows 142 = .ok (.goto (-46), 3) := by decide +kernel
theorem dX0_linkRows_145 : decode cX0_linkRows 145 = .ok (.return_, 1) := by decide +kernel
theorem dX0_listRows_0 : decode cX0_listRows 0 = .ok (.aload_n 0, 1) := by decide +kernel
theorem dX0_listRows_1 : decode cX0_listRows 1 = .ok (.iconst 0, 1) := by decide +kernel
theorem dX0_listRows_2 : decode cX0_listRows 2 = .ok (.putfield 59, 3) := by decide +kernel
theorem dX0_listRows_5 : decode cX0_listRows 5 = .ok (.aload_n 0, 1) := by decide +kernel
theorem dX0_listRows_6 : decode cX0_listRows 6 = .ok (.getfield 31, 3) := by decide +kernel
theorem dX0_listRows_9 : decode cX0_listRows 9 = .ok (.iconst 0, 1) := by decide +kernel
theorem dX0_listRows_10 : decode cX0_listRows 10 = .ok (.iload_n 1, 1) := by decide +kernel
theorem dX0_listRows_11 : decode cX0_listRows 11 = .ok (.iastore, 1) := by decide +kernel
theorem dX0_listRows_12 : decode cX0_listRows 12 = .ok (.iconst 1, 1) := by decide +kernel
theorem dX0_listRows_13 : decode cX0_listRows 13 = .ok (.istore_n 2, 1) := by decide +kernel
theorem dX0_listRows_14 : decode cX0_listRows 14 = .ok (.iload_n 2, 1) := by decide +kernel
theorem dX0_listRows_15 : decode cX0_listRows 15 = .ok (.ifCond .le 46, 3) := by decide +kernel
theorem dX0_listRows_18 : decode cX0_listRows 18 = .ok (.aload_n 0, 1) := by decide +kernel
theorem dX0_listRows_19 : decode cX0_listRows 19 = .ok (.getfield 59, 3) := by decide +kernel
theorem dX0_listRows_22 : decode cX0_listRows 22 = .ok (.sipush 135, 3) := by decide +kernel
theorem dX0_listRows_25 : decode cX0_listRows 25 = .ok (.if_icmp .ge 36, 3) := by decide +kernel
theorem dX0_listRows_28 : decode cX0_listRows 28 = .ok (.aload_n 0, 1) := by decide +kernel
theorem dX0_listRows_29 : decode cX0_listRows 29 = .ok (.getfield 11, 3) := by decide +kernel
theorem dX0_listRows_32 : decode cX0_listRows 32 = .ok (.aload_n 0, 1) := by decide +kernel
theorem dX0_listRows_33 : decode cX0_listRows 33 = .ok (.getfield 59, 3) := by decide +kernel
theorem dX0_listRows_36 : decode cX0_listRows 36 = .ok (.aload_n 0, 1) := by decide +kernel
theorem dX0_listRows_37 : decode cX0_listRows 37 = .ok (.iload_n 2, 1) := by decide +kernel
theorem dX0_listRows_38 : decode cX0_listRows 38 = .ok (.invokevirtual 71, 3) := by decide +kernel
theorem dX0_listRows_41 : decode cX0_listRows 41 = .ok (.lastore, 1) := by decide +kernel
theorem dX0_listRows_42 : decode cX0_listRows 42 = .ok (.aload_n 0, 1) := by decide +kernel
theorem dX0_listRows_43 : decode cX0_listRows 43 = .ok (.dup, 1) := by decide +kernel
theorem dX0_listRows_44 : decode cX0_listRows 44 = .ok (.getfield 59, 3) := by decide +kernel
theorem dX0_listRows_47 : decode cX0_listRows 47 = .ok (.iconst 1, 1) := by decide +kernel
theorem dX0_listRows_48 : decode cX0_listRows 48 = .ok (.iadd, 1) := by decide +kernel
theorem dX0_listRows_49 : decode cX0_listRows 49 = .ok (.putfield 59, 3) := by decide +kernel
theorem dX0_listRows_52 : decode cX0_listRows 52 = .ok (.aload_n 0, 1) := by decide +kernel
theorem dX0_listRows_53 : decode cX0_listRows 53 = .ok (.iload_n 2, 1) := by decide +kernel
theorem dX0_listRows_54 : decode cX0_listRows 54 = .ok (.invokevirtual 75, 3) := by decide +kernel
theorem dX0_listRows_57 : decode cX0_listRows 57 = .ok (.istore_n 2, 1) := by decide +kernel
theorem dX0_listRows_58 : decode cX0_listRows 58 = .ok (.goto (-44), 3) := by decide +kernel
theorem dX0_listRows_61 : decode cX0_listRows 61 = .ok (.return_, 1) := by decide +kernel
theorem dX0_measureTails_0 : decode cX0_measureTails 0 = .ok (.iconst 0, 1) := by decide +kernel
theorem dX0_measureTails_1 : decode cX0_measureTails 1 = .ok (.istore_n 2, 1) := by decide +kernel
theorem dX0_measureTails_2 : decode cX0_measureTails 2 = .ok (.iload_n 2, 1) := by decide +kernel
theorem dX0_measureTails_3 : decode cX0_measureTails 3 = .ok (.aload_n 0, 1) := by decide +kernel
theorem dX0_measureTails_4 : decode cX0_measureTails 4 = .ok (.getfield 59, 3) := by decide +kernel
theorem dX0_measureTails_7 : decode cX0_measureTails 7 = .ok (.if_icmp .ge 16, 3) := by decide +kernel
theorem dX0_measureTails_10 : decode cX0_measureTails 10 = .ok (.aload_n 0, 1) := by decide +kernel
theorem dX0_measureTails_11 : decode cX0_measureTails 11 = .ok (.getfield 28, 3) := by decide +kernel
theorem dX0_measureTails_14 : decode cX0_measureTails 14 = .ok (.iload_n 2, 1) := by decide +kernel
theorem dX0_measureTails_15 : decode cX0_measureTails 15 = .ok (.iconst 0, 1) := by decide +kernel
theorem dX0_measureTails_16 : decode cX0_measureTails 16 = .ok (.iastore, 1) := by decide +kernel
theorem dX0_measureTails_17 : decode cX0_measureTails 17 = .ok (.iinc 2 1, 3) := by decide +kernel
theorem dX0_measureTails_20 : decode cX0_measureTails 20 = .ok (.goto (-18), 3) := by decide +kernel
theorem dX0_measureTails_23 : decode cX0_measureTails 23 = .ok (.aload_n 0, 1) := by decide +kernel
theorem dX0_measureTails_24 : decode cX0_measureTails 24 = .ok (.iconst 0, 1) := by decide +kernel
theorem dX0_measureTails_25 : decode cX0_measureTails 25 = .ok (.putfield 124, 3) := by decide +kernel
theorem dX0_measureTails_28 : decode cX0_measureTails 28 = .ok (.iload_n 1, 1) := by decide +kernel
theorem dX0_measureTails_29 : decode cX0_measureTails 29 = .ok (.iconst 1, 1) := by decide +kernel
theorem dX0_measureTails_30 : decode cX0_measureTails 30 = .ok (.isub, 1) := by decide +kernel
theorem dX0_measureTails_31 : decode cX0_measureTails 31 = .ok (.istore_n 2, 1) := by decide +kernel
theorem dX0_measureTails_32 : decode cX0_measureTails 32 = .ok (.iload_n 2, 1) := by decide +kernel
theorem dX0_measureTails_33 : decode cX0_measureTails 33 = .ok (.ifCond .lt 52, 3) := by decide +kernel
theorem dX0_measureTails_36 : decode cX0_measureTails 36 = .ok (.aload_n 0, 1) := by decide +kernel
theorem dX0_measureTails_37 : decode cX0_measureTails 37 = .ok (.getfield 25, 3) := by decide +kernel
theorem dX0_measureTails_40 : decode cX0_measureTails 40 = .ok (.iload_n 2, 1) := by decide +kernel
theorem dX0_measureTails_41 : decode cX0_measureTails 41 = .ok (.iaload, 1) := by decide +kernel
theorem dX0_measureTails_42 : decode cX0_measureTails 42 = .ok (.istore_n 3, 1) := by decide +kernel
theorem dX0_measureTails_43 : decode cX0_measureTails 43 = .ok (.aload_n 0, 1) := by decide +kernel
theorem dX0_measureTails_44 : decode cX0_measureTails 44 = .ok (.getfield 28, 3) := by decide +kernel
theorem dX0_measureTails_47 : decode cX0_measureTails 47 = .ok (.iload_n 3, 1) := by decide +kernel
theorem dX0_measureTails_48 : decode cX0_measureTails 48 = .ok (.aload_n 0, 1) := by decide +kernel
theorem dX0_measureTails_49 : decode cX0_measureTails 49 = .ok (.getfield 28, 3) := by decide +kernel
theorem dX0_measureTails_52 : decode cX0_measureTails 52 = .ok (.aload_n 0, 1) := by decide +kernel
theorem dX0_measureTails_53 : decode cX0_measureTails 53 = .ok (.getfield 15, 3) := by decide +kernel
theorem dX0_measureTails_56 : decode cX0_measureTails 56 = .ok (.iload_n 3, 1) := by decide +kernel
theorem dX0_measureTails_57 : decode cX0_measureTails 57 = .ok (.iaload, 1) := by decide +kernel
theorem dX0_measureTails_58 : decode cX0_measureTails 58 = .ok (.iaload, 1) := by decide +kernel
theorem dX0_measureTails_59 : decode cX0_measureTails 59 = .ok (.iconst 1, 1) := by decide +kernel
theorem dX0_measureTails_60 : decode cX0_measureTails 60 = .ok (.iadd, 1) := by decide +kernel
theorem dX0_measureTails_61 : decode cX0_measureTails 61 = .ok (.iastore, 1) := by decide +kernel
theorem dX0_measureTails_62 : decode cX0_measureTails 62 = .ok (.aload_n 0, 1) := by decide +kernel
theorem dX0_measureTails_63 : decode cX0_measureTails 63 = .ok (.aload_n 0, 1) := by decide +kernel
theorem dX0_measureTails_64 : decode cX0_measureTails 64 = .ok (.getfield 124, 3) := by decide +kernel
theorem dX0_measureTails_67 : decode cX0_measureTails 67 = .ok (.aload_n 0, 1) := by decide +kernel
theorem dX0_measureTails_68 : decode cX0_measureTails 68 = .ok (.getfield 28, 3) := by decide +kernel
theorem dX0_measureTails_71 : decode cX0_measureTails 71 = .ok (.iload_n 3, 1) := by decide +kernel
theorem dX0_measureTails_72 : decode cX0_measureTails 72 = .ok (.iaload, 1) := by decide +kernel
theorem dX0_measureTails_73 : decode cX0_measureTails 73 = .ok (.invokestatic 127, 3) := by decide +kernel
theorem dX0_measureTails_76 : decode cX0_measureTails 76 = .ok (.putfield 124, 3) := by decide +kernel
theorem dX0_measureTails_79 : decode cX0_measureTails 79 = .ok (.iinc 2 (-1), 3) := by decide +kernel
theorem dX0_measureTails_82 : decode cX0_measureTails 82 = .ok (.goto (-50), 3) := by decide +kernel
theorem dX0_measureTails_85 : decode cX0_measureTails 85 = .ok (.return_, 1) := by decide +kernel
theorem dX0_nextParts_0 : decode cX0_nextParts 0 = .ok (.iload_n 1, 1) := by decide +kernel
theorem dX0_nextParts_1 : decode cX0_nextParts 1 = .ok (.iconst 1, 1) := by decide +kernel
theorem dX0_nextParts_2 : decode cX0_nextParts 2 = .ok (.isub, 1) := by decide +kernel
theorem dX0_nextParts_3 : decode cX0_nextParts 3 = .ok (.istore_n 2, 1) := by decide +kernel
theorem dX0_nextParts_4 : decode cX0_nextParts 4 = .ok (.iconst 0, 1) := by decide +kernel
theorem dX0_nextParts_5 : decode cX0_nextParts 5 = .ok (.istore_n 3, 1) := by decide +kernel
theorem dX0_nextParts_6 : decode cX0_nextParts 6 = .ok (.iload_n 2, 1) := by decide +kernel
theorem dX0_nextParts_7 : decode cX0_nextParts 7 = .ok (.ifCond .lt 22, 3) := by decide +kernel
theorem dX0_nextParts_10 : decode cX0_nextParts 10 = .ok (.aload_n 0, 1) := by decide +kernel
theorem dX0_nextParts_11 : decode cX0_nextParts 11 = .ok (.getfield 31, 3) := by decide +kernel
theorem dX0_nextParts_14 : decode cX0_nextParts 14 = .ok (.iload_n 2, 1) := by decide +kernel
theorem dX0_nextParts_15 : decode cX0_nextParts 15 = .ok (.iaload, 1) := by decide +kernel
theorem dX0_nextParts_16 : decode cX0_nextParts 16 = .ok (.iconst 1, 1) := by decide +kernel
theorem dX0_nextParts_17 : decode cX0_nextParts 17 = .ok (.if_icmp .ne 12, 3) := by decide +kernel
theorem dX0_nextParts_20 : decode cX0_nextParts 20 = .ok (.iinc 3 1, 3) := by decide +kernel
theorem dX0_nextParts_23 : decode cX0_nextParts 23 = .ok (.iinc 2 (-1), 3) := by decide +kernel
theorem dX0_nextParts_26 : decode cX0_nextParts 26 = .ok (.goto (-20), 3) := by decide +kernel
theorem dX0_nextParts_29 : decode cX0_nextParts 29 = .ok (.iload_n 2, 1) := by decide +kernel
theorem dX0_nextParts_30 : decode cX0_nextParts 30 = .ok (.ifCond .ge 5, 3) := by decide +kernel
theorem dX0_nextParts_33 : decode cX0_nextParts 33 = .ok (.iconst 0, 1) := by decide +kernel
theorem dX0_nextParts_34 : decode cX0_nextParts 34 = .ok (.ireturn, 1) := by decide +kernel
theorem dX0_nextParts_35 : decode cX0_nextParts 35 = .ok (.aload_n 0, 1) := by decide +kernel
theorem dX0_nextParts_36 : decode cX0_nextParts 36 = .ok (.getfield 31, 3) := by decide +kernel
theorem dX0_nextParts_39 : decode cX0_nextParts 39 = .ok (.iload_n 2, 1) := by decide +kernel
theorem dX0_nextParts_40 : decode cX0_nextParts 40 = .ok (.dup2, 1) := by decide +kernel
theorem dX0_nextParts_41 : decode cX0_nextParts 41 = .ok (.iaload, 1) := by decide +kernel
theorem dX0_nextParts_42 : decode cX0_nextParts 42 = .ok (.iconst 1, 1) := by decide +kernel
theorem dX0_nextParts_43 : decode cX0_nextParts 43 = .ok (.isub, 1) := by decide +kernel
theorem dX0_nextParts_44 : decode cX0_nextParts 44 = .ok (.iastore, 1) := by decide +kernel
theorem dX0_nextParts_45 : decode cX0_nextParts 45 = .ok (.iinc 3 1, 3) := by decide +kernel
theorem dX0_nextParts_48 : decode cX0_nextParts 48 = .ok (.aload_n 0, 1) := by decide +kernel
theorem dX0_nextParts_49 : decode cX0_nextParts 49 = .ok (.getfield 31, 3) := by decide +kernel
theorem dX0_nextParts_52 : decode cX0_nextParts 52 = .ok (.iload_n 2, 1) := by decide +kernel
theorem dX0_nextParts_53 : decode cX0_nextParts 53 = .ok (.iaload, 1) := by decide +kernel
theorem dX0_nextParts_54 : decode cX0_nextParts 54 = .ok (.istore 4, 2) := by decide +kernel
theorem dX0_nextParts_56 : decode cX0_nextParts 56 = .ok (.iload_n 2, 1) := by decide +kernel
theorem dX0_nextParts_57 : decode cX0_nextParts 57 = .ok (.iconst 1, 1) := by decide +kernel
theorem dX0_nextParts_58 : decode cX0_nextParts 58 = .ok (.iadd, 1) := by decide +kernel
theorem dX0_nextParts_59 : decode cX0_nextParts 59 = .ok (.istore 5, 2) := by decide +kernel
theorem dX0_nextParts_61 : decode cX0_nextParts 61 = .ok (.iload_n 3, 1) := by decide +kernel
theorem dX0_nextParts_62 : decode cX0_nextParts 62 = .ok (.ifCond .le 39, 3) := by decide +kernel
theorem dX0_nextParts_65 : decode cX0_nextParts 65 = .ok (.iload 5, 2) := by decide +kernel
theorem dX0_nextParts_67 : decode cX0_nextParts 67 = .ok (.bipush 14, 2) := by decide +kernel
theorem dX0_nextParts_69 : decode cX0_nextParts 69 = .ok (.if_icmp .ge 32, 3) := by decide +kernel
theorem dX0_nextParts_72 : decode cX0_nextParts 72 = .ok (.aload_n 0, 1) := by decide +kernel
theorem dX0_nextParts_73 : decode cX0_nextParts 73 = .ok (.getfield 31, 3) := by decide +kernel
theorem dX0_nextParts_76 : decode cX0_nextParts 76 = .ok (.iload 5, 2) := by decide +kernel
theorem dX0_nextParts_78 : decode cX0_nextParts 78 = .ok (.iload 4, 2) := by decide +kernel
theorem dX0_nextParts_80 : decode cX0_nextParts 80 = .ok (.iload_n 3, 1) := by decide +kernel
theorem dX0_nextParts_81 : decode cX0_nextParts 81 = .ok (.invokestatic 79, 3) := by decide +kernel
theorem dX0_nextParts_84 : decode cX0_nextParts 84 = .ok (.iastore, 1) := by decide +kernel
theorem dX0_nextParts_85 : decode cX0_nextParts 85 = .ok (.iload_n 3, 1) := by decide +kernel
theorem dX0_nextParts_86 : decode cX0_nextParts 86 = .ok (.aload_n 0, 1) := by decide +kernel
theorem dX0_nextParts_87 : decode cX0_nextParts 87 = .ok (.getfield 31, 3) := by decide +kernel
theorem dX0_nextParts_90 : decode cX0_nextParts 90 = .ok (.iload 5, 2) := by decide +kernel
theorem dX0_nextParts_92 : decode cX0_nextParts 92 = .ok (.iaload, 1) := by decide +kernel
theorem dX0_nextParts_93 : decode cX0_nextParts 93 = .ok (.isub, 1) := by decide +kernel
theorem dX0_nextParts_94 : decode cX0_nextParts 94 = .ok (.istore_n 3, 1) := by decide +kernel
theorem dX0_nextParts_95 : decode cX0_nextParts 95 = .ok (.iinc 5 1, 3) := by decide +kernel
theorem dX0_nextParts_98 : decode cX0_nextParts 98 = .ok (.goto (-37), 3) := by decide +kernel
theorem dX0_nextParts_101 : decode cX0_nextParts 101 = .ok (.iload 5, 2) := by decide +kernel
theorem dX0_nextParts_103 : decode cX0_nextParts 103 = .ok (.ireturn, 1) := by decide +kernel
theorem dX0_peelTails_0 : decode cX0_peelTails 0 = .ok (.iconst 0, 1) := by decide +kernel
theorem dX0_peelTails_1 : decode cX0_peelTails 1 = .ok (.istore_n 1, 1) := by decide +kernel
theorem dX0_peelTails_2 : decode cX0_peelTails 2 = .ok (.iconst 0, 1) := by decide +kernel
theorem dX0_peelTails_3 : decode cX0_peelTails 3 = .ok (.istore_n 2, 1) := by decide +kernel
theorem dX0_peelTails_4 : decode cX0_peelTails 4 = .ok (.iload_n 2, 1) := by decide +kernel
theorem dX0_peelTails_5 : decode cX0_peelTails 5 = .ok (.aload_n 0, 1) := by decide +kernel
theorem dX0_peelTails_6 : decode cX0_peelTails 6 = .ok (.getfield 59, 3) := by decide +kernel
theorem dX0_peelTails_9 : decode cX0_peelTails 9 = .ok (.if_icmp .ge 28, 3) := by decide +kernel
theorem dX0_peelTails_12 : decode cX0_peelTails 12 = .ok (.aload_n 0, 1) := by decide +kernel
theorem dX0_peelTails_13 : decode cX0_peelTails 13 = .ok (.getfield 22, 3) := by decide +kernel
theorem dX0_peelTails_16 : decode cX0_peelTails 16 = .ok (.iload_n 2, 1) := by decide +kernel
theorem dX0_peelTails_17 : decode cX0_peelTails 17 = .ok (.iaload, 1) := by decide +kernel
theorem dX0_peelTails_18 : decode cX0_peelTails 18 = .ok (.ifCond .ne 13, 3) := by decide +kernel
theorem dX0_peelTails_21 : decode cX0_peelTails 21 = .ok (.aload_n 0, 1) := by decide +kernel
theorem dX0_peelTails_22 : decode cX0_peelTails 22 = .ok (.getfield 25, 3) := by decide +kernel
theorem dX0_peelTails_25 : decode cX0_peelTails 25 = .ok (.iload_n 1, 1) := by decide +kernel
theorem dX0_peelTails_26 : decode cX0_peelTails 26 = .ok (.iload_n 2, 1) := by decide +kernel
theorem dX0_peelTails_27 : decode cX0_peelTails 27 = .ok (.iastore, 1) := by decide +kernel
theorem dX0_peelTails_28 : decode cX0_peelTails 28 = .ok (.iinc 1 1, 3) := by decide +kernel
theorem dX0_peelTails_31 : decode cX0_peelTails 31 = .ok (.iinc 2 1, 3) := by decide +kernel
theorem dX0_peelTails_34 : decode cX0_peelTails 34 = .ok (.goto (-30), 3) := by decide +kernel
theorem dX0_peelTails_37 : decode cX0_peelTails 37 = .ok (.iconst 0, 1) := by decide +kernel
theorem dX0_peelTails_38 : decode cX0_peelTails 38 = .ok (.istore_n 2, 1) := by decide +kernel
theorem dX0_peelTails_39 : decode cX0_peelTails 39 = .ok (.iload_n 2, 1) := by decide +kernel
theorem dX0_peelTails_40 : decode cX0_peelTails 40 = .ok (.iload_n 1, 1) := by decide +kernel
theorem dX0_peelTails_41 : decode cX0_peelTails 41 = .ok (.if_icmp .ge 57, 3) := by decide +kernel
theorem dX0_peelTails_44 : decode cX0_peelTails 44 = .ok (.aload_n 0, 1) := by decide +kernel
theorem dX0_peelTails_45 : decode cX0_peelTails 45 = .ok (.getfield 15, 3) := by decide +kernel
theorem dX0_peelTails_48 : decode cX0_peelTails 48 = .ok (.aload_n 0, 1) := by decide +kernel
theorem dX0_peelTails_49 : decode cX0_peelTails 49 = .ok (.getfield 25, 3) := by decide +kernel
theorem dX0_peelTails_52 : decode cX0_peelTails 52 = .ok (.iload_n 2, 1) := by decide +kernel
theorem dX0_peelTails_53 : decode cX0_peelTails 53 = .ok (.iaload, 1) := by decide +kernel
theorem dX0_peelTails_54 : decode cX0_peelTails 54 = .ok (.iaload, 1) := by decide +kernel
theorem dX0_peelTails_55 : decode cX0_peelTails 55 = .ok (.istore_n 3, 1) := by decide +kernel
theorem dX0_peelTails_56 : decode cX0_peelTails 56 = .ok (.aload_n 0, 1) := by decide +kernel
theorem dX0_peelTails_57 : decode cX0_peelTails 57 = .ok (.getfield 22, 3) := by decide +kernel
theorem dX0_peelTails_60 : decode cX0_peelTails 60 = .ok (.iload_n 3, 1) := by decide +kernel
theorem dX0_peelTails_61 : decode cX0_peelTails 61 = .ok (.dup2, 1) := by decide +kernel
theorem dX0_peelTails_62 : decode cX0_peelTails 62 = .ok (.iaload, 1) := by decide +kernel
theorem dX0_peelTails_63 : decode cX0_peelTails 63 = .ok (.iconst 1, 1) := by decide +kernel
theorem dX0_peelTails_64 : decode cX0_peelTails 64 = .ok (.isub, 1) := by decide +kernel
theorem dX0_peelTails_65 : decode cX0_peelTails 65 = .ok (.iastore, 1) := by decide +kernel
theorem dX0_peelTails_66 : decode cX0_peelTails 66 = .ok (.aload_n 0, 1) := by decide +kernel
theorem dX0_peelTails_67 : decode cX0_peelTails 67 = .ok (.getfield 22, 3) := by decide +kernel
theorem dX0_peelTails_70 : decode cX0_peelTails 70 = .ok (.iload_n 3, 1) := by decide +kernel
theorem dX0_peelTails_71 : decode cX0_peelTails 71 = .ok (.iaload, 1) := by decide +kernel
theorem dX0_peelTails_72 : decode cX0_peelTails 72 = .ok (.ifCond .ne 20, 3) := by decide +kernel
theorem dX0_peelTails_75 : decode cX0_peelTails 75 = .ok (.iload_n 1, 1) := by decide +kernel
theorem dX0_peelTails_76 : decode cX0_peelTails 76 = .ok (.sipush 135, 3) := by decide +kernel
theorem dX0_peelTails_79 : decode cX0_peelTails 79 = .ok (.if_icmp .ge 13, 3) := by decide +kernel
theorem dX0_peelTails_82 : decode cX0_peelTails 82 = .ok (.aload_n 0, 1) := by decide +kernel
theorem dX0_peelTails_83 : decode cX0_peelTails 83 = .ok (.getfield 25, 3) := by decide +kernel
theorem dX0_peelTails_86 : decode cX0_peelTails 86 = .ok (.iload_n 1, 1) := by decide +kernel
theorem dX0_peelTails_87 : decode cX0_peelTails 87 = .ok (.iload_n 3, 1) := by decide +kernel
theorem dX0_peelTails_88 : decode cX0_peelTails 88 = .ok (.iastore, 1) := by decide +kernel
theorem dX0_peelTails_89 : decode cX0_peelTails 89 = .ok (.iinc 1 1, 3) := by decide +kernel
theorem dX0_peelTails_92 : decode cX0_peelTails 92 = .ok (.iinc 2 1, 3) := by decide +kernel
theorem dX0_peelTails_95 : decode cX0_peelTails 95 = .ok (.goto (-56), 3) := by decide +kernel
theorem dX0_peelTails_98 : decode cX0_peelTails 98 = .ok (.iload_n 1, 1) := by decide +kernel
theorem dX0_peelTails_99 : decode cX0_peelTails 99 = .ok (.ireturn, 1) := by decide +kernel
theorem dX0_tailOf_0 : decode cX0_tailOf 0 = .ok (.aload_n 0, 1) := by decide +kernel
theorem dX0_tailOf_1 : decode cX0_tailOf 1 = .ok (.getfield 28, 3) := by decide +kernel
theorem dX0_tailOf_4 : decode cX0_tailOf 4 = .ok (.aload_n 0, 1) := by decide +kernel
theorem dX0_tailOf_5 : decode cX0_tailOf 5 = .ok (.aload_n 1, 1) := by decide +kernel
theorem dX0_tailOf_6 : decode cX0_tailOf 6 = .ok (.invokestatic 113, 3) := by decide +kernel
theorem dX0_tailOf_9 : decode cX0_tailOf 9 = .ok (.invokevirtual 117, 3) := by decide +kernel
theorem dX0_tailOf_12 : decode cX0_tailOf 12 = .ok (.iaload, 1) := by decide +kernel
theorem dX0_tailOf_13 : decode cX0_tailOf 13 = .ok (.ireturn, 1) := by decide +kernel
theorem dX0_workOut_0 : decode cX0_workOut 0 = .ok (.iload_n 1, 1) := by decide +kernel
theorem dX0_workOut_1 : decode cX0_workOut 1 = .ok (.aload_n 0, 1) := by decide +kernel
theorem dX0_workOut_2 : decode cX0_workOut 2 = .ok (.getfield 45, 3) := by decide +kernel
theorem dX0_workOut_5 : decode cX0_workOut 5 = .ok (.if_icmp .ne 11, 3) := by decide +kernel
theorem dX0_workOut_8 : decode cX0_workOut 8 = .ok (.iload_n 2, 1) := by decide +kernel
theorem dX0_workOut_9 : decode cX0_workOut 9 = .ok (.aload_n 0, 1) := by decide +kernel
theorem dX0_workOut_10 : decode cX0_workOut 10 = .ok (.getfield 41, 3) := by decide +kernel
theorem dX0_workOut_13 : decode cX0_workOut 13 = .ok (.if_icmp .eq 14, 3) := by decide +kernel
theorem dX0_workOut_16 : decode cX0_workOut 16 = .ok (.iload_n 1, 1) := by decide +kernel
theorem dX0_workOut_17 : decode cX0_workOut 17 = .ok (.iconst 1, 1) := by decide +kernel
theorem dX0_workOut_18 : decode cX0_workOut 18 = .ok (.if_icmp .lt 9, 3) := by decide +kernel
theorem dX0_workOut_21 : decode cX0_workOut 21 = .ok (.iload_n 1, 1) := by decide +kernel
theorem dX0_workOut_22 : decode cX0_workOut 22 = .ok (.bipush 14, 2) := by decide +kernel
theorem dX0_workOut_24 : decode cX0_workOut 24 = .ok (.if_icmp .le 4, 3) := by decide +kernel
theorem dX0_workOut_27 : decode cX0_workOut 27 = .ok (.return_, 1) := by decide +kernel
theorem dX0_workOut_28 : decode cX0_workOut 28 = .ok (.aload_n 0, 1) := by decide +kernel
theorem dX0_workOut_29 : decode cX0_workOut 29 = .ok (.iload_n 1, 1) := by decide +kernel
theorem dX0_workOut_30 : decode cX0_workOut 30 = .ok (.putfield 45, 3) := by decide +kernel
theorem dX0_workOut_33 : decode cX0_workOut 33 = .ok (.aload_n 0, 1) := by decide +kernel
theorem dX0_workOut_34 : decode cX0_workOut 34 = .ok (.iload_n 2, 1) := by decide +kernel
theorem dX0_workOut_35 : decode cX0_workOut 35 = .ok (.putfield 41, 3) := by decide +kernel
theorem dX0_workOut_38 : decode cX0_workOut 38 = .ok (.aload_n 0, 1) := by decide +kernel
theorem dX0_workOut_39 : decode cX0_workOut 39 = .ok (.iload_n 1, 1) := by decide +kernel
theorem dX0_workOut_40 : decode cX0_workOut 40 = .ok (.invokevirtual 48, 3) := by decide +kernel
theorem dX0_workOut_43 : decode cX0_workOut 43 = .ok (.aload_n 0, 1) := by decide +kernel
theorem dX0_workOut_44 : decode cX0_workOut 44 = .ok (.iload_n 2, 1) := by decide +kernel
theorem dX0_workOut_45 : decode cX0_workOut 45 = .ok (.invokevirtual 52, 3) := by decide +kernel
theorem dX0_workOut_48 : decode cX0_workOut 48 = .ok (.aload_n 0, 1) := by decide +kernel
theorem dX0_workOut_49 : decode cX0_workOut 49 = .ok (.invokevirtual 55, 3) := by decide +kernel
theorem dX0_workOut_52 : decode cX0_workOut 52 = .ok (.istore_n 3, 1) := by decide +kernel
theorem dX0_workOut_53 : decode cX0_workOut 53 = .ok (.aload_n 0, 1) := by decide +kernel
theorem dX0_workOut_54 : decode cX0_workOut 54 = .ok (.aload_n 0, 1) := by decide +kernel
theorem dX0_workOut_55 : decode cX0_workOut 55 = .ok (.getfield 59, 3) := by decide +kernel
theorem dX0_workOut_58 : decode cX0_workOut 58 = .ok (.iload_n 3, 1) := by decide +kernel
theorem dX0_workOut_59 : decode cX0_workOut 59 = .ok (.isub, 1) := by decide +kernel
theorem dX0_workOut_60 : decode cX0_workOut 60 = .ok (.putfield 62, 3) := by decide +kernel
theorem dX0_workOut_63 : decode cX0_workOut 63 = .ok (.aload_n 0, 1) := by decide +kernel
theorem dX0_workOut_64 : decode cX0_workOut 64 = .ok (.iload_n 3, 1) := by decide +kernel
theorem dX0_workOut_65 : decode cX0_workOut 65 = .ok (.invokevirtual 65, 3) := by decide +kernel
theorem dX0_workOut_68 : decode cX0_workOut 68 = .ok (.aload_n 0, 1) := by decide +kernel
theorem dX0_workOut_69 : decode cX0_workOut 69 = .ok (.invokevirtual 68, 3) := by decide +kernel
theorem dX0_workOut_72 : decode cX0_workOut 72 = .ok (.return_, 1) := by decide +kernel
theorem dX1_become_0 : decode cX1_become 0 = .ok (.aload_n 0, 1) := by decide +kernel
theorem dX1_become_1 : decode cX1_become 1 = .ok (.aload_n 1, 1) := by decide +kernel
theorem dX1_become_2 : decode cX1_become 2 = .ok (.getfield 27, 3) := by decide +kernel
theorem dX1_become_5 : decode cX1_become 5 = .ok (.putfield 27, 3) := by decide +kernel
theorem dX1_become_8 : decode cX1_become 8 = .ok (.aload_n 0, 1) := by decide +kernel
theorem dX1_become_9 : decode cX1_become 9 = .ok (.aload_n 1, 1) := by decide +kernel
theorem dX1_become_10 : decode cX1_become 10 = .ok (.getfield 31, 3) := by decide +kernel
theorem dX1_become_13 : decode cX1_become 13 = .ok (.putfield 31, 3) := by decide +kernel
theorem dX1_become_16 : decode cX1_become 16 = .ok (.aload_n 0, 1) := by decide +kernel
theorem dX1_become_17 : decode cX1_become 17 = .ok (.aload_n 1, 1) := by decide +kernel
theorem dX1_become_18 : decode cX1_become 18 = .ok (.getfield 34, 3) := by decide +kernel
theorem dX1_become_21 : decode cX1_become 21 = .ok (.putfield 34, 3) := by decide +kernel
theorem dX1_become_24 : decode cX1_become 24 = .ok (.aload_n 0, 1) := by decide +kernel
theorem dX1_become_25 : decode cX1_become 25 = .ok (.aload_n 1, 1) := by decide +kernel
theorem dX1_become_26 : decode cX1_become 26 = .ok (.getfield 37, 3) := by decide +kernel
theorem dX1_become_29 : decode cX1_become 29 = .ok (.putfield 37, 3) := by decide +kernel
theorem dX1_become_32 : decode cX1_become 32 = .ok (.aload_n 0, 1) := by decide +kernel
theorem dX1_become_33 : decode cX1_become 33 = .ok (.aload_n 1, 1) := by decide +kernel
theorem dX1_become_34 : decode cX1_become 34 = .ok (.getfield 40, 3) := by decide +kernel
theorem dX1_become_37 : decode cX1_become 37 = .ok (.putfield 40, 3) := by decide +kernel
theorem dX1_become_40 : decode cX1_become 40 = .ok (.aload_n 0, 1) := by decide +kernel
theorem dX1_become_41 : decode cX1_become 41 = .ok (.aload_n 1, 1) := by decide +kernel
theorem dX1_become_42 : decode cX1_become 42 = .ok (.getfield 43, 3) := by decide +kernel
theorem dX1_become_45 : decode cX1_become 45 = .ok (.putfield 43, 3) := by decide +kernel
theorem dX1_become_48 : decode cX1_become 48 = .ok (.aload_n 0, 1) := by decide +kernel
theorem dX1_become_49 : decode cX1_become 49 = .ok (.aload_n 1, 1) := by decide +kernel
theorem dX1_become_50 : decode cX1_become 50 = .ok (.getfield 46, 3) := by decide +kernel
theorem dX1_become_53 : decode cX1_become 53 = .ok (.putfield 46, 3) := by decide +kernel
theorem dX1_become_56 : decode cX1_become 56 = .ok (.aload_n 1, 1) := by decide +kernel
theorem dX1_become_57 : decode cX1_become 57 = .ok (.getfield 9, 3) := by decide +kernel
theorem dX1_become_60 : decode cX1_become 60 = .ok (.iconst 0, 1) := by decide +kernel
theorem dX1_become_61 : decode cX1_become 61 = .ok (.aload_n 0, 1) := by decide +kernel
theorem dX1_become_62 : decode cX1_become 62 = .ok (.getfield 9, 3) := by decide +kernel
theorem dX1_become_65 : decode cX1_become 65 = .ok (.iconst 0, 1) := by decide +kernel
theorem dX1_become_66 : decode cX1_become 66 = .ok (.bipush 8, 2) := by decide +kernel
theorem dX1_become_68 : decode cX1_become 68 = .ok (.invokestatic 49, 3) := by decide +kernel
theorem dX1_become_71 : decode cX1_become 71 = .ok (.aload_n 1, 1) := by decide +kernel
theorem dX1_become_72 : decode cX1_become 72 = .ok (.getfield 15, 3) := by decide +kernel
theorem dX1_become_75 : decode cX1_become 75 = .ok (.iconst 0, 1) := by decide +kernel
theorem dX1_become_76 : decode cX1_become 76 = .ok (.aload_n 0, 1) := by decide +kernel
theorem dX1_become_77 : decode cX1_become 77 = .ok (.getfield 15, 3) := by decide +kernel
theorem dX1_become_80 : decode cX1_become 80 = .ok (.iconst 0, 1) := by decide +kernel
theorem dX1_become_81 : decode cX1_become 81 = .ok (.bipush 6, 2) := by decide +kernel
theorem dX1_become_83 : decode cX1_become 83 = .ok (.invokestatic 49, 3) := by decide +kernel
theorem dX1_become_86 : decode cX1_become 86 = .ok (.aload_n 1, 1) := by decide +kernel
theorem dX1_become_87 : decode cX1_become 87 = .ok (.getfield 18, 3) := by decide +kernel
theorem dX1_become_90 : decode cX1_become 90 = .ok (.iconst 0, 1) := by decide +kernel
theorem dX1_become_91 : decode cX1_become 91 = .ok (.aload_n 0, 1) := by decide +kernel
theorem dX1_become_92 : decode cX1_become 92 = .ok (.getfield 18, 3) := by decide +kernel
theorem dX1_become_95 : decode cX1_become 95 = .ok (.iconst 0, 1) := by decide +kernel
theorem dX1_become_96 : decode cX1_become 96 = .ok (.bipush 6, 2) := by decide +kernel
theorem dX1_become_98 : decode cX1_become 98 = .ok (.invokestatic 49, 3) := by decide +kernel
theorem dX1_become_101 : decode cX1_become 101 = .ok (.aload_n 1, 1) := by decide +kernel
theorem dX1_become_102 : decode cX1_become 102 = .ok (.getfield 21, 3) := by decide +kernel
theorem dX1_become_105 : decode cX1_become 105 = .ok (.iconst 0, 1) := by decide +kernel
theorem dX1_become_106 : decode cX1_become 106 = .ok (.aload_n 0, 1) := by decide +kernel
theorem dX1_become_107 : decode cX1_become 107 = .ok (.getfield 21, 3) := by decide +kernel
theorem dX1_become_110 : decode cX1_become 110 = .ok (.iconst 0, 1) := by decide +kernel
theorem dX1_become_111 : decode cX1_become 111 = .ok (.bipush 20, 2) := by decide +kernel
theorem dX1_become_113 : decode cX1_become 113 = .ok (.invokestatic 49, 3) := by decide +kernel
theorem dX1_become_116 : decode cX1_become 116 = .ok (.aload_n 1, 1) := by decide +kernel
theorem dX1_become_117 : decode cX1_become 117 = .ok (.getfield 24, 3) := by decide +kernel
theorem dX1_become_120 : decode cX1_become 120 = .ok (.iconst 0, 1) := by decide +kernel
theorem dX1_become_121 : decode cX1_become 121 = .ok (.aload_n 0, 1) := by decide +kernel
theorem dX1_become_122 : decode cX1_become 122 = .ok (.getfield 24, 3) := by decide +kernel
theorem dX1_become_125 : decode cX1_become 125 = .ok (.iconst 0, 1) := by decide +kernel
theorem dX1_become_126 : decode cX1_become 126 = .ok (.bipush 20, 2) := by decide +kernel
theorem dX1_become_128 : decode cX1_become 128 = .ok (.invokestatic 49, 3) := by decide +kernel
theorem dX1_become_131 : decode cX1_become 131 = .ok (.return_, 1) := by decide +kernel
theorem dX1_clear_0 : decode cX1_clear 0 = .ok (.aload_n 0, 1) := by decide +kernel
theorem dX1_clear_1 : decode cX1_clear 1 = .ok (.iconst 0, 1) := by decide +kernel
theorem dX1_clear_2 : decode cX1_clear 2 = .ok (.putfield 27, 3) := by decide +kernel
theorem dX1_clear_5 : decode cX1_clear 5 = .ok (.aload_n 0, 1) := by decide +kernel
theorem dX1_clear_6 : decode cX1_clear 6 = .ok (.iconst 0, 1) := by decide +kernel
theorem dX1_clear_7 : decode cX1_clear 7 = .ok (.putfield 31, 3) := by decide +kernel
theorem dX1_clear_10 : decode cX1_clear 10 = .ok (.aload_n 0, 1) := by decide +kernel
theorem dX1_clear_11 : decode cX1_clear 11 = .ok (.iconst 0, 1) := by decide +kernel
theorem dX1_clear_12 : decode cX1_clear 12 = .ok (.putfield 34, 3) := by decide +kernel
theorem dX1_clear_15 : decode cX1_clear 15 = .ok (.aload_n 0, 1) := by decide +kernel
theorem dX1_clear_16 : decode cX1_clear 16 = .ok (.iconst 0, 1) := by decide +kernel
theorem dX1_clear_17 : decode cX1_clear 17 = .ok (.putfield 37, 3) := by decide +kernel
theorem dX1_clear_20 : decode cX1_clear 20 = .ok (.aload_n 0, 1) := by decide +kernel
theorem dX1_clear_21 : decode cX1_clear 21 = .ok (.iconst 0, 1) := by decide +kernel
theorem dX1_clear_22 : decode cX1_clear 22 = .ok (.putfield 40, 3) := by decide +kernel
theorem dX1_clear_25 : decode cX1_clear 25 = .ok (.aload_n 0, 1) := by decide +kernel
theorem dX1_clear_26 : decode cX1_clear 26 = .ok (.iconst 0, 1) := by decide +kernel
theorem dX1_clear_27 : decode cX1_clear 27 = .ok (.putfield 43, 3) := by decide +kernel
theorem dX1_clear_30 : decode cX1_clear 30 = .ok (.aload_n 0, 1) := by decide +kernel
theorem dX1_clear_31 : decode cX1_clear 31 = .ok (.iconst 0, 1) := by decide +kernel
theorem dX1_clear_32 : decode cX1_clear 32 = .ok (.putfield 46, 3) := by decide +kernel
theorem dX1_clear_35 : decode cX1_clear 35 = .ok (.return_, 1) := by decide +kernel
theorem dX2_follow_0 : decode cX2_follow 0 = .ok (.aload_n 0, 1) := by decide +kernel
theorem dX2_follow_1 : decode cX2_follow 1 = .ok (.aload_n 0, 1) := by decide +kernel
theorem dX2_follow_2 : decode cX2_follow 2 = .ok (.aload_n 1, 1) := by decide +kernel
theorem dX2_follow_3 : decode cX2_follow 3 = .ok (.iload_n 2, 1) := by decide +kernel
theorem dX2_follow_4 : decode cX2_follow 4 = .ok (.invokevirtual 21, 3) := by decide +kernel
theorem dX2_follow_7 : decode cX2_follow 7 = .ok (.putfield 25, 3) := by decide +kernel
theorem dX2_follow_10 : decode cX2_follow 10 = .ok (.aload_n 0, 1) := by decide +kernel
theorem dX2_follow_11 : decode cX2_follow 11 = .ok (.aload_n 0, 1) := by decide +kernel
theorem dX2_follow_12 : decode cX2_follow 12 = .ok (.getfield 25, 3) := by decide +kernel
theorem dX2_follow_15 : decode cX2_follow 15 = .ok (.iconst (-1), 1) := by decide +kernel
theorem dX2_follow_16 : decode cX2_follow 16 = .ok (.if_icmp .ne 7, 3) := by decide +kernel
theorem dX2_follow_19 : decode cX2_follow 19 = .ok (.iconst (-1), 1) := by decide +kernel
theorem dX2_follow_20 : decode cX2_follow 20 = .ok (.goto 9, 3) := by decide +kernel
theorem dX2_follow_23 : decode cX2_follow 23 = .ok (.aload_n 0, 1) := by decide +kernel
theorem dX2_follow_24 : decode cX2_follow 24 = .ok (.aload_n 1, 1) := by decide +kernel
theorem dX2_follow_25 : decode cX2_follow 25 = .ok (.iload_n 2, 1) := by decide +kernel
theorem dX2_follow_26 : decode cX2_follow 26 = .ok (.invokevirtual 29, 3) := by decide +kernel
theorem dX2_follow_29 : decode cX2_follow 29 = .ok (.putfield 32, 3) := by decide +kernel
theorem dX2_follow_32 : decode cX2_follow 32 = .ok (.aload_n 0, 1) := by decide +kernel
theorem dX2_follow_33 : decode cX2_follow 33 = .ok (.iconst (-1), 1) := by decide +kernel
theorem dX2_follow_34 : decode cX2_follow 34 = .ok (.putfield 35, 3) := by decide +kernel
theorem dX2_follow_37 : decode cX2_follow 37 = .ok (.aload_n 0, 1) := by decide +kernel
theorem dX2_follow_38 : decode cX2_follow 38 = .ok (.getfield 32, 3) := by decide +kernel
theorem dX2_follow_41 : decode cX2_follow 41 = .ok (.iconst (-1), 1) := by decide +kernel
theorem dX2_follow_42 : decode cX2_follow 42 = .ok (.if_icmp .ne 14, 3) := by decide +kernel
theorem dX2_follow_45 : decode cX2_follow 45 = .ok (.aload_n 0, 1) := by decide +kernel
theorem dX2_follow_46 : decode cX2_follow 46 = .ok (.iconst (-1), 1) := by decide +kernel
theorem dX2_follow_47 : decode cX2_follow 47 = .ok (.putfield 25, 3) := by decide +kernel
theorem dX2_follow_50 : decode cX2_follow 50 = .ok (.aload_n 0, 1) := by decide +kernel
theorem dX2_follow_51 : decode cX2_follow 51 = .ok (.iconst (-1), 1) := by decide +kernel
theorem dX2_follow_52 : decode cX2_follow 52 = .ok (.putfield 38, 3) := by decide +kernel
theorem dX2_follow_55 : decode cX2_follow 55 = .ok (.return_, 1) := by decide +kernel
theorem dX2_follow_56 : decode cX2_follow 56 = .ok (.iconst 0, 1) := by decide +kernel
theorem dX2_follow_57 : decode cX2_follow 57 = .ok (.istore_n 3, 1) := by decide +kernel
theorem dX2_follow_58 : decode cX2_follow 58 = .ok (.iload_n 3, 1) := by decide +kernel
theorem dX2_follow_59 : decode cX2_follow 59 = .ok (.aload_n 0, 1) := by decide +kernel
theorem dX2_follow_60 : decode cX2_follow 60 = .ok (.getfield 25, 3) := by decide +kernel
theorem dX2_follow_63 : decode cX2_follow 63 = .ok (.if_icmp .ge 45, 3) := by decide +kernel
theorem dX2_follow_66 : decode cX2_follow 66 = .ok (.aload_n 0, 1) := by decide +kernel
theorem dX2_follow_67 : decode cX2_follow 67 = .ok (.aload_n 0, 1) := by decide +kernel
theorem dX2_follow_68 : decode cX2_follow 68 = .ok (.getfield 35, 3) := by decide +kernel
theorem dX2_follow_71 : decode cX2_follow 71 = .ok (.aload_n 0, 1) := by decide +kernel
theorem dX2_follow_72 : decode cX2_follow 72 = .ok (.getfield 12, 3) := by decide +kernel
theorem dX2_follow_75 : decode cX2_follow 75 = .ok (.getfield 41, 3) := by decide +kernel
theorem dX2_follow_78 : decode cX2_follow 78 = .ok (.invokestatic 44, 3) := by decide +kernel
theorem dX2_follow_81 : decode cX2_follow 81 = .ok (.putfield 35, 3) := by decide +kernel
theorem dX2_follow_84 : decode cX2_follow 84 = .ok (.aload_n 0, 1) := by decide +kernel
theorem dX2_follow_85 : decode cX2_follow 85 = .ok (.aload_n 0, 1) := by decide +kernel
theorem dX2_follow_86 : decode cX2_follow 86 = .ok (.getfield 32, 3) := by decide +kernel
theorem dX2_follow_89 : decode cX2_follow 89 = .ok (.iload_n 3, 1) := by decide +kernel
theorem dX2_follow_90 : decode cX2_follow 90 = .ok (.iadd, 1) := by decide +kernel
theorem dX2_follow_91 : decode cX2_follow 91 = .ok (.invokevirtual 50, 3) := by decide +kernel
theorem dX2_follow_94 : decode cX2_follow 94 = .ok (.aload_n 0, 1) := by decide +kernel
theorem dX2_follow_95 : decode cX2_follow 95 = .ok (.getfield 12, 3) := by decide +kernel
theorem dX2_follow_98 : decode cX2_follow 98 = .ok (.iload_n 2, 1) := by decide +kernel
theorem dX2_follow_99 : decode cX2_follow 99 = .ok (.invokevirtual 54, 3) := by decide +kernel
theorem dX2_follow_102 : decode cX2_follow 102 = .ok (.iinc 3 1, 3) := by decide +kernel
theorem dX2_follow_105 : decode cX2_follow 105 = .ok (.goto (-47), 3) := by decide +kernel
theorem dX2_follow_108 : decode cX2_follow 108 = .ok (.return_, 1) := by decide +kernel
theorem dX2_lookForStair_0 : decode cX2_lookForStair 0 = .ok (.aload_n 0, 1) := by decide +kernel
theorem dX2_lookForStair_1 : decode cX2_lookForStair 1 = .ok (.getfield 38, 3) := by decide +kernel
theorem dX2_lookForStair_4 : decode cX2_lookForStair 4 = .ok (.iconst (-1), 1) := by decide +kernel
theorem dX2_lookForStair_5 : decode cX2_lookForStair 5 = .ok (.if_icmp .ne 18, 3) := by decide +kernel
theorem dX2_lookForStair_8 : decode cX2_lookForStair 8 = .ok (.aload_n 0, 1) := by decide +kernel
theorem dX2_lookForStair_9 : decode cX2_lookForStair 9 = .ok (.getfield 12, 3) := by decide +kernel
theorem dX2_lookForStair_12 : decode cX2_lookForStair 12 = .ok (.invokevirtual 65, 3) := by decide +kernel
theorem dX2_lookForStair_15 : decode cX2_lookForStair 15 = .ok (.ifCond .eq 8, 3) := by decide +kernel
theorem dX2_lookForStair_18 : decode cX2_lookForStair 18 = .ok (.aload_n 0, 1) := by decide +kernel
theorem dX2_lookForStair_19 : decode cX2_lookForStair 19 = .ok (.iload_n 1, 1) := by decide +kernel
theorem dX2_lookForStair_20 : decode cX2_lookForStair 20 = .ok (.putfield 38, 3) := by decide +kernel
theorem dX2_lookForStair_23 : decode cX2_lookForStair 23 = .ok (.return_, 1) := by decide +kernel
theorem dX2_stepsAheadOfRing_0 : decode cX2_stepsAheadOfRing 0 = .ok (.aload_n 0, 1) := by decide +kernel
theorem dX2_stepsAheadOfRing_1 : decode cX2_stepsAheadOfRing 1 = .ok (.iconst (-1), 1) := by decide +kernel
theorem dX2_stepsAheadOfRing_2 : decode cX2_stepsAheadOfRing 2 = .ok (.putfield 38, 3) := by decide +kernel
theorem dX2_stepsAheadOfRing_5 : decode cX2_stepsAheadOfRing 5 = .ok (.aload_n 0, 1) := by decide +kernel
theorem dX2_stepsAheadOfRing_6 : decode cX2_stepsAheadOfRing 6 = .ok (.getfield 12, 3) := by decide +kernel
theorem dX2_stepsAheadOfRing_9 : decode cX2_stepsAheadOfRing 9 = .ok (.aload_n 1, 1) := by decide +kernel
theorem dX2_stepsAheadOfRing_10 : decode cX2_stepsAheadOfRing 10 = .ok (.invokevirtual 57, 3) := by decide +kernel
theorem dX2_stepsAheadOfRing_13 : decode cX2_stepsAheadOfRing 13 = .ok (.aload_n 0, 1) := by decide +kernel
theorem dX2_stepsAheadOfRing_14 : decode cX2_stepsAheadOfRing 14 = .ok (.getfield 18, 3) := by decide +kernel
theorem dX2_stepsAheadOfRing_17 : decode cX2_stepsAheadOfRing 17 = .ok (.aload_n 1, 1) := by decide +kernel
theorem dX2_stepsAheadOfRing_18 : decode cX2_stepsAheadOfRing 18 = .ok (.invokevirtual 57, 3) := by decide +kernel
theorem dX2_stepsAheadOfRing_21 : decode cX2_stepsAheadOfRing 21 = .ok (.iconst 0, 1) := by decide +kernel
theorem dX2_stepsAheadOfRing_22 : decode cX2_stepsAheadOfRing 22 = .ok (.istore_n 3, 1) := by decide +kernel
theorem dX2_stepsAheadOfRing_23 : decode cX2_stepsAheadOfRing 23 = .ok (.iload_n 3, 1) := by decide +kernel
theorem dX2_stepsAheadOfRing_24 : decode cX2_stepsAheadOfRing 24 = .ok (.aload_n 0, 1) := by decide +kernel
theorem dX2_stepsAheadOfRing_25 : decode cX2_stepsAheadOfRing 25 = .ok (.getfield 25, 3) := by decide +kernel
theorem dX2_stepsAheadOfRing_28 : decode cX2_stepsAheadOfRing 28 = .ok (.if_icmp .ge 17, 3) := by decide +kernel
theorem dX2_stepsAheadOfRing_31 : decode cX2_stepsAheadOfRing 31 = .ok (.aload_n 0, 1) := by decide +kernel
theorem dX2_stepsAheadOfRing_32 : decode cX2_stepsAheadOfRing 32 = .ok (.getfield 18, 3) := by decide +kernel
theorem dX2_stepsAheadOfRing_35 : decode cX2_stepsAheadOfRing 35 = .ok (.iload_n 2, 1) := by decide +kernel
theorem dX2_stepsAheadOfRing_36 : decode cX2_stepsAheadOfRing 36 = .ok (.invokevirtual 54, 3) := by decide +kernel
theorem dX2_stepsAheadOfRing_39 : decode cX2_stepsAheadOfRing 39 = .ok (.iinc 3 1, 3) := by decide +kernel
theorem dX2_stepsAheadOfRing_42 : decode cX2_stepsAheadOfRing 42 = .ok (.goto (-19), 3) := by decide +kernel
theorem dX2_stepsAheadOfRing_45 : decode cX2_stepsAheadOfRing 45 = .ok (.iconst 0, 1) := by decide +kernel
theorem dX2_stepsAheadOfRing_46 : decode cX2_stepsAheadOfRing 46 = .ok (.istore_n 3, 1) := by decide +kernel
theorem dX2_stepsAheadOfRing_47 : decode cX2_stepsAheadOfRing 47 = .ok (.iload_n 3, 1) := by decide +kernel
theorem dX2_stepsAheadOfRing_48 : decode cX2_stepsAheadOfRing 48 = .ok (.aload_n 0, 1) := by decide +kernel
theorem dX2_stepsAheadOfRing_49 : decode cX2_stepsAheadOfRing 49 = .ok (.getfield 25, 3) := by decide +kernel
theorem dX2_stepsAheadOfRing_52 : decode cX2_stepsAheadOfRing 52 = .ok (.iadd, 1) := by decide +kernel
theorem dX2_stepsAheadOfRing_53 : decode cX2_stepsAheadOfRing 53 = .ok (.sipush 2000, 3) := by decide +kernel
theorem dX2_stepsAheadOfRing_56 : decode cX2_stepsAheadOfRing 56 = .ok (.if_icmp .gt 46, 3) := by decide +kernel
theorem dX2_stepsAheadOfRing_59 : decode cX2_stepsAheadOfRing 59 = .ok (.aload_n 0, 1) := by decide +kernel
theorem dX2_stepsAheadOfRing_60 : decode cX2_stepsAheadOfRing 60 = .ok (.getfield 12, 3) := by decide +kernel
theorem dX2_stepsAheadOfRing_63 : decode cX2_stepsAheadOfRing 63 = .ok (.aload_n 0, 1) := by decide +kernel
theorem dX2_stepsAheadOfRing_64 : decode cX2_stepsAheadOfRing 64 = .ok (.getfield 18, 3) := by decide +kernel
theorem dX2_stepsAheadOfRing_67 : decode cX2_stepsAheadOfRing 67 = .ok (.invokevirtual 61, 3) := by decide +kernel
theorem dX2_stepsAheadOfRing_70 : decode cX2_stepsAheadOfRing 70 = .ok (.ifCond .eq 5, 3) := by decide +kernel
theorem dX2_stepsAheadOfRing_73 : decode cX2_stepsAheadOfRing 73 = .ok (.iload_n 3, 1) := by decide +kernel
theorem dX2_stepsAheadOfRing_74 : decode cX2_stepsAheadOfRing 74 = .ok (.ireturn, 1) := by decide +kernel
theorem dX2_stepsAheadOfRing_75 : decode cX2_stepsAheadOfRing 75 = .ok (.aload_n 0, 1) := by decide +kernel
theorem dX2_stepsAheadOfRing_76 : decode cX2_stepsAheadOfRing 76 = .ok (.iload_n 3, 1) := by decide +kernel
theorem dX2_stepsAheadOfRing_77 : decode cX2_stepsAheadOfRing 77 = .ok (.invokevirtual 50, 3) := by decide +kernel
theorem dX2_stepsAheadOfRing_80 : decode cX2_stepsAheadOfRing 80 = .ok (.aload_n 0, 1) := by decide +kernel
theorem dX2_stepsAheadOfRing_81 : decode cX2_stepsAheadOfRing 81 = .ok (.getfield 12, 3) := by decide +kernel
theorem dX2_stepsAheadOfRing_84 : decode cX2_stepsAheadOfRing 84 = .ok (.iload_n 2, 1) := by decide +kernel
theorem dX2_stepsAheadOfRing_85 : decode cX2_stepsAheadOfRing 85 = .ok (.invokevirtual 54, 3) := by decide +kernel
theorem dX2_stepsAheadOfRing_88 : decode cX2_stepsAheadOfRing 88 = .ok (.aload_n 0, 1) := by decide +kernel
theorem dX2_stepsAheadOfRing_89 : decode cX2_stepsAheadOfRing 89 = .ok (.getfield 18, 3) := by decide +kernel
theorem dX2_stepsAheadOfRing_92 : decode cX2_stepsAheadOfRing 92 = .ok (.iload_n 2, 1) := by decide +kernel
theorem dX2_stepsAheadOfRing_93 : decode cX2_stepsAheadOfRing 93 = .ok (.invokevirtual 54, 3) := by decide +kernel
theorem dX2_stepsAheadOfRing_96 : decode cX2_stepsAheadOfRing 96 = .ok (.iinc 3 1, 3) := by decide +kernel
theorem dX2_stepsAheadOfRing_99 : decode cX2_stepsAheadOfRing 99 = .ok (.goto (-52), 3) := by decide +kernel
theorem dX2_stepsAheadOfRing_102 : decode cX2_stepsAheadOfRing 102 = .ok (.iconst (-1), 1) := by decide +kernel
theorem dX2_stepsAheadOfRing_103 : decode cX2_stepsAheadOfRing 103 = .ok (.ireturn, 1) := by decide +kernel
theorem dX2_turnFrom_0 : decode cX2_turnFrom 0 = .ok (.aload_n 0, 1) := by decide +kernel
theorem dX2_turnFrom_1 : decode cX2_turnFrom 1 = .ok (.getfield 12, 3) := by decide +kernel
theorem dX2_turnFrom_4 : decode cX2_turnFrom 4 = .ok (.aload_n 1, 1) := by decide +kernel
theorem dX2_turnFrom_5 : decode cX2_turnFrom 5 = .ok (.invokevirtual 57, 3) := by decide +kernel
theorem dX2_turnFrom_8 : decode cX2_turnFrom 8 = .ok (.aload_n 0, 1) := by decide +kernel
theorem dX2_turnFrom_9 : decode cX2_turnFrom 9 = .ok (.getfield 18, 3) := by decide +kernel
theorem dX2_turnFrom_12 : decode cX2_turnFrom 12 = .ok (.aload_n 1, 1) := by decide +kernel
theorem dX2_turnFrom_13 : decode cX2_turnFrom 13 = .ok (.invokevirtual 57, 3) := by decide +kernel
theorem dX2_turnFrom_16 : decode cX2_turnFrom 16 = .ok (.iconst 1, 1) := by decide +kernel
theorem dX2_turnFrom_17 : decode cX2_turnFrom 17 = .ok (.istore_n 3, 1) := by decide +kernel
theorem dX2_turnFrom_18 : decode cX2_turnFrom 18 = .ok (.iconst 0, 1) := by decide +kernel
theorem dX2_turnFrom_19 : decode cX2_turnFrom 19 = .ok (.istore 4, 2) := by decide +kernel
theorem dX2_turnFrom_21 : decode cX2_turnFrom 21 = .ok (.iconst 0, 1) := by decide +kernel
theorem dX2_turnFrom_22 : decode cX2_turnFrom 22 = .ok (.istore 5, 2) := by decide +kernel
theorem dX2_turnFrom_24 : decode cX2_turnFrom 24 = .ok (.iload 5, 2) := by decide +kernel
theorem dX2_turnFrom_26 : decode cX2_turnFrom 26 = .ok (.sipush 4100, 3) := by decide +kernel
theorem dX2_turnFrom_29 : decode cX2_turnFrom 29 = .ok (.if_icmp .ge 73, 3) := by decide +kernel
theorem dX2_turnFrom_32 : decode cX2_turnFrom 32 = .ok (.aload_n 0, 1) := by decide +kernel
theorem dX2_turnFrom_33 : decode cX2_turnFrom 33 = .ok (.getfield 18, 3) := by decide +kernel
theorem dX2_turnFrom_36 : decode cX2_turnFrom 36 = .ok (.iload_n 2, 1) := by decide +kernel
theorem dX2_turnFrom_37 : decode cX2_turnFrom 37 = .ok (.invokevirtual 54, 3) := by decide +kernel
theorem dX2_turnFrom_40 : decode cX2_turnFrom 40 = .ok (.iinc 4 1, 3) := by decide +kernel
theorem dX2_turnFrom_43 : decode cX2_turnFrom 43 = .ok (.aload_n 0, 1) := by decide +kernel
theorem dX2_turnFrom_44 : decode cX2_turnFrom 44 = .ok (.getfield 18, 3) := by decide +kernel
theorem dX2_turnFrom_47 : decode cX2_turnFrom 47 = .ok (.aload_n 0, 1) := by decide +kernel
theorem dX2_turnFrom_48 : decode cX2_turnFrom 48 = .ok (.getfield 12, 3) := by decide +kernel
theorem dX2_turnFrom_51 : decode cX2_turnFrom 51 = .ok (.invokevirtual 61, 3) := by decide +kernel
theorem dX2_turnFrom_54 : decode cX2_turnFrom 54 = .ok (.ifCond .eq 18, 3) := by decide +kernel
theorem dX2_turnFrom_57 : decode cX2_turnFrom 57 = .ok (.iload 4, 2) := by decide +kernel
theorem dX2_turnFrom_59 : decode cX2_turnFrom 59 = .ok (.sipush 2000, 3) := by decide +kernel
theorem dX2_turnFrom_62 : decode cX2_turnFrom 62 = .ok (.if_icmp .gt 8, 3) := by decide +kernel
theorem dX2_turnFrom_65 : decode cX2_turnFrom 65 = .ok (.iload 4, 2) := by decide +kernel
theorem dX2_turnFrom_67 : decode cX2_turnFrom 67 = .ok (.goto 4, 3) := by decide +kernel
theorem dX2_turnFrom_70 : decode cX2_turnFrom 70 = .ok (.iconst (-1), 1) := by decide +kernel
theorem dX2_turnFrom_71 : decode cX2_turnFrom 71 = .ok (.ireturn, 1) := by decide +kernel
theorem dX2_turnFrom_72 : decode cX2_turnFrom 72 = .ok (.iload 4, 2) := by decide +kernel
theorem dX2_turnFrom_74 : decode cX2_turnFrom 74 = .ok (.iload_n 3, 1) := by decide +kernel
theorem dX2_turnFrom_75 : decode cX2_turnFrom 75 = .ok (.if_icmp .ne 21, 3) := by decide +kernel
theorem dX2_turnFrom_78 : decode cX2_turnFrom 78 = .ok (.aload_n 0, 1) := by decide +kernel
theorem dX2_turnFrom_79 : decode cX2_turnFrom 79 = .ok (.getfield 12, 3) := by decide +kernel
theorem dX2_turnFrom_82 : decode cX2_turnFrom 82 = .ok (.aload_n 0, 1) := by decide +kernel
theorem dX2_turnFrom_83 : decode cX2_turnFrom 83 = .ok (.getfield 18, 3) := by decide +kernel
theorem dX2_turnFrom_86 : decode cX2_turnFrom 86 = .ok (.invokevirtual 57, 3) := by decide +kernel
theorem dX2_turnFrom_89 : decode cX2_turnFrom 89 = .ok (.iload_n 3, 1) := by decide +kernel
theorem dX2_turnFrom_90 : decode cX2_turnFrom 90 = .ok (.iconst 2, 1) := by decide +kernel
theorem dX2_turnFrom_91 : decode cX2_turnFrom 91 = .ok (.imul, 1) := by decide +kernel
theorem dX2_turnFrom_92 : decode cX2_turnFrom 92 = .ok (.istore_n 3, 1) := by decide +kernel
theorem dX2_turnFrom_93 : decode cX2_turnFrom 93 = .ok (.iconst 0, 1) := by decide +kernel
theorem dX2_turnFrom_94 : decode cX2_turnFrom 94 = .ok (.istore 4, 2) := by decide +kernel
theorem dX2_turnFrom_96 : decode cX2_turnFrom 96 = .ok (.iinc 5 1, 3) := by decide +kernel
theorem dX2_turnFrom_99 : decode cX2_turnFrom 99 = .ok (.goto (-75), 3) := by decide +kernel
theorem dX2_turnFrom_102 : decode cX2_turnFrom 102 = .ok (.iconst (-1), 1) := by decide +kernel
theorem dX2_turnFrom_103 : decode cX2_turnFrom 103 = .ok (.ireturn, 1) := by decide +kernel
theorem dX3_alike_0 : decode cX3_alike 0 = .ok (.aload_n 0, 1) := by decide +kernel
theorem dX3_alike_1 : decode cX3_alike 1 = .ok (.getfield 18, 3) := by decide +kernel
theorem dX3_alike_4 : decode cX3_alike 4 = .ok (.aload_n 1, 1) := by decide +kernel
theorem dX3_alike_5 : decode cX3_alike 5 = .ok (.getfield 18, 3) := by decide +kernel
theorem dX3_alike_8 : decode cX3_alike 8 = .ok (.if_icmp .ne 25, 3) := by decide +kernel
theorem dX3_alike_11 : decode cX3_alike 11 = .ok (.aload_n 0, 1) := by decide +kernel
theorem dX3_alike_12 : decode cX3_alike 12 = .ok (.getfield 22, 3) := by decide +kernel
theorem dX3_alike_15 : decode cX3_alike 15 = .ok (.aload_n 1, 1) := by decide +kernel
theorem dX3_alike_16 : decode cX3_alike 16 = .ok (.getfield 22, 3) := by decide +kernel
theorem dX3_alike_19 : decode cX3_alike 19 = .ok (.if_icmp .ne 14, 3) := by decide +kernel
theorem dX3_alike_22 : decode cX3_alike 22 = .ok (.aload_n 0, 1) := by decide +kernel
theorem dX3_alike_23 : decode cX3_alike 23 = .ok (.getfield 25, 3) := by decide +kernel
theorem dX3_alike_26 : decode cX3_alike 26 = .ok (.aload_n 1, 1) := by decide +kernel
theorem dX3_alike_27 : decode cX3_alike 27 = .ok (.getfield 25, 3) := by decide +kernel
theorem dX3_alike_30 : decode cX3_alike 30 = .ok (.if_icmp .eq 5, 3) := by decide +kernel
theorem dX3_alike_33 : decode cX3_alike 33 = .ok (.iconst 0, 1) := by decide +kernel
theorem dX3_alike_34 : decode cX3_alike 34 = .ok (.ireturn, 1) := by decide +kernel
theorem dX3_alike_35 : decode cX3_alike 35 = .ok (.iconst 0, 1) := by decide +kernel
theorem dX3_alike_36 : decode cX3_alike 36 = .ok (.istore_n 2, 1) := by decide +kernel
theorem dX3_alike_37 : decode cX3_alike 37 = .ok (.iload_n 2, 1) := by decide +kernel
theorem dX3_alike_38 : decode cX3_alike 38 = .ok (.aload_n 0, 1) := by decide +kernel
theorem dX3_alike_39 : decode cX3_alike 39 = .ok (.getfield 18, 3) := by decide +kernel
theorem dX3_alike_42 : decode cX3_alike 42 = .ok (.if_icmp .ge 41, 3) := by decide +kernel
theorem dX3_alike_45 : decode cX3_alike 45 = .ok (.aload_n 0, 1) := by decide +kernel
theorem dX3_alike_46 : decode cX3_alike 46 = .ok (.getfield 11, 3) := by decide +kernel
theorem dX3_alike_49 : decode cX3_alike 49 = .ok (.iload_n 2, 1) := by decide +kernel
theorem dX3_alike_50 : decode cX3_alike 50 = .ok (.iaload, 1) := by decide +kernel
theorem dX3_alike_51 : decode cX3_alike 51 = .ok (.aload_n 1, 1) := by decide +kernel
theorem dX3_alike_52 : decode cX3_alike 52 = .ok (.getfield 11, 3) := by decide +kernel
theorem dX3_alike_55 : decode cX3_alike 55 = .ok (.iload_n 2, 1) := by decide +kernel
theorem dX3_alike_56 : decode cX3_alike 56 = .ok (.iaload, 1) := by decide +kernel
theorem dX3_alike_57 : decode cX3_alike 57 = .ok (.if_icmp .ne 18, 3) := by decide +kernel
theorem dX3_alike_60 : decode cX3_alike 60 = .ok (.aload_n 0, 1) := by decide +kernel
theorem dX3_alike_61 : decode cX3_alike 61 = .ok (.getfield 15, 3) := by decide +kernel
theorem dX3_alike_64 : decode cX3_alike 64 = .ok (.iload_n 2, 1) := by decide +kernel
theorem dX3_alike_65 : decode cX3_alike 65 = .ok (.iaload, 1) := by decide +kernel
theorem dX3_alike_66 : decode cX3_alike 66 = .ok (.aload_n 1, 1) := by decide +kernel
theorem dX3_alike_67 : decode cX3_alike 67 = .ok (.getfield 15, 3) := by decide +kernel
theorem dX3_alike_70 : decode cX3_alike 70 = .ok (.iload_n 2, 1) := by decide +kernel
theorem dX3_alike_71 : decode cX3_alike 71 = .ok (.iaload, 1) := by decide +kernel
theorem dX3_alike_72 : decode cX3_alike 72 = .ok (.if_icmp .eq 5, 3) := by decide +kernel
theorem dX3_alike_75 : decode cX3_alike 75 = .ok (.iconst 0, 1) := by decide +kernel
theorem dX3_alike_76 : decode cX3_alike 76 = .ok (.ireturn, 1) := by decide +kernel
theorem dX3_alike_77 : decode cX3_alike 77 = .ok (.iinc 2 1, 3) := by decide +kernel
theorem dX3_alike_80 : decode cX3_alike 80 = .ok (.goto (-43), 3) := by decide +kernel
theorem dX3_alike_83 : decode cX3_alike 83 = .ok (.iconst 1, 1) := by decide +kernel
theorem dX3_alike_84 : decode cX3_alike 84 = .ok (.ireturn, 1) := by decide +kernel
theorem dX3_become_0 : decode cX3_become 0 = .ok (.aload_n 1, 1) := by decide +kernel
theorem dX3_become_1 : decode cX3_become 1 = .ok (.getfield 11, 3) := by decide +kernel
theorem dX3_become_4 : decode cX3_become 4 = .ok (.iconst 0, 1) := by decide +kernel
theorem dX3_become_5 : decode cX3_become 5 = .ok (.aload_n 0, 1) := by decide +kernel
theorem dX3_become_6 : decode cX3_become 6 = .ok (.getfield 11, 3) := by decide +kernel
theorem dX3_become_9 : decode cX3_become 9 = .ok (.iconst 0, 1) := by decide +kernel
theorem dX3_become_10 : decode cX3_become 10 = .ok (.aload_n 1, 1) := by decide +kernel
theorem dX3_become_11 : decode cX3_become 11 = .ok (.getfield 18, 3) := by decide +kernel
theorem dX3_become_14 : decode cX3_become 14 = .ok (.invokestatic 28, 3) := by decide +kernel
theorem dX3_become_17 : decode cX3_become 17 = .ok (.aload_n 1, 1) := by decide +kernel
theorem dX3_become_18 : decode cX3_become 18 = .ok (.getfield 15, 3) := by decide +kernel
theorem dX3_become_21 : decode cX3_become 21 = .ok (.iconst 0, 1) := by decide +kernel
theorem dX3_become_22 : decode cX3_become 22 = .ok (.aload_n 0, 1) := by decide +kernel
theorem dX3_become_23 : decode cX3_become 23 = .ok (.getfield 15, 3) := by decide +kernel
theorem dX3_become_26 : decode cX3_become 26 = .ok (.iconst 0, 1) := by decide +kernel
theorem dX3_become_27 : decode cX3_become 27 = .ok (.aload_n 1, 1) := by decide +kernel
theorem dX3_become_28 : decode cX3_become 28 = .ok (.getfield 18, 3) := by decide +kernel
theorem dX3_become_31 : decode cX3_become 31 = .ok (.invokestatic 28, 3) := by decide +kernel
theorem dX3_become_34 : decode cX3_become 34 = .ok (.aload_n 0, 1) := by decide +kernel
theorem dX3_become_35 : decode cX3_become 35 = .ok (.aload_n 1, 1) := by decide +kernel
theorem dX3_become_36 : decode cX3_become 36 = .ok (.getfield 18, 3) := by decide +kernel
theorem dX3_become_39 : decode cX3_become 39 = .ok (.putfield 18, 3) := by decide +kernel
theorem dX3_become_42 : decode cX3_become 42 = .ok (.aload_n 0, 1) := by decide +kernel
theorem dX3_become_43 : decode cX3_become 43 = .ok (.aload_n 1, 1) := by decide +kernel
theorem dX3_become_44 : decode cX3_become 44 = .ok (.getfield 22, 3) := by decide +kernel
theorem dX3_become_47 : decode cX3_become 47 = .ok (.putfield 22, 3) := by decide +kernel
theorem dX3_become_50 : decode cX3_become 50 = .ok (.aload_n 0, 1) := by decide +kernel
theorem dX3_become_51 : decode cX3_become 51 = .ok (.aload_n 1, 1) := by decide +kernel
theorem dX3_become_52 : decode cX3_become 52 = .ok (.getfield 25, 3) := by decide +kernel
theorem dX3_become_55 : decode cX3_become 55 = .ok (.putfield 25, 3) := by decide +kernel
theorem dX3_become_58 : decode cX3_become 58 = .ok (.return_, 1) := by decide +kernel
theorem dX3_clear_0 : decode cX3_clear 0 = .ok (.aload_n 0, 1) := by decide +kernel
theorem dX3_clear_1 : decode cX3_clear 1 = .ok (.iconst 0, 1) := by decide +kernel
theorem dX3_clear_2 : decode cX3_clear 2 = .ok (.putfield 18, 3) := by decide +kernel
theorem dX3_clear_5 : decode cX3_clear 5 = .ok (.aload_n 0, 1) := by decide +kernel
theorem dX3_clear_6 : decode cX3_clear 6 = .ok (.iconst 0, 1) := by decide +kernel
theorem dX3_clear_7 : decode cX3_clear 7 = .ok (.putfield 22, 3) := by decide +kernel
theorem dX3_clear_10 : decode cX3_clear 10 = .ok (.aload_n 0, 1) := by decide +kernel
theorem dX3_clear_11 : decode cX3_clear 11 = .ok (.iconst 0, 1) := by decide +kernel
theorem dX3_clear_12 : decode cX3_clear 12 = .ok (.putfield 25, 3) := by decide +kernel
theorem dX3_clear_15 : decode cX3_clear 15 = .ok (.return_, 1) := by decide +kernel
theorem dX3_dropHighest_0 : decode cX3_dropHighest 0 = .ok (.aload_n 0, 1) := by decide +kernel
theorem dX3_dropHighest_1 : decode cX3_dropHighest 1 = .ok (.getfield 18, 3) := by decide +kernel
theorem dX3_dropHighest_4 : decode cX3_dropHighest 4 = .ok (.ifCond .ne 5, 3) := by decide +kernel
theorem dX3_dropHighest_7 : decode cX3_dropHighest 7 = .ok (.iconst 0, 1) := by decide +kernel
theorem dX3_dropHighest_8 : decode cX3_dropHighest 8 = .ok (.ireturn, 1) := by decide +kernel
theorem dX3_dropHighest_9 : decode cX3_dropHighest 9 = .ok (.aload_n 0, 1) := by decide +kernel
theorem dX3_dropHighest_10 : decode cX3_dropHighest 10 = .ok (.getfield 11, 3) := by decide +kernel
theorem dX3_dropHighest_13 : decode cX3_dropHighest 13 = .ok (.iconst 0, 1) := by decide +kernel
theorem dX3_dropHighest_14 : decode cX3_dropHighest 14 = .ok (.iaload, 1) := by decide +kernel
theorem dX3_dropHighest_15 : decode cX3_dropHighest 15 = .ok (.istore_n 1, 1) := by decide +kernel
theorem dX3_dropHighest_16 : decode cX3_dropHighest 16 = .ok (.aload_n 0, 1) := by decide +kernel
theorem dX3_dropHighest_17 : decode cX3_dropHighest 17 = .ok (.getfield 15, 3) := by decide +kernel
theorem dX3_dropHighest_20 : decode cX3_dropHighest 20 = .ok (.iconst 0, 1) := by decide +kernel
theorem dX3_dropHighest_21 : decode cX3_dropHighest 21 = .ok (.dup2, 1) := by decide +kernel
theorem dX3_dropHighest_22 : decode cX3_dropHighest 22 = .ok (.iaload, 1) := by decide +kernel
theorem dX3_dropHighest_23 : decode cX3_dropHighest 23 = .ok (.iconst 1, 1) := by decide +kernel
theorem dX3_dropHighest_24 : decode cX3_dropHighest 24 = .ok (.isub, 1) := by decide +kernel
theorem dX3_dropHighest_25 : decode cX3_dropHighest 25 = .ok (.iastore, 1) := by decide +kernel
theorem dX3_dropHighest_26 : decode cX3_dropHighest 26 = .ok (.aload_n 0, 1) := by decide +kernel
theorem dX3_dropHighest_27 : decode cX3_dropHighest 27 = .ok (.dup, 1) := by decide +kernel
theorem dX3_dropHighest_28 : decode cX3_dropHighest 28 = .ok (.getfield 22, 3) := by decide +kernel
theorem dX3_dropHighest_31 : decode cX3_dropHighest 31 = .ok (.iconst 1, 1) := by decide +kernel
theorem dX3_dropHighest_32 : decode cX3_dropHighest 32 = .ok (.isub, 1) := by decide +kernel
theorem dX3_dropHighest_33 : decode cX3_dropHighest 33 = .ok (.putfield 22, 3) := by decide +kernel
theorem dX3_dropHighest_36 : decode cX3_dropHighest 36 = .ok (.aload_n 0, 1) := by decide +kernel
theorem dX3_dropHighest_37 : decode cX3_dropHighest 37 = .ok (.dup, 1) := by decide +kernel
theorem dX3_dropHighest_38 : decode cX3_dropHighest 38 = .ok (.getfield 25, 3) := by decide +kernel
theorem dX3_dropHighest_41 : decode cX3_dropHighest 41 = .ok (.iload_n 1, 1) := by decide +kernel
theorem dX3_dropHighest_42 : decode cX3_dropHighest 42 = .ok (.isub, 1) := by decide +kernel
theorem dX3_dropHighest_43 : decode cX3_dropHighest 43 = .ok (.putfield 25, 3) := by decide +kernel
theorem dX3_dropHighest_46 : decode cX3_dropHighest 46 = .ok (.aload_n 0, 1) := by decide +kernel
theorem dX3_dropHighest_47 : decode cX3_dropHighest 47 = .ok (.getfield 15, 3) := by decide +kernel
theorem dX3_dropHighest_50 : decode cX3_dropHighest 50 = .ok (.iconst 0, 1) := by decide +kernel
theorem dX3_dropHighest_51 : decode cX3_dropHighest 51 = .ok (.iaload, 1) := by decide +kernel
theorem dX3_dropHighest_52 : decode cX3_dropHighest 52 = .ok (.ifCond .ne 47, 3) := by decide +kernel
theorem dX3_dropHighest_55 : decode cX3_dropHighest 55 = .ok (.aload_n 0, 1) := by decide +kernel
theorem dX3_dropHighest_56 : decode cX3_dropHighest 56 = .ok (.dup, 1) := by decide +kernel
theorem dX3_dropHighest_57 : decode cX3_dropHighest 57 = .ok (.getfield 18, 3) := by decide +kernel
theorem dX3_dropHighest_60 : decode cX3_dropHighest 60 = .ok (.iconst 1, 1) := by decide +kernel
theorem dX3_dropHighest_61 : decode cX3_dropHighest 61 = .ok (.isub, 1) := by decide +kernel
theorem dX3_dropHighest_62 : decode cX3_dropHighest 62 = .ok (.putfield 18, 3) := by decide +kernel
theorem dX3_dropHighest_65 : decode cX3_dropHighest 65 = .ok (.aload_n 0, 1) := by decide +kernel
theorem dX3_dropHighest_66 : decode cX3_dropHighest 66 = .ok (.getfield 11, 3) := by decide +kernel
theorem dX3_dropHighest_69 : decode cX3_dropHighest 69 = .ok (.iconst 1, 1) := by decide +kernel
theorem dX3_dropHighest_70 : decode cX3_dropHighest 70 = .ok (.aload_n 0, 1) := by decide +kernel
theorem dX3_dropHighest_71 : decode cX3_dropHighest 71 = .ok (.getfield 11, 3) := by decide +kernel
theorem dX3_dropHighest_74 : decode cX3_dropHighest 74 = .ok (.iconst 0, 1) := by decide +kernel
theorem dX3_dropHighest_75 : decode cX3_dropHighest 75 = .ok (.aload_n 0, 1) := by decide +kernel
theorem dX3_dropHighest_76 : decode cX3_dropHighest 76 = .ok (.getfield 18, 3) := by decide +kernel
theorem dX3_dropHighest_79 : decode cX3_dropHighest 79 = .ok (.invokestatic 28, 3) := by decide +kernel
theorem dX3_dropHighest_82 : decode cX3_dropHighest 82 = .ok (.aload_n 0, 1) := by decide +kernel
theorem dX3_dropHighest_83 : decode cX3_dropHighest 83 = .ok (.getfield 15, 3) := by decide +kernel
theorem dX3_dropHighest_86 : decode cX3_dropHighest 86 = .ok (.iconst 1, 1) := by decide +kernel
theorem dX3_dropHighest_87 : decode cX3_dropHighest 87 = .ok (.aload_n 0, 1) := by decide +kernel
theorem dX3_dropHighest_88 : decode cX3_dropHighest 88 = .ok (.getfield 15, 3) := by decide +kernel
theorem dX3_dropHighest_91 : decode cX3_dropHighest 91 = .ok (.iconst 0, 1) := by decide +kernel
theorem dX3_dropHighest_92 : decode cX3_dropHighest 92 = .ok (.aload_n 0, 1) := by decide +kernel
theorem dX3_dropHighest_93 : decode cX3_dropHighest 93 = .ok (.getfield 18, 3) := by decide +kernel
theorem dX3_dropHighest_96 : decode cX3_dropHighest 96 = .ok (.invokestatic 28, 3) := by decide +kernel
theorem dX3_dropHighest_99 : decode cX3_dropHighest 99 = .ok (.iload_n 1, 1) := by decide +kernel
theorem dX3_dropHighest_100 : decode cX3_dropHighest 100 = .ok (.ireturn, 1) := by decide +kernel
theorem dX3_goneBy_0 : decode cX3_goneBy 0 = .ok (.iconst 0, 1) := by decide +kernel
theorem dX3_goneBy_1 : decode cX3_goneBy 1 = .ok (.istore_n 2, 1) := by decide +kernel
theorem dX3_goneBy_2 : decode cX3_goneBy 2 = .ok (.iconst 0, 1) := by decide +kernel
theorem dX3_goneBy_3 : decode cX3_goneBy 3 = .ok (.istore_n 3, 1) := by decide +kernel
theorem dX3_goneBy_4 : decode cX3_goneBy 4 = .ok (.iload_n 3, 1) := by decide +kernel
theorem dX3_goneBy_5 : decode cX3_goneBy 5 = .ok (.aload_n 0, 1) := by decide +kernel
theorem dX3_goneBy_6 : decode cX3_goneBy 6 = .ok (.getfield 18, 3) := by decide +kernel
theorem dX3_goneBy_9 : decode cX3_goneBy 9 = .ok (.if_icmp .ge 37, 3) := by decide +kernel
theorem dX3_goneBy_12 : decode cX3_goneBy 12 = .ok (.iload_n 1, 1) := by decide +kernel
theorem dX3_goneBy_13 : decode cX3_goneBy 13 = .ok (.aload_n 0, 1) := by decide +kernel
theorem dX3_goneBy_14 : decode cX3_goneBy 14 = .ok (.getfield 11, 3) := by decide +kernel
theorem dX3_goneBy_17 : decode cX3_goneBy 17 = .ok (.iload_n 3, 1) := by decide +kernel
theorem dX3_goneBy_18 : decode cX3_goneBy 18 = .ok (.iaload, 1) := by decide +kernel
theorem dX3_goneBy_19 : decode cX3_goneBy 19 = .ok (.invokestatic 46, 3) := by decide +kernel
theorem dX3_goneBy_22 : decode cX3_goneBy 22 = .ok (.aload_n 0, 1) := by decide +kernel
theorem dX3_goneBy_23 : decode cX3_goneBy 23 = .ok (.getfield 11, 3) := by decide +kernel
theorem dX3_goneBy_26 : decode cX3_goneBy 26 = .ok (.iload_n 3, 1) := by decide +kernel
theorem dX3_goneBy_27 : decode cX3_goneBy 27 = .ok (.iaload, 1) := by decide +kernel
theorem dX3_goneBy_28 : decode cX3_goneBy 28 = .ok (.if_icmp .ne 12, 3) := by decide +kernel
theorem dX3_goneBy_31 : decode cX3_goneBy 31 = .ok (.iload_n 2, 1) := by decide +kernel
theorem dX3_goneBy_32 : decode cX3_goneBy 32 = .ok (.aload_n 0, 1) := by decide +kernel
theorem dX3_goneBy_33 : decode cX3_goneBy 33 = .ok (.iload_n 1, 1) := by decide +kernel
theorem dX3_goneBy_34 : decode cX3_goneBy 34 = .ok (.iload_n 3, 1) := by decide +kernel
theorem dX3_goneBy_35 : decode cX3_goneBy 35 = .ok (.invokevirtual 50, 3) := by decide +kernel
theorem dX3_goneBy_38 : decode cX3_goneBy 38 = .ok (.iadd, 1) := by decide +kernel
theorem dX3_goneBy_39 : decode cX3_goneBy 39 = .ok (.istore_n 2, 1) := by decide +kernel
theorem dX3_goneBy_40 : decode cX3_goneBy 40 = .ok (.iinc 3 1, 3) := by decide +kernel
theorem dX3_goneBy_43 : decode cX3_goneBy 43 = .ok (.goto (-39), 3) := by decide +kernel
theorem dX3_goneBy_46 : decode cX3_goneBy 46 = .ok (.iload_n 2, 1) := by decide +kernel
theorem dX3_goneBy_47 : decode cX3_goneBy 47 = .ok (.ireturn, 1) := by decide +kernel
theorem dX3_heapAt_0 : decode cX3_heapAt 0 = .ok (.iconst 0, 1) := by decide +kernel
theorem dX3_heapAt_1 : decode cX3_heapAt 1 = .ok (.istore_n 2, 1) := by decide +kernel
theorem dX3_heapAt_2 : decode cX3_heapAt 2 = .ok (.iconst 0, 1) := by decide +kernel
theorem dX3_heapAt_3 : decode cX3_heapAt 3 = .ok (.istore_n 3, 1) := by decide +kernel
theorem dX3_heapAt_4 : decode cX3_heapAt 4 = .ok (.iload_n 3, 1) := by decide +kernel
theorem dX3_heapAt_5 : decode cX3_heapAt 5 = .ok (.aload_n 0, 1) := by decide +kernel
theorem dX3_heapAt_6 : decode cX3_heapAt 6 = .ok (.getfield 18, 3) := by decide +kernel
theorem dX3_heapAt_9 : decode cX3_heapAt 9 = .ok (.if_icmp .ge 30, 3) := by decide +kernel
theorem dX3_heapAt_12 : decode cX3_heapAt 12 = .ok (.iload_n 2, 1) := by decide +kernel
theorem dX3_heapAt_13 : decode cX3_heapAt 13 = .ok (.aload_n 0, 1) := by decide +kernel
theorem dX3_heapAt_14 : decode cX3_heapAt 14 = .ok (.getfield 15, 3) := by decide +kernel
theorem dX3_heapAt_17 : decode cX3_heapAt 17 = .ok (.iload_n 3, 1) := by decide +kernel
theorem dX3_heapAt_18 : decode cX3_heapAt 18 = .ok (.iaload, 1) := by decide +kernel
theorem dX3_heapAt_19 : decode cX3_heapAt 19 = .ok (.iadd, 1) := by decide +kernel
theorem dX3_heapAt_20 : decode cX3_heapAt 20 = .ok (.istore_n 2, 1) := by decide +kernel
theorem dX3_heapAt_21 : decode cX3_heapAt 21 = .ok (.iload_n 1, 1) := by decide +kernel
theorem dX3_heapAt_22 : decode cX3_heapAt 22 = .ok (.iload_n 2, 1) := by decide +kernel
theorem dX3_heapAt_23 : decode cX3_heapAt 23 = .ok (.if_icmp .ge 10, 3) := by decide +kernel
theorem dX3_heapAt_26 : decode cX3_heapAt 26 = .ok (.aload_n 0, 1) := by decide +kernel
theorem dX3_heapAt_27 : decode cX3_heapAt 27 = .ok (.getfield 11, 3) := by decide +kernel
theorem dX3_heapAt_30 : decode cX3_heapAt 30 = .ok (.iload_n 3, 1) := by decide +kernel
theorem dX3_heapAt_31 : decode cX3_heapAt 31 = .ok (.iaload, 1) := by decide +kernel
theorem dX3_heapAt_32 : decode cX3_heapAt 32 = .ok (.ireturn, 1) := by decide +kernel
theorem dX3_heapAt_33 : decode cX3_heapAt 33 = .ok (.iinc 3 1, 3) := by decide +kernel
theorem dX3_heapAt_36 : decode cX3_heapAt 36 = .ok (.goto (-32), 3) := by decide +kernel
theorem dX3_heapAt_39 : decode cX3_heapAt 39 = .ok (.iconst (-1), 1) := by decide +kernel
theorem dX3_heapAt_40 : decode cX3_heapAt 40 = .ok (.ireturn, 1) := by decide +kernel
theorem dX3_heapsFrom_0 : decode cX3_heapsFrom 0 = .ok (.iconst 0, 1) := by decide +kernel
theorem dX3_heapsFrom_1 : decode cX3_heapsFrom 1 = .ok (.istore_n 2, 1) := by decide +kernel
theorem dX3_heapsFrom_2 : decode cX3_heapsFrom 2 = .ok (.iconst 0, 1) := by decide +kernel
theorem dX3_heapsFrom_3 : decode cX3_heapsFrom 3 = .ok (.istore_n 3, 1) := by decide +kernel
theorem dX3_heapsFrom_4 : decode cX3_heapsFrom 4 = .ok (.iload_n 3, 1) := by decide +kernel
theorem dX3_heapsFrom_5 : decode cX3_heapsFrom 5 = .ok (.aload_n 0, 1) := by decide +kernel
theorem dX3_heapsFrom_6 : decode cX3_heapsFrom 6 = .ok (.getfield 18, 3) := by decide +kernel
theorem dX3_heapsFrom_9 : decode cX3_heapsFrom 9 = .ok (.if_icmp .ge 28, 3) := by decide +kernel
theorem dX3_heapsFrom_12 : decode cX3_heapsFrom 12 = .ok (.aload_n 0, 1) := by decide +kernel
theorem dX3_heapsFrom_13 : decode cX3_heapsFrom 13 = .ok (.getfield 11, 3) := by decide +kernel
theorem dX3_heapsFrom_16 : decode cX3_heapsFrom 16 = .ok (.iload_n 3, 1) := by decide +kernel
theorem dX3_heapsFrom_17 : decode cX3_heapsFrom 17 = .ok (.iaload, 1) := by decide +kernel
theorem dX3_heapsFrom_18 : decode cX3_heapsFrom 18 = .ok (.iload_n 1, 1) := by decide +kernel
theorem dX3_heapsFrom_19 : decode cX3_heapsFrom 19 = .ok (.if_icmp .lt 18, 3) := by decide +kernel
theorem dX3_heapsFrom_22 : decode cX3_heapsFrom 22 = .ok (.iload_n 2, 1) := by decide +kernel
theorem dX3_heapsFrom_23 : decode cX3_heapsFrom 23 = .ok (.aload_n 0, 1) := by decide +kernel
theorem dX3_heapsFrom_24 : decode cX3_heapsFrom 24 = .ok (.getfield 15, 3) := by decide +kernel
theorem dX3_heapsFrom_27 : decode cX3_heapsFrom 27 = .ok (.iload_n 3, 1) := by decide +kernel
theorem dX3_heapsFrom_28 : decode cX3_heapsFrom 28 = .ok (.iaload, 1) := by decide +kernel
theorem dX3_heapsFrom_29 : decode cX3_heapsFrom 29 = .ok (.iadd, 1) := by decide +kernel
theorem dX3_heapsFrom_30 : decode cX3_heapsFrom 30 = .ok (.istore_n 2, 1) := by decide +kernel
theorem dX3_heapsFrom_31 : decode cX3_heapsFrom 31 = .ok (.iinc 3 1, 3) := by decide +kernel
theorem dX3_heapsFrom_34 : decode cX3_heapsFrom 34 = .ok (.goto (-30), 3) := by decide +kernel
theorem dX3_heapsFrom_37 : decode cX3_heapsFrom 37 = .ok (.iload_n 2, 1) := by decide +kernel
theorem dX3_heapsFrom_38 : decode cX3_heapsFrom 38 = .ok (.ireturn, 1) := by decide +kernel
theorem dX3_heapsOf_0 : decode cX3_heapsOf 0 = .ok (.iconst 0, 1) := by decide +kernel
theorem dX3_heapsOf_1 : decode cX3_heapsOf 1 = .ok (.istore_n 2, 1) := by decide +kernel
theorem dX3_heapsOf_2 : decode cX3_heapsOf 2 = .ok (.iload_n 2, 1) := by decide +kernel
theorem dX3_heapsOf_3 : decode cX3_heapsOf 3 = .ok (.aload_n 0, 1) := by decide +kernel
theorem dX3_heapsOf_4 : decode cX3_heapsOf 4 = .ok (.getfield 18, 3) := by decide +kernel
theorem dX3_heapsOf_7 : decode cX3_heapsOf 7 = .ok (.if_icmp .ge 26, 3) := by decide +kernel
theorem dX3_heapsOf_10 : decode cX3_heapsOf 10 = .ok (.aload_n 0, 1) := by decide +kernel
theorem dX3_heapsOf_11 : decode cX3_heapsOf 11 = .ok (.getfield 11, 3) := by decide +kernel
theorem dX3_heapsOf_14 : decode cX3_heapsOf 14 = .ok (.iload_n 2, 1) := by decide +kernel
theorem dX3_heapsOf_15 : decode cX3_heapsOf 15 = .ok (.iaload, 1) := by decide +kernel
theorem dX3_heapsOf_16 : decode cX3_heapsOf 16 = .ok (.iload_n 1, 1) := by decide +kernel
theorem dX3_heapsOf_17 : decode cX3_heapsOf 17 = .ok (.if_icmp .ne 10, 3) := by decide +kernel
theorem dX3_heapsOf_20 : decode cX3_heapsOf 20 = .ok (.aload_n 0, 1) := by decide +kernel
theorem dX3_heapsOf_21 : decode cX3_heapsOf 21 = .ok (.getfield 15, 3) := by decide +kernel
theorem dX3_heapsOf_24 : decode cX3_heapsOf 24 = .ok (.iload_n 2, 1) := by decide +kernel
theorem dX3_heapsOf_25 : decode cX3_heapsOf 25 = .ok (.iaload, 1) := by decide +kernel
theorem dX3_heapsOf_26 : decode cX3_heapsOf 26 = .ok (.ireturn, 1) := by decide +kernel
theorem dX3_heapsOf_27 : decode cX3_heapsOf 27 = .ok (.iinc 2 1, 3) := by decide +kernel
theorem dX3_heapsOf_30 : decode cX3_heapsOf 30 = .ok (.goto (-28), 3) := by decide +kernel
theorem dX3_heapsOf_33 : decode cX3_heapsOf 33 = .ok (.iconst 0, 1) := by decide +kernel
theorem dX3_heapsOf_34 : decode cX3_heapsOf 34 = .ok (.ireturn, 1) := by decide +kernel
theorem dX3_highest_0 : decode cX3_highest 0 = .ok (.aload_n 0, 1) := by decide +kernel
theorem dX3_highest_1 : decode cX3_highest 1 = .ok (.getfield 18, 3) := by decide +kernel
theorem dX3_highest_4 : decode cX3_highest 4 = .ok (.ifCond .le 12, 3) := by decide +kernel
theorem dX3_highest_7 : decode cX3_highest 7 = .ok (.aload_n 0, 1) := by decide +kernel
theorem dX3_highest_8 : decode cX3_highest 8 = .ok (.getfield 11, 3) := by decide +kernel
theorem dX3_highest_11 : decode cX3_highest 11 = .ok (.iconst 0, 1) := by decide +kernel
theorem dX3_highest_12 : decode cX3_highest 12 = .ok (.iaload, 1) := by decide +kernel
theorem dX3_highest_13 : decode cX3_highest 13 = .ok (.goto 4, 3) := by decide +kernel
theorem dX3_highest_16 : decode cX3_highest 16 = .ok (.iconst 0, 1) := by decide +kernel
theorem dX3_highest_17 : decode cX3_highest 17 = .ok (.ireturn, 1) := by decide +kernel
theorem dX3_isStair_0 : decode cX3_isStair 0 = .ok (.aload_n 0, 1) := by decide +kernel
theorem dX3_isStair_1 : decode cX3_isStair 1 = .ok (.getfield 18, 3) := by decide +kernel
theorem dX3_isStair_4 : decode cX3_isStair 4 = .ok (.ifCond .le 31, 3) := by decide +kernel
theorem dX3_isStair_7 : decode cX3_isStair 7 = .ok (.aload_n 0, 1) := by decide +kernel
theorem dX3_isStair_8 : decode cX3_isStair 8 = .ok (.getfield 11, 3) := by decide +kernel
theorem dX3_isStair_11 : decode cX3_isStair 11 = .ok (.iconst 0, 1) := by decide +kernel
theorem dX3_isStair_12 : decode cX3_isStair 12 = .ok (.iaload, 1) := by decide +kernel
theorem dX3_isStair_13 : decode cX3_isStair 13 = .ok (.aload_n 0, 1) := by decide +kernel
theorem dX3_isStair_14 : decode cX3_isStair 14 = .ok (.getfield 18, 3) := by decide +kernel
theorem dX3_isStair_17 : decode cX3_isStair 17 = .ok (.if_icmp .ne 18, 3) := by decide +kernel
theorem dX3_isStair_20 : decode cX3_isStair 20 = .ok (.aload_n 0, 1) := by decide +kernel
theorem dX3_isStair_21 : decode cX3_isStair 21 = .ok (.getfield 22, 3) := by decide +kernel
theorem dX3_isStair_24 : decode cX3_isStair 24 = .ok (.aload_n 0, 1) := by decide +kernel
theorem dX3_isStair_25 : decode cX3_isStair 25 = .ok (.getfield 18, 3) := by decide +kernel
theorem dX3_isStair_28 : decode cX3_isStair 28 = .ok (.if_icmp .ne 7, 3) := by decide +kernel
theorem dX3_isStair_31 : decode cX3_isStair 31 = .ok (.iconst 1, 1) := by decide +kernel
theorem dX3_isStair_32 : decode cX3_isStair 32 = .ok (.goto 4, 3) := by decide +kernel
theorem dX3_isStair_35 : decode cX3_isStair 35 = .ok (.iconst 0, 1) := by decide +kernel
theorem dX3_isStair_36 : decode cX3_isStair 36 = .ok (.ireturn, 1) := by decide +kernel
theorem dX3_lay_0 : decode cX3_lay 0 = .ok (.iload_n 1, 1) := by decide +kernel
theorem dX3_lay_1 : decode cX3_lay 1 = .ok (.iconst 1, 1) := by decide +kernel
theorem dX3_lay_2 : decode cX3_lay 2 = .ok (.if_icmp .ge 4, 3) := by decide +kernel
theorem dX3_lay_5 : decode cX3_lay 5 = .ok (.return_, 1) := by decide +kernel
theorem dX3_lay_6 : decode cX3_lay 6 = .ok (.aload_n 0, 1) := by decide +kernel
theorem dX3_lay_7 : decode cX3_lay 7 = .ok (.getfield 18, 3) := by decide +kernel
theorem dX3_lay_10 : decode cX3_lay 10 = .ok (.istore_n 2, 1) := by decide +kernel
theorem dX3_lay_11 : decode cX3_lay 11 = .ok (.iload_n 2, 1) := by decide +kernel
theorem dX3_lay_12 : decode cX3_lay 12 = .ok (.ifCond .le 21, 3) := by decide +kernel
theorem dX3_lay_15 : decode cX3_lay 15 = .ok (.aload_n 0, 1) := by decide +kernel
theorem dX3_lay_16 : decode cX3_lay 16 = .ok (.getfield 11, 3) := by decide +kernel
theorem dX3_lay_19 : decode cX3_lay 19 = .ok (.iload_n 2, 1) := by decide +kernel
theorem dX3_lay_20 : decode cX3_lay 20 = .ok (.iconst 1, 1) := by decide +kernel
theorem dX3_lay_21 : decode cX3_lay 21 = .ok (.isub, 1) := by decide +kernel
theorem dX3_lay_22 : decode cX3_lay 22 = .ok (.iaload, 1) := by decide +kernel
theorem dX3_lay_23 : decode cX3_lay 23 = .ok (.iload_n 1, 1) := by decide +kernel
theorem dX3_lay_24 : decode cX3_lay 24 = .ok (.if_icmp .ge 9, 3) := by decide +kernel
theorem dX3_lay_27 : decode cX3_lay 27 = .ok (.iinc 2 (-1), 3) := by decide +kernel
theorem dX3_lay_30 : decode cX3_lay 30 = .ok (.goto (-19), 3) := by decide +kernel
theorem dX3_lay_33 : decode cX3_lay 33 = .ok (.iload_n 2, 1) := by decide +kernel
theorem dX3_lay_34 : decode cX3_lay 34 = .ok (.ifCond .le 30, 3) := by decide +kernel
theorem dX3_lay_37 : decode cX3_lay 37 = .ok (.aload_n 0, 1) := by decide +kernel
theorem dX3_lay_38 : decode cX3_lay 38 = .ok (.getfield 11, 3) := by decide +kernel
theorem dX3_lay_41 : decode cX3_lay 41 = .ok (.iload_n 2, 1) := by decide +kernel
theorem dX3_lay_42 : decode cX3_lay 42 = .ok (.iconst 1, 1) := by decide +kernel
theorem dX3_lay_43 : decode cX3_lay 43 = .ok (.isub, 1) := by decide +kernel
theorem dX3_lay_44 : decode cX3_lay 44 = .ok (.iaload, 1) := by decide +kernel
theorem dX3_lay_45 : decode cX3_lay 45 = .ok (.iload_n 1, 1) := by decide +kernel
theorem dX3_lay_46 : decode cX3_lay 46 = .ok (.if_icmp .ne 18, 3) := by decide +kernel
theorem dX3_lay_49 : decode cX3_lay 49 = .ok (.aload_n 0, 1) := by decide +kernel
theorem dX3_lay_50 : decode cX3_lay 50 = .ok (.getfield 15, 3) := by decide +kernel
theorem dX3_lay_53 : decode cX3_lay 53 = .ok (.iload_n 2, 1) := by decide +kernel
theorem dX3_lay_54 : decode cX3_lay 54 = .ok (.iconst 1, 1) := by decide +kernel
theorem dX3_lay_55 : decode cX3_lay 55 = .ok (.isub, 1) := by decide +kernel
theorem dX3_lay_56 : decode cX3_lay 56 = .ok (.dup2, 1) := by decide +kernel
theorem dX3_lay_57 : decode cX3_lay 57 = .ok (.iaload, 1) := by decide +kernel
theorem dX3_lay_58 : decode cX3_lay 58 = .ok (.iconst 1, 1) := by decide +kernel
theorem dX3_lay_59 : decode cX3_lay 59 = .ok (.iadd, 1) := by decide +kernel
theorem dX3_lay_60 : decode cX3_lay 60 = .ok (.iastore, 1) := by decide +kernel
theorem dX3_lay_61 : decode cX3_lay 61 = .ok (.goto 82, 3) := by decide +kernel
theorem dX3_lay_64 : decode cX3_lay 64 = .ok (.aload_n 0, 1) := by decide +kernel
theorem dX3_lay_65 : decode cX3_lay 65 = .ok (.getfield 18, 3) := by decide +kernel
theorem dX3_lay_68 : decode cX3_lay 68 = .ok (.bipush 40, 2) := by decide +kernel
theorem dX3_lay_70 : decode cX3_lay 70 = .ok (.if_icmp .ge 72, 3) := by decide +kernel
theorem dX3_lay_73 : decode cX3_lay 73 = .ok (.aload_n 0, 1) := by decide +kernel
theorem dX3_lay_74 : decode cX3_lay 74 = .ok (.getfield 11, 3) := by decide +kernel
theorem dX3_lay_77 : decode cX3_lay 77 = .ok (.iload_n 2, 1) := by decide +kernel
theorem dX3_lay_78 : decode cX3_lay 78 = .ok (.aload_n 0, 1) := by decide +kernel
theorem dX3_lay_79 : decode cX3_lay 79 = .ok (.getfield 11, 3) := by decide +kernel
theorem dX3_lay_82 : decode cX3_lay 82 = .ok (.iload_n 2, 1) := by decide +kernel
theorem dX3_lay_83 : decode cX3_lay 83 = .ok (.iconst 1, 1) := by decide +kernel
theorem dX3_lay_84 : decode cX3_lay 84 = .ok (.iadd, 1) := by decide +kernel
theorem dX3_lay_85 : decode cX3_lay 85 = .ok (.aload_n 0, 1) := by decide +kernel
theorem dX3_lay_86 : decode cX3_lay 86 = .ok (.getfield 18, 3) := by decide +kernel
theorem dX3_lay_89 : decode cX3_lay 89 = .ok (.iload_n 2, 1) := by decide +kernel
theorem dX3_lay_90 : decode cX3_lay 90 = .ok (.isub, 1) := by decide +kernel
theorem dX3_lay_91 : decode cX3_lay 91 = .ok (.invokestatic 28, 3) := by decide +kernel
theorem dX3_lay_94 : decode cX3_lay 94 = .ok (.aload_n 0, 1) := by decide +kernel
theorem dX3_lay_95 : decode cX3_lay 95 = .ok (.getfield 15, 3) := by decide +kernel
theorem dX3_lay_98 : decode cX3_lay 98 = .ok (.iload_n 2, 1) := by decide +kernel
theorem dX3_lay_99 : decode cX3_lay 99 = .ok (.aload_n 0, 1) := by decide +kernel
theorem dX3_lay_100 : decode cX3_lay 100 = .ok (.getfield 15, 3) := by decide +kernel
theorem dX3_lay_103 : decode cX3_lay 103 = .ok (.iload_n 2, 1) := by decide +kernel
theorem dX3_lay_104 : decode cX3_lay 104 = .ok (.iconst 1, 1) := by decide +kernel
theorem dX3_lay_105 : decode cX3_lay 105 = .ok (.iadd, 1) := by decide +kernel
theorem dX3_lay_106 : decode cX3_lay 106 = .ok (.aload_n 0, 1) := by decide +kernel
theorem dX3_lay_107 : decode cX3_lay 107 = .ok (.getfield 18, 3) := by decide +kernel
theorem dX3_lay_110 : decode cX3_lay 110 = .ok (.iload_n 2, 1) := by decide +kernel
theorem dX3_lay_111 : decode cX3_lay 111 = .ok (.isub, 1) := by decide +kernel
theorem dX3_lay_112 : decode cX3_lay 112 = .ok (.invokestatic 28, 3) := by decide +kernel
theorem dX3_lay_115 : decode cX3_lay 115 = .ok (.aload_n 0, 1) := by decide +kernel
theorem dX3_lay_116 : decode cX3_lay 116 = .ok (.getfield 11, 3) := by decide +kernel
theorem dX3_lay_119 : decode cX3_lay 119 = .ok (.iload_n 2, 1) := by decide +kernel
theorem dX3_lay_120 : decode cX3_lay 120 = .ok (.iload_n 1, 1) := by decide +kernel
theorem dX3_lay_121 : decode cX3_lay 121 = .ok (.iastore, 1) := by decide +kernel
theorem dX3_lay_122 : decode cX3_lay 122 = .ok (.aload_n 0, 1) := by decide +kernel
theorem dX3_lay_123 : decode cX3_lay 123 = .ok (.getfield 15, 3) := by decide +kernel
theorem dX3_lay_126 : decode cX3_lay 126 = .ok (.iload_n 2, 1) := by decide +kernel
theorem dX3_lay_127 : decode cX3_lay 127 = .ok (.iconst 1, 1) := by decide +kernel
theorem dX3_lay_128 : decode cX3_lay 128 = .ok (.iastore, 1) := by decide +kernel
theorem dX3_lay_129 : decode cX3_lay 129 = .ok (.aload_n 0, 1) := by decide +kernel
theorem dX3_lay_130 : decode cX3_lay 130 = .ok (.dup, 1) := by decide +kernel
theorem dX3_lay_131 : decode cX3_lay 131 = .ok (.getfield 18, 3) := by decide +kernel
theorem dX3_lay_134 : decode cX3_lay 134 = .ok (.iconst 1, 1) := by decide +kernel
theorem dX3_lay_135 : decode cX3_lay 135 = .ok (.iadd, 1) := by decide +kernel
theorem dX3_lay_136 : decode cX3_lay 136 = .ok (.putfield 18, 3) := by decide +kernel
theorem dX3_lay_139 : decode cX3_lay 139 = .ok (.goto 4, 3) := by decide +kernel
theorem dX3_lay_142 : decode cX3_lay 142 = .ok (.return_, 1) := by decide +kernel
theorem dX3_lay_143 : decode cX3_lay 143 = .ok (.aload_n 0, 1) := by decide +kernel
theorem dX3_lay_144 : decode cX3_lay 144 = .ok (.dup, 1) := by decide +kernel
theorem dX3_lay_145 : decode cX3_lay 145 = .ok (.getfield 22, 3) := by decide +kernel
theorem dX3_lay_148 : decode cX3_lay 148 = .ok (.iconst 1, 1) := by decide +kernel
theorem dX3_lay_149 : decode cX3_lay 149 = .ok (.iadd, 1) := by decide +kernel
theorem dX3_lay_150 : decode cX3_lay 150 = .ok (.putfield 22, 3) := by decide +kernel
theorem dX3_lay_153 : decode cX3_lay 153 = .ok (.aload_n 0, 1) := by decide +kernel
theorem dX3_lay_154 : decode cX3_lay 154 = .ok (.dup, 1) := by decide +kernel
theorem dX3_lay_155 : decode cX3_lay 155 = .ok (.getfield 25, 3) := by decide +kernel
theorem dX3_lay_158 : decode cX3_lay 158 = .ok (.iload_n 1, 1) := by decide +kernel
theorem dX3_lay_159 : decode cX3_lay 159 = .ok (.iadd, 1) := by decide +kernel
theorem dX3_lay_160 : decode cX3_lay 160 = .ok (.putfield 25, 3) := by decide +kernel
theorem dX3_lay_163 : decode cX3_lay 163 = .ok (.return_, 1) := by decide +kernel
theorem dX3_lower_0 : decode cX3_lower 0 = .ok (.iconst 0, 1) := by decide +kernel
theorem dX3_lower_1 : decode cX3_lower 1 = .ok (.istore_n 2, 1) := by decide +kernel
theorem dX3_lower_2 : decode cX3_lower 2 = .ok (.iconst 0, 1) := by decide +kernel
theorem dX3_lower_3 : decode cX3_lower 3 = .ok (.istore_n 3, 1) := by decide +kernel
theorem dX3_lower_4 : decode cX3_lower 4 = .ok (.iconst 0, 1) := by decide +kernel
theorem dX3_lower_5 : decode cX3_lower 5 = .ok (.istore 4, 2) := by decide +kernel
theorem dX3_lower_7 : decode cX3_lower 7 = .ok (.iconst 0, 1) := by decide +kernel
theorem dX3_lower_8 : decode cX3_lower 8 = .ok (.istore 5, 2) := by decide +kernel
theorem dX3_lower_10 : decode cX3_lower 10 = .ok (.iload 5, 2) := by decide +kernel
theorem dX3_lower_12 : decode cX3_lower 12 = .ok (.aload_n 0, 1) := by decide +kernel
theorem dX3_lower_13 : decode cX3_lower 13 = .ok (.getfield 18, 3) := by decide +kernel
theorem dX3_lower_16 : decode cX3_lower 16 = .ok (.if_icmp .ge 129, 3) := by decide +kernel
theorem dX3_lower_19 : decode cX3_lower 19 = .ok (.iload_n 1, 1) := by decide +kernel
theorem dX3_lower_20 : decode cX3_lower 20 = .ok (.aload_n 0, 1) := by decide +kernel
theorem dX3_lower_21 : decode cX3_lower 21 = .ok (.getfield 11, 3) := by decide +kernel
theorem dX3_lower_24 : decode cX3_lower 24 = .ok (.iload 5, 2) := by decide +kernel
theorem dX3_lower_26 : decode cX3_lower 26 = .ok (.iaload, 1) := by decide +kernel
theorem dX3_lower_27 : decode cX3_lower 27 = .ok (.invokestatic 46, 3) := by decide +kernel
theorem dX3_lower_30 : decode cX3_lower 30 = .ok (.istore 6, 2) := by decide +kernel
theorem dX3_lower_32 : decode cX3_lower 32 = .ok (.aload_n 0, 1) := by decide +kernel
theorem dX3_lower_33 : decode cX3_lower 33 = .ok (.getfield 11, 3) := by decide +kernel
theorem dX3_lower_36 : decode cX3_lower 36 = .ok (.iload 5, 2) := by decide +kernel
theorem dX3_lower_38 : decode cX3_lower 38 = .ok (.iaload, 1) := by decide +kernel
theorem dX3_lower_39 : decode cX3_lower 39 = .ok (.iload 6, 2) := by decide +kernel
theorem dX3_lower_41 : decode cX3_lower 41 = .ok (.isub, 1) := by decide +kernel
theorem dX3_lower_42 : decode cX3_lower 42 = .ok (.istore 7, 2) := by decide +kernel
theorem dX3_lower_44 : decode cX3_lower 44 = .ok (.iload_n 2, 1) := by decide +kernel
theorem dX3_lower_45 : decode cX3_lower 45 = .ok (.iload 6, 2) := by decide +kernel
theorem dX3_lower_47 : decode cX3_lower 47 = .ok (.aload_n 0, 1) := by decide +kernel
theorem dX3_lower_48 : decode cX3_lower 48 = .ok (.getfield 15, 3) := by decide +kernel
theorem dX3_lower_51 : decode cX3_lower 51 = .ok (.iload 5, 2) := by decide +kernel
theorem dX3_lower_53 : decode cX3_lower 53 = .ok (.iaload, 1) := by decide +kernel
theorem dX3_lower_54 : decode cX3_lower 54 = .ok (.imul, 1) := by decide +kernel
theorem dX3_lower_55 : decode cX3_lower 55 = .ok (.iadd, 1) := by decide +kernel
theorem dX3_lower_56 : decode cX3_lower 56 = .ok (.istore_n 2, 1) := by decide +kernel
theorem dX3_lower_57 : decode cX3_lower 57 = .ok (.iload 7, 2) := by decide +kernel
theorem dX3_lower_59 : decode cX3_lower 59 = .ok (.ifCond .le 80, 3) := by decide +kernel
theorem dX3_lower_62 : decode cX3_lower 62 = .ok (.iload_n 3, 1) := by decide +kernel
theorem dX3_lower_63 : decode cX3_lower 63 = .ok (.aload_n 0, 1) := by decide +kernel
theorem dX3_lower_64 : decode cX3_lower 64 = .ok (.getfield 15, 3) := by decide +kernel
theorem dX3_lower_67 : decode cX3_lower 67 = .ok (.iload 5, 2) := by decide +kernel
theorem dX3_lower_69 : decode cX3_lower 69 = .ok (.iaload, 1) := by decide +kernel
theorem dX3_lower_70 : decode cX3_lower 70 = .ok (.iadd, 1) := by decide +kernel
theorem dX3_lower_71 : decode cX3_lower 71 = .ok (.istore_n 3, 1) := by decide +kernel
theorem dX3_lower_72 : decode cX3_lower 72 = .ok (.iload 4, 2) := by decide +kernel
theorem dX3_lower_74 : decode cX3_lower 74 = .ok (.ifCond .le 39, 3) := by decide +kernel
theorem dX3_lower_77 : decode cX3_lower 77 = .ok (.aload_n 0, 1) := by decide +kernel
theorem dX3_lower_78 : decode cX3_lower 78 = .ok (.getfield 11, 3) := by decide +kernel
theorem dX3_lower_81 : decode cX3_lower 81 = .ok (.iload 4, 2) := by decide +kernel
theorem dX3_lower_83 : decode cX3_lower 83 = .ok (.iconst 1, 1) := by decide +kernel
theorem dX3_lower_84 : decode cX3_lower 84 = .ok (.isub, 1) := by decide +kernel
theorem dX3_lower_85 : decode cX3_lower 85 = .ok (.iaload, 1) := by decide +kernel
theorem dX3_lower_86 : decode cX3_lower 86 = .ok (.iload 7, 2) := by decide +kernel
theorem dX3_lower_88 : decode cX3_lower 88 = .ok (.if_icmp .ne 25, 3) := by decide +kernel
theorem dX3_lower_91 : decode cX3_lower 91 = .ok (.aload_n 0, 1) := by decide +kernel
theorem dX3_lower_92 : decode cX3_lower 92 = .ok (.getfield 15, 3) := by decide +kernel
theorem dX3_lower_95 : decode cX3_lower 95 = .ok (.iload 4, 2) := by decide +kernel
theorem dX3_lower_97 : decode cX3_lower 97 = .ok (.iconst 1, 1) := by decide +kernel
theorem dX3_lower_98 : decode cX3_lower 98 = .ok (.isub, 1) := by decide +kernel
theorem dX3_lower_99 : decode cX3_lower 99 = .ok (.dup2, 1) := by decide +kernel
theorem dX3_lower_100 : decode cX3_lower 100 = .ok (.iaload, 1) := by decide +kernel
theorem dX3_lower_101 : decode cX3_lower 101 = .ok (.aload_n 0, 1) := by decide +kernel
theorem dX3_lower_102 : decode cX3_lower 102 = .ok (.getfield 15, 3) := by decide +kernel
theorem dX3_lower_105 : decode cX3_lower 105 = .ok (.iload 5, 2) := by decide +kernel
theorem dX3_lower_107 : decode cX3_lower 107 = .ok (.iaload, 1) := by decide +kernel
theorem dX3_lower_108 : decode cX3_lower 108 = .ok (.iadd, 1) := by decide +kernel
theorem dX3_lower_109 : decode cX3_lower 109 = .ok (.iastore, 1) := by decide +kernel
theorem dX3_lower_110 : decode cX3_lower 110 = .ok (.goto 29, 3) := by decide +kernel
theorem dX3_lower_113 : decode cX3_lower 113 = .ok (.aload_n 0, 1) := by decide +kernel
theorem dX3_lower_114 : decode cX3_lower 114 = .ok (.getfield 11, 3) := by decide +kernel
theorem dX3_lower_117 : decode cX3_lower 117 = .ok (.iload 4, 2) := by decide +kernel
theorem dX3_lower_119 : decode cX3_lower 119 = .ok (.iload 7, 2) := by decide +kernel
theorem dX3_lower_121 : decode cX3_lower 121 = .ok (.iastore, 1) := by decide +kernel
theorem dX3_lower_122 : decode cX3_lower 122 = .ok (.aload_n 0, 1) := by decide +kernel
theorem dX3_lower_123 : decode cX3_lower 123 = .ok (.getfield 15, 3) := by decide +kernel
theorem dX3_lower_126 : decode cX3_lower 126 = .ok (.iload 4, 2) := by decide +kernel
theorem dX3_lower_128 : decode cX3_lower 128 = .ok (.aload_n 0, 1) := by decide +kernel
theorem dX3_lower_129 : decode cX3_lower 129 = .ok (.getfield 15, 3) := by decide +kernel
theorem dX3_lower_132 : decode cX3_lower 132 = .ok (.iload 5, 2) := by decide +kernel
theorem dX3_lower_134 : decode cX3_lower 134 = .ok (.iaload, 1) := by decide +kernel
theorem dX3_lower_135 : decode cX3_lower 135 = .ok (.iastore, 1) := by decide +kernel
theorem dX3_lower_136 : decode cX3_lower 136 = .ok (.iinc 4 1, 3) := by decide +kernel
theorem dX3_lower_139 : decode cX3_lower 139 = .ok (.iinc 5 1, 3) := by decide +kernel
theorem dX3_lower_142 : decode cX3_lower 142 = .ok (.goto (-132), 3) := by decide +kernel
theorem dX3_lower_145 : decode cX3_lower 145 = .ok (.aload_n 0, 1) := by decide +kernel
theorem dX3_lower_146 : decode cX3_lower 146 = .ok (.iload 4, 2) := by decide +kernel
theorem dX3_lower_148 : decode cX3_lower 148 = .ok (.putfield 18, 3) := by decide +kernel
theorem dX3_lower_151 : decode cX3_lower 151 = .ok (.aload_n 0, 1) := by decide +kernel
theorem dX3_lower_152 : decode cX3_lower 152 = .ok (.iload_n 3, 1) := by decide +kernel
theorem dX3_lower_153 : decode cX3_lower 153 = .ok (.putfield 22, 3) := by decide +kernel
theorem dX3_lower_156 : decode cX3_lower 156 = .ok (.aload_n 0, 1) := by decide +kernel
theorem dX3_lower_157 : decode cX3_lower 157 = .ok (.dup, 1) := by decide +kernel
theorem dX3_lower_158 : decode cX3_lower 158 = .ok (.getfield 25, 3) := by decide +kernel
theorem dX3_lower_161 : decode cX3_lower 161 = .ok (.iload_n 2, 1) := by decide +kernel
theorem dX3_lower_162 : decode cX3_lower 162 = .ok (.isub, 1) := by decide +kernel
theorem dX3_lower_163 : decode cX3_lower 163 = .ok (.putfield 25, 3) := by decide +kernel
theorem dX3_lower_166 : decode cX3_lower 166 = .ok (.iload_n 2, 1) := by decide +kernel
theorem dX3_lower_167 : decode cX3_lower 167 = .ok (.ireturn, 1) := by decide +kernel
theorem dX3_lowest_0 : decode cX3_lowest 0 = .ok (.aload_n 0, 1) := by decide +kernel
theorem dX3_lowest_1 : decode cX3_lowest 1 = .ok (.getfield 18, 3) := by decide +kernel
theorem dX3_lowest_4 : decode cX3_lowest 4 = .ok (.ifCond .le 17, 3) := by decide +kernel
theorem dX3_lowest_7 : decode cX3_lowest 7 = .ok (.aload_n 0, 1) := by decide +kernel
theorem dX3_lowest_8 : decode cX3_lowest 8 = .ok (.getfield 11, 3) := by decide +kernel
theorem dX3_lowest_11 : decode cX3_lowest 11 = .ok (.aload_n 0, 1) := by decide +kernel
theorem dX3_lowest_12 : decode cX3_lowest 12 = .ok (.getfield 18, 3) := by decide +kernel
theorem dX3_lowest_15 : decode cX3_lowest 15 = .ok (.iconst 1, 1) := by decide +kernel
theorem dX3_lowest_16 : decode cX3_lowest 16 = .ok (.isub, 1) := by decide +kernel
theorem dX3_lowest_17 : decode cX3_lowest 17 = .ok (.iaload, 1) := by decide +kernel
theorem dX3_lowest_18 : decode cX3_lowest 18 = .ok (.goto 4, 3) := by decide +kernel
theorem dX3_lowest_21 : decode cX3_lowest 21 = .ok (.iconst 0, 1) := by decide +kernel
theorem dX3_lowest_22 : decode cX3_lowest 22 = .ok (.ireturn, 1) := by decide +kernel
theorem dX3_nimSum_0 : decode cX3_nimSum 0 = .ok (.iload_n 1, 1) := by decide +kernel
theorem dX3_nimSum_1 : decode cX3_nimSum 1 = .ok (.iconst 1, 1) := by decide +kernel
theorem dX3_nimSum_2 : decode cX3_nimSum 2 = .ok (.if_icmp .ge 5, 3) := by decide +kernel
theorem dX3_nimSum_5 : decode cX3_nimSum 5 = .ok (.iconst 0, 1) := by decide +kernel
theorem dX3_nimSum_6 : decode cX3_nimSum 6 = .ok (.ireturn, 1) := by decide +kernel
theorem dX3_nimSum_7 : decode cX3_nimSum 7 = .ok (.iconst 0, 1) := by decide +kernel
theorem dX3_nimSum_8 : decode cX3_nimSum 8 = .ok (.istore_n 2, 1) := by decide +kernel
theorem dX3_nimSum_9 : decode cX3_nimSum 9 = .ok (.iconst 0, 1) := by decide +kernel
theorem dX3_nimSum_10 : decode cX3_nimSum 10 = .ok (.istore_n 3, 1) := by decide +kernel
theorem dX3_nimSum_11 : decode cX3_nimSum 11 = .ok (.iload_n 3, 1) := by decide +kernel
theorem dX3_nimSum_12 : decode cX3_nimSum 12 = .ok (.aload_n 0, 1) := by decide +kernel
theorem dX3_nimSum_13 : decode cX3_nimSum 13 = .ok (.getfield 18, 3) := by decide +kernel
theorem dX3_nimSum_16 : decode cX3_nimSum 16 = .ok (.if_icmp .ge 32, 3) := by decide +kernel
theorem dX3_nimSum_19 : decode cX3_nimSum 19 = .ok (.aload_n 0, 1) := by decide +kernel
theorem dX3_nimSum_20 : decode cX3_nimSum 20 = .ok (.getfield 15, 3) := by decide +kernel
theorem dX3_nimSum_23 : decode cX3_nimSum 23 = .ok (.iload_n 3, 1) := by decide +kernel
theorem dX3_nimSum_24 : decode cX3_nimSum 24 = .ok (.iaload, 1) := by decide +kernel
theorem dX3_nimSum_25 : decode cX3_nimSum 25 = .ok (.iconst 2, 1) := by decide +kernel
theorem dX3_nimSum_26 : decode cX3_nimSum 26 = .ok (.irem, 1) := by decide +kernel
theorem dX3_nimSum_27 : decode cX3_nimSum 27 = .ok (.iconst 1, 1) := by decide +kernel
theorem dX3_nimSum_28 : decode cX3_nimSum 28 = .ok (.if_icmp .ne 14, 3) := by decide +kernel
theorem dX3_nimSum_31 : decode cX3_nimSum 31 = .ok (.iload_n 2, 1) := by decide +kernel
theorem dX3_nimSum_32 : decode cX3_nimSum 32 = .ok (.aload_n 0, 1) := by decide +kernel
theorem dX3_nimSum_33 : decode cX3_nimSum 33 = .ok (.getfield 11, 3) := by decide +kernel
theorem dX3_nimSum_36 : decode cX3_nimSum 36 = .ok (.iload_n 3, 1) := by decide +kernel
theorem dX3_nimSum_37 : decode cX3_nimSum 37 = .ok (.iaload, 1) := by decide +kernel
theorem dX3_nimSum_38 : decode cX3_nimSum 38 = .ok (.iload_n 1, 1) := by decide +kernel
theorem dX3_nimSum_39 : decode cX3_nimSum 39 = .ok (.irem, 1) := by decide +kernel
theorem dX3_nimSum_40 : decode cX3_nimSum 40 = .ok (.ixor, 1) := by decide +kernel
theorem dX3_nimSum_41 : decode cX3_nimSum 41 = .ok (.istore_n 2, 1) := by decide +kernel
theorem dX3_nimSum_42 : decode cX3_nimSum 42 = .ok (.iinc 3 1, 3) := by decide +kernel
theorem dX3_nimSum_45 : decode cX3_nimSum 45 = .ok (.goto (-34), 3) := by decide +kernel
theorem dX3_nimSum_48 : decode cX3_nimSum 48 = .ok (.iload_n 2, 1) := by decide +kernel
theorem dX3_nimSum_49 : decode cX3_nimSum 49 = .ok (.ireturn, 1) := by decide +kernel
theorem dX3_oddHeaps_0 : decode cX3_oddHeaps 0 = .ok (.iconst 0, 1) := by decide +kernel
theorem dX3_oddHeaps_1 : decode cX3_oddHeaps 1 = .ok (.istore_n 1, 1) := by decide +kernel
theorem dX3_oddHeaps_2 : decode cX3_oddHeaps 2 = .ok (.iconst 0, 1) := by decide +kernel
theorem dX3_oddHeaps_3 : decode cX3_oddHeaps 3 = .ok (.istore_n 2, 1) := by decide +kernel
theorem dX3_oddHeaps_4 : decode cX3_oddHeaps 4 = .ok (.iload_n 2, 1) := by decide +kernel
theorem dX3_oddHeaps_5 : decode cX3_oddHeaps 5 = .ok (.aload_n 0, 1) := by decide +kernel
theorem dX3_oddHeaps_6 : decode cX3_oddHeaps 6 = .ok (.getfield 18, 3) := by decide +kernel
theorem dX3_oddHeaps_9 : decode cX3_oddHeaps 9 = .ok (.if_icmp .ge 30, 3) := by decide +kernel
theorem dX3_oddHeaps_12 : decode cX3_oddHeaps 12 = .ok (.aload_n 0, 1) := by decide +kernel
theorem dX3_oddHeaps_13 : decode cX3_oddHeaps 13 = .ok (.getfield 11, 3) := by decide +kernel
theorem dX3_oddHeaps_16 : decode cX3_oddHeaps 16 = .ok (.iload_n 2, 1) := by decide +kernel
theorem dX3_oddHeaps_17 : decode cX3_oddHeaps 17 = .ok (.iaload, 1) := by decide +kernel
theorem dX3_oddHeaps_18 : decode cX3_oddHeaps 18 = .ok (.iconst 2, 1) := by decide +kernel
theorem dX3_oddHeaps_19 : decode cX3_oddHeaps 19 = .ok (.irem, 1) := by decide +kernel
theorem dX3_oddHeaps_20 : decode cX3_oddHeaps 20 = .ok (.iconst 1, 1) := by decide +kernel
theorem dX3_oddHeaps_21 : decode cX3_oddHeaps 21 = .ok (.if_icmp .ne 12, 3) := by decide +kernel
theorem dX3_oddHeaps_24 : decode cX3_oddHeaps 24 = .ok (.iload_n 1, 1) := by decide +kernel
theorem dX3_oddHeaps_25 : decode cX3_oddHeaps 25 = .ok (.aload_n 0, 1) := by decide +kernel
theorem dX3_oddHeaps_26 : decode cX3_oddHeaps 26 = .ok (.getfield 15, 3) := by decide +kernel
theorem dX3_oddHeaps_29 : decode cX3_oddHeaps 29 = .ok (.iload_n 2, 1) := by decide +kernel
theorem dX3_oddHeaps_30 : decode cX3_oddHeaps 30 = .ok (.iaload, 1) := by decide +kernel
theorem dX3_oddHeaps_31 : decode cX3_oddHeaps 31 = .ok (.iadd, 1) := by decide +kernel
theorem dX3_oddHeaps_32 : decode cX3_oddHeaps 32 = .ok (.istore_n 1, 1) := by decide +kernel
theorem dX3_oddHeaps_33 : decode cX3_oddHeaps 33 = .ok (.iinc 2 1, 3) := by decide +kernel
theorem dX3_oddHeaps_36 : decode cX3_oddHeaps 36 = .ok (.goto (-32), 3) := by decide +kernel
theorem dX3_oddHeaps_39 : decode cX3_oddHeaps 39 = .ok (.iload_n 1, 1) := by decide +kernel
theorem dX3_oddHeaps_40 : decode cX3_oddHeaps 40 = .ok (.ireturn, 1) := by decide +kernel
theorem dX3_offEach_0 : decode cX3_offEach 0 = .ok (.iload_n 1, 1) := by decide +kernel
theorem dX3_offEach_1 : decode cX3_offEach 1 = .ok (.iconst 1, 1) := by decide +kernel
theorem dX3_offEach_2 : decode cX3_offEach 2 = .ok (.if_icmp .le 14, 3) := by decide +kernel
theorem dX3_offEach_5 : decode cX3_offEach 5 = .ok (.iload_n 0, 1) := by decide +kernel
theorem dX3_offEach_6 : decode cX3_offEach 6 = .ok (.iconst 3, 1) := by decide +kernel
theorem dX3_offEach_7 : decode cX3_offEach 7 = .ok (.if_icmp .ne 7, 3) := by decide +kernel
theorem dX3_offEach_10 : decode cX3_offEach 10 = .ok (.iconst 2, 1) := by decide +kernel
theorem dX3_offEach_11 : decode cX3_offEach 11 = .ok (.goto 4, 3) := by decide +kernel
theorem dX3_offEach_14 : decode cX3_offEach 14 = .ok (.iconst 1, 1) := by decide +kernel
theorem dX3_offEach_15 : decode cX3_offEach 15 = .ok (.ireturn, 1) := by decide +kernel
theorem dX3_offEach_16 : decode cX3_offEach 16 = .ok (.iload_n 0, 1) := by decide +kernel
theorem dX3_offEach_17 : decode cX3_offEach 17 = .ok (.iconst 2, 1) := by decide +kernel
theorem dX3_offEach_18 : decode cX3_offEach 18 = .ok (.if_icmp .ne 7, 3) := by decide +kernel
theorem dX3_offEach_21 : decode cX3_offEach 21 = .ok (.iconst 0, 1) := by decide +kernel
theorem dX3_offEach_22 : decode cX3_offEach 22 = .ok (.goto 4, 3) := by decide +kernel
theorem dX3_offEach_25 : decode cX3_offEach 25 = .ok (.iconst 1, 1) := by decide +kernel
theorem dX3_offEach_26 : decode cX3_offEach 26 = .ok (.ireturn, 1) := by decide +kernel
theorem dX3_sameTurnedOver_0 : decode cX3_sameTurnedOver 0 = .ok (.aload_n 0, 1) := by decide +kernel
theorem dX3_sameTurnedOver_1 : decode cX3_sameTurnedOver 1 = .ok (.invokevirtual 56, 3) := by decide +kernel
theorem dX3_sameTurnedOver_4 : decode cX3_sameTurnedOver 4 = .ok (.aload_n 0, 1) := by decide +kernel
theorem dX3_sameTurnedOver_5 : decode cX3_sameTurnedOver 5 = .ok (.getfield 22, 3) := by decide +kernel
theorem dX3_sameTurnedOver_8 : decode cX3_sameTurnedOver 8 = .ok (.if_icmp .eq 5, 3) := by decide +kernel
theorem dX3_sameTurnedOver_11 : decode cX3_sameTurnedOver 11 = .ok (.iconst 0, 1) := by decide +kernel
theorem dX3_sameTurnedOver_12 : decode cX3_sameTurnedOver 12 = .ok (.ireturn, 1) := by decide +kernel
theorem dX3_sameTurnedOver_13 : decode cX3_sameTurnedOver 13 = .ok (.iconst 0, 1) := by decide +kernel
theorem dX3_sameTurnedOver_14 : decode cX3_sameTurnedOver 14 = .ok (.istore_n 1, 1) := by decide +kernel
theorem dX3_sameTurnedOver_15 : decode cX3_sameTurnedOver 15 = .ok (.iload_n 1, 1) := by decide +kernel
theorem dX3_sameTurnedOver_16 : decode cX3_sameTurnedOver 16 = .ok (.aload_n 0, 1) := by decide +kernel
theorem dX3_sameTurnedOver_17 : decode cX3_sameTurnedOver 17 = .ok (.getfield 22, 3) := by decide +kernel
theorem dX3_sameTurnedOver_20 : decode cX3_sameTurnedOver 20 = .ok (.if_icmp .ge 26, 3) := by decide +kernel
theorem dX3_sameTurnedOver_23 : decode cX3_sameTurnedOver 23 = .ok (.aload_n 0, 1) := by decide +kernel
theorem dX3_sameTurnedOver_24 : decode cX3_sameTurnedOver 24 = .ok (.iload_n 1, 1) := by decide +kernel
theorem dX3_sameTurnedOver_25 : decode cX3_sameTurnedOver 25 = .ok (.invokevirtual 59, 3) := by decide +kernel
theorem dX3_sameTurnedOver_28 : decode cX3_sameTurnedOver 28 = .ok (.aload_n 0, 1) := by decide +kernel
theorem dX3_sameTurnedOver_29 : decode cX3_sameTurnedOver 29 = .ok (.iload_n 1, 1) := by decide +kernel
theorem dX3_sameTurnedOver_30 : decode cX3_sameTurnedOver 30 = .ok (.iconst 1, 1) := by decide +kernel
theorem dX3_sameTurnedOver_31 : decode cX3_sameTurnedOver 31 = .ok (.iadd, 1) := by decide +kernel
theorem dX3_sameTurnedOver_32 : decode cX3_sameTurnedOver 32 = .ok (.invokevirtual 53, 3) := by decide +kernel
theorem dX3_sameTurnedOver_35 : decode cX3_sameTurnedOver 35 = .ok (.if_icmp .eq 5, 3) := by decide +kernel
theorem dX3_sameTurnedOver_38 : decode cX3_sameTurnedOver 38 = .ok (.iconst 0, 1) := by decide +kernel
theorem dX3_sameTurnedOver_39 : decode cX3_sameTurnedOver 39 = .ok (.ireturn, 1) := by decide +kernel
theorem dX3_sameTurnedOver_40 : decode cX3_sameTurnedOver 40 = .ok (.iinc 1 1, 3) := by decide +kernel
theorem dX3_sameTurnedOver_43 : decode cX3_sameTurnedOver 43 = .ok (.goto (-28), 3) := by decide +kernel
theorem dX3_sameTurnedOver_46 : decode cX3_sameTurnedOver 46 = .ok (.iconst 1, 1) := by decide +kernel
theorem dX3_sameTurnedOver_47 : decode cX3_sameTurnedOver 47 = .ok (.ireturn, 1) := by decide +kernel
theorem dX3_squareSide_0 : decode cX3_squareSide 0 = .ok (.iconst 0, 1) := by decide +kernel
theorem dX3_squareSide_1 : decode cX3_squareSide 1 = .ok (.istore_n 1, 1) := by decide +kernel
theorem dX3_squareSide_2 : decode cX3_squareSide 2 = .ok (.iload_n 1, 1) := by decide +kernel
theorem dX3_squareSide_3 : decode cX3_squareSide 3 = .ok (.aload_n 0, 1) := by decide +kernel
theorem dX3_squareSide_4 : decode cX3_squareSide 4 = .ok (.getfield 22, 3) := by decide +kernel
theorem dX3_squareSide_7 : decode cX3_squareSide 7 = .ok (.if_icmp .ge 20, 3) := by decide +kernel
theorem dX3_squareSide_10 : decode cX3_squareSide 10 = .ok (.aload_n 0, 1) := by decide +kernel
theorem dX3_squareSide_11 : decode cX3_squareSide 11 = .ok (.iload_n 1, 1) := by decide +kernel
theorem dX3_squareSide_12 : decode cX3_squareSide 12 = .ok (.iconst 1, 1) := by decide +kernel
theorem dX3_squareSide_13 : decode cX3_squareSide 13 = .ok (.iadd, 1) := by decide +kernel
theorem dX3_squareSide_14 : decode cX3_squareSide 14 = .ok (.invokevirtual 53, 3) := by decide +kernel
theorem dX3_squareSide_17 : decode cX3_squareSide 17 = .ok (.iload_n 1, 1) := by decide +kernel
theorem dX3_squareSide_18 : decode cX3_squareSide 18 = .ok (.if_icmp .le 9, 3) := by decide +kernel
theorem dX3_squareSide_21 : decode cX3_squareSide 21 = .ok (.iinc 1 1, 3) := by decide +kernel
theorem dX3_squareSide_24 : decode cX3_squareSide 24 = .ok (.goto (-22), 3) := by decide +kernel
theorem dX3_squareSide_27 : decode cX3_squareSide 27 = .ok (.iload_n 1, 1) := by decide +kernel
theorem dX3_squareSide_28 : decode cX3_squareSide 28 = .ok (.ireturn, 1) := by decide +kernel
theorem dX3_standsTo_0 : decode cX3_standsTo 0 = .ok (.aload_n 0, 1) := by decide +kernel
theorem dX3_standsTo_1 : decode cX3_standsTo 1 = .ok (.getfield 25, 3) := by decide +kernel
theorem dX3_standsTo_4 : decode cX3_standsTo 4 = .ok (.aload_n 1, 1) := by decide +kernel
theorem dX3_standsTo_5 : decode cX3_standsTo 5 = .ok (.getfield 25, 3) := by decide +kernel
theorem dX3_standsTo_8 : decode cX3_standsTo 8 = .ok (.if_icmp .eq 5, 3) := by decide +kernel
theorem dX3_standsTo_11 : decode cX3_standsTo 11 = .ok (.iconst (-1), 1) := by decide +kernel
theorem dX3_standsTo_12 : decode cX3_standsTo 12 = .ok (.ireturn, 1) := by decide +kernel
theorem dX3_standsTo_13 : decode cX3_standsTo 13 = .ok (.iconst 0, 1) := by decide +kernel
theorem dX3_standsTo_14 : decode cX3_standsTo 14 = .ok (.istore_n 2, 1) := by decide +kernel
theorem dX3_standsTo_15 : decode cX3_standsTo 15 = .ok (.iconst 0, 1) := by decide +kernel
theorem dX3_standsTo_16 : decode cX3_standsTo 16 = .ok (.istore_n 3, 1) := by decide +kernel
theorem dX3_standsTo_17 : decode cX3_standsTo 17 = .ok (.iconst 0, 1) := by decide +kernel
theorem dX3_standsTo_18 : decode cX3_standsTo 18 = .ok (.istore 4, 2) := by decide +kernel
theorem dX3_standsTo_20 : decode cX3_standsTo 20 = .ok (.aload_n 0, 1) := by decide +kernel
theorem dX3_standsTo_21 : decode cX3_standsTo 21 = .ok (.getfield 22, 3) := by decide +kernel
theorem dX3_standsTo_24 : decode cX3_standsTo 24 = .ok (.aload_n 1, 1) := by decide +kernel
theorem dX3_standsTo_25 : decode cX3_standsTo 25 = .ok (.getfield 22, 3) := by decide +kernel
theorem dX3_standsTo_28 : decode cX3_standsTo 28 = .ok (.invokestatic 62, 3) := by decide +kernel
theorem dX3_standsTo_31 : decode cX3_standsTo 31 = .ok (.istore 5, 2) := by decide +kernel
theorem dX3_standsTo_33 : decode cX3_standsTo 33 = .ok (.iconst 0, 1) := by decide +kernel
theorem dX3_standsTo_34 : decode cX3_standsTo 34 = .ok (.istore 6, 2) := by decide +kernel
theorem dX3_standsTo_36 : decode cX3_standsTo 36 = .ok (.iload 6, 2) := by decide +kernel
theorem dX3_standsTo_38 : decode cX3_standsTo 38 = .ok (.iload 5, 2) := by decide +kernel
theorem dX3_standsTo_40 : decode cX3_standsTo 40 = .ok (.if_icmp .ge 63, 3) := by decide +kernel
theorem dX3_standsTo_43 : decode cX3_standsTo 43 = .ok (.iload_n 2, 1) := by decide +kernel
theorem dX3_standsTo_44 : decode cX3_standsTo 44 = .ok (.iconst 0, 1) := by decide +kernel
theorem dX3_standsTo_45 : decode cX3_standsTo 45 = .ok (.aload_n 0, 1) := by decide +kernel
theorem dX3_standsTo_46 : decode cX3_standsTo 46 = .ok (.iload 6, 2) := by decide +kernel
theorem dX3_standsTo_48 : decode cX3_standsTo 48 = .ok (.invokevirtual 59, 3) := by decide +kernel
theorem dX3_standsTo_51 : decode cX3_standsTo 51 = .ok (.invokestatic 62, 3) := by decide +kernel
theorem dX3_standsTo_54 : decode cX3_standsTo 54 = .ok (.iconst 0, 1) := by decide +kernel
theorem dX3_standsTo_55 : decode cX3_standsTo 55 = .ok (.aload_n 1, 1) := by decide +kernel
theorem dX3_standsTo_56 : decode cX3_standsTo 56 = .ok (.iload 6, 2) := by decide +kernel
theorem dX3_standsTo_58 : decode cX3_standsTo 58 = .ok (.invokevirtual 59, 3) := by decide +kernel
theorem dX3_standsTo_61 : decode cX3_standsTo 61 = .ok (.invokestatic 62, 3) := by decide +kernel
theorem dX3_standsTo_64 : decode cX3_standsTo 64 = .ok (.isub, 1) := by decide +kernel
theorem dX3_standsTo_65 : decode cX3_standsTo 65 = .ok (.iadd, 1) := by decide +kernel
theorem dX3_standsTo_66 : decode cX3_standsTo 66 = .ok (.istore_n 2, 1) := by decide +kernel
theorem dX3_standsTo_67 : decode cX3_standsTo 67 = .ok (.iload_n 3, 1) := by decide +kernel
theorem dX3_standsTo_68 : decode cX3_standsTo 68 = .ok (.ifCond .ne 7, 3) := by decide +kernel
theorem dX3_standsTo_71 : decode cX3_standsTo 71 = .ok (.iload_n 2, 1) := by decide +kernel
theorem dX3_standsTo_72 : decode cX3_standsTo 72 = .ok (.ifCond .le 7, 3) := by decide +kernel
theorem dX3_standsTo_75 : decode cX3_standsTo 75 = .ok (.iconst 1, 1) := by decide +kernel
theorem dX3_standsTo_76 : decode cX3_standsTo 76 = .ok (.goto 4, 3) := by decide +kernel
theorem dX3_standsTo_79 : decode cX3_standsTo 79 = .ok (.iconst 0, 1) := by decide +kernel
theorem dX3_standsTo_80 : decode cX3_standsTo 80 = .ok (.istore_n 3, 1) := by decide +kernel
theorem dX3_standsTo_81 : decode cX3_standsTo 81 = .ok (.iload 4, 2) := by decide +kernel
theorem dX3_standsTo_83 : decode cX3_standsTo 83 = .ok (.ifCond .ne 7, 3) := by decide +kernel
theorem dX3_standsTo_86 : decode cX3_standsTo 86 = .ok (.iload_n 2, 1) := by decide +kernel
theorem dX3_standsTo_87 : decode cX3_standsTo 87 = .ok (.ifCond .ge 7, 3) := by decide +kernel
theorem dX3_standsTo_90 : decode cX3_standsTo 90 = .ok (.iconst 1, 1) := by decide +kernel
theorem dX3_standsTo_91 : decode cX3_standsTo 91 = .ok (.goto 4, 3) := by decide +kernel
theorem dX3_standsTo_94 : decode cX3_standsTo 94 = .ok (.iconst 0, 1) := by decide +kernel
theorem dX3_standsTo_95 : decode cX3_standsTo 95 = .ok (.istore 4, 2) := by decide +kernel
theorem dX3_standsTo_97 : decode cX3_standsTo 97 = .ok (.iinc 6 1, 3) := by decide +kernel
theorem dX3_standsTo_100 : decode cX3_standsTo 100 = .ok (.goto (-64), 3) := by decide +kernel
theorem dX3_standsTo_103 : decode cX3_standsTo 103 = .ok (.iload_n 3, 1) := by decide +kernel
theorem dX3_standsTo_104 : decode cX3_standsTo 104 = .ok (.ifCond .eq 7, 3) := by decide +kernel
theorem dX3_standsTo_107 : decode cX3_standsTo 107 = .ok (.iconst 1, 1) := by decide +kernel
theorem dX3_standsTo_108 : decode cX3_standsTo 108 = .ok (.goto 4, 3) := by decide +kernel
theorem dX3_standsTo_111 : decode cX3_standsTo 111 = .ok (.iconst 0, 1) := by decide +kernel
theorem dX3_standsTo_112 : decode cX3_standsTo 112 = .ok (.iload 4, 2) := by decide +kernel
theorem dX3_standsTo_114 : decode cX3_standsTo 114 = .ok (.ifCond .eq 7, 3) := by decide +kernel
theorem dX3_standsTo_117 : decode cX3_standsTo 117 = .ok (.iconst 2, 1) := by decide +kernel
theorem dX3_standsTo_118 : decode cX3_standsTo 118 = .ok (.goto 4, 3) := by decide +kernel
theorem dX3_standsTo_121 : decode cX3_standsTo 121 = .ok (.iconst 0, 1) := by decide +kernel
theorem dX3_standsTo_122 : decode cX3_standsTo 122 = .ok (.iadd, 1) := by decide +kernel
theorem dX3_standsTo_123 : decode cX3_standsTo 123 = .ok (.ireturn, 1) := by decide +kernel
theorem dX3_step_0 : decode cX3_step 0 = .ok (.iload_n 1, 1) := by decide +kernel
theorem dX3_step_1 : decode cX3_step 1 = .ok (.iconst 1, 1) := by decide +kernel
theorem dX3_step_2 : decode cX3_step 2 = .ok (.if_icmp .ne 10, 3) := by decide +kernel
theorem dX3_step_5 : decode cX3_step 5 = .ok (.aload_n 0, 1) := by decide +kernel
theorem dX3_step_6 : decode cX3_step 6 = .ok (.invokevirtual 34, 3) := by decide +kernel
theorem dX3_step_9 : decode cX3_step 9 = .ok (.goto 4, 3) := by decide +kernel
theorem dX3_step_12 : decode cX3_step 12 = .ok (.iconst 0, 1) := by decide +kernel
theorem dX3_step_13 : decode cX3_step 13 = .ok (.istore_n 2, 1) := by decide +kernel
theorem dX3_step_14 : decode cX3_step 14 = .ok (.aload_n 0, 1) := by decide +kernel
theorem dX3_step_15 : decode cX3_step 15 = .ok (.aload_n 0, 1) := by decide +kernel
theorem dX3_step_16 : decode cX3_step 16 = .ok (.iload_n 1, 1) := by decide +kernel
theorem dX3_step_17 : decode cX3_step 17 = .ok (.invokevirtual 38, 3) := by decide +kernel
theorem dX3_step_20 : decode cX3_step 20 = .ok (.invokevirtual 42, 3) := by decide +kernel
theorem dX3_step_23 : decode cX3_step 23 = .ok (.aload_n 0, 1) := by decide +kernel
theorem dX3_step_24 : decode cX3_step 24 = .ok (.iload_n 2, 1) := by decide +kernel
theorem dX3_step_25 : decode cX3_step 25 = .ok (.invokevirtual 42, 3) := by decide +kernel
theorem dX3_step_28 : decode cX3_step 28 = .ok (.return_, 1) := by decide +kernel
theorem dX3_takenBy_0 : decode cX3_takenBy 0 = .ok (.iconst 0, 1) := by decide +kernel
theorem dX3_takenBy_1 : decode cX3_takenBy 1 = .ok (.istore_n 2, 1) := by decide +kernel
theorem dX3_takenBy_2 : decode cX3_takenBy 2 = .ok (.iconst 0, 1) := by decide +kernel
theorem dX3_takenBy_3 : decode cX3_takenBy 3 = .ok (.istore_n 3, 1) := by decide +kernel
theorem dX3_takenBy_4 : decode cX3_takenBy 4 = .ok (.iload_n 3, 1) := by decide +kernel
theorem dX3_takenBy_5 : decode cX3_takenBy 5 = .ok (.aload_n 0, 1) := by decide +kernel
theorem dX3_takenBy_6 : decode cX3_takenBy 6 = .ok (.getfield 18, 3) := by decide +kernel
theorem dX3_takenBy_9 : decode cX3_takenBy 9 = .ok (.if_icmp .ge 29, 3) := by decide +kernel
theorem dX3_takenBy_12 : decode cX3_takenBy 12 = .ok (.iload_n 2, 1) := by decide +kernel
theorem dX3_takenBy_13 : decode cX3_takenBy 13 = .ok (.iload_n 1, 1) := by decide +kernel
theorem dX3_takenBy_14 : decode cX3_takenBy 14 = .ok (.aload_n 0, 1) := by decide +kernel
theorem dX3_takenBy_15 : decode cX3_takenBy 15 = .ok (.getfield 11, 3) := by decide +kernel
theorem dX3_takenBy_18 : decode cX3_takenBy 18 = .ok (.iload_n 3, 1) := by decide +kernel
theorem dX3_takenBy_19 : decode cX3_takenBy 19 = .ok (.iaload, 1) := by decide +kernel
theorem dX3_takenBy_20 : decode cX3_takenBy 20 = .ok (.invokestatic 46, 3) := by decide +kernel
theorem dX3_takenBy_23 : decode cX3_takenBy 23 = .ok (.aload_n 0, 1) := by decide +kernel
theorem dX3_takenBy_24 : decode cX3_takenBy 24 = .ok (.iload_n 1, 1) := by decide +kernel
theorem dX3_takenBy_25 : decode cX3_takenBy 25 = .ok (.iload_n 3, 1) := by decide +kernel
theorem dX3_takenBy_26 : decode cX3_takenBy 26 = .ok (.invokevirtual 50, 3) := by decide +kernel
theorem dX3_takenBy_29 : decode cX3_takenBy 29 = .ok (.imul, 1) := by decide +kernel
theorem dX3_takenBy_30 : decode cX3_takenBy 30 = .ok (.iadd, 1) := by decide +kernel
theorem dX3_takenBy_31 : decode cX3_takenBy 31 = .ok (.istore_n 2, 1) := by decide +kernel
theorem dX3_takenBy_32 : decode cX3_takenBy 32 = .ok (.iinc 3 1, 3) := by decide +kernel
theorem dX3_takenBy_35 : decode cX3_takenBy 35 = .ok (.goto (-31), 3) := by decide +kernel
theorem dX3_takenBy_38 : decode cX3_takenBy 38 = .ok (.iload_n 2, 1) := by decide +kernel
theorem dX3_takenBy_39 : decode cX3_takenBy 39 = .ok (.ireturn, 1) := by decide +kernel
theorem dX3_touched_0 : decode cX3_touched 0 = .ok (.iload_n 1, 1) := by decide +kernel
theorem dX3_touched_1 : decode cX3_touched 1 = .ok (.iconst 1, 1) := by decide +kernel
theorem dX3_touched_2 : decode cX3_touched 2 = .ok (.if_icmp .ne 18, 3) := by decide +kernel
theorem dX3_touched_5 : decode cX3_touched 5 = .ok (.iload_n 2, 1) := by decide +kernel
theorem dX3_touched_6 : decode cX3_touched 6 = .ok (.ifCond .ne 14, 3) := by decide +kernel
theorem dX3_touched_9 : decode cX3_touched 9 = .ok (.aload_n 0, 1) := by decide +kernel
theorem dX3_touched_10 : decode cX3_touched 10 = .ok (.getfield 15, 3) := by decide +kernel
theorem dX3_touched_13 : decode cX3_touched 13 = .ok (.iload_n 2, 1) := by decide +kernel
theorem dX3_touched_14 : decode cX3_touched 14 = .ok (.iaload, 1) := by decide +kernel
theorem dX3_touched_15 : decode cX3_touched 15 = .ok (.iconst 1, 1) := by decide +kernel
theorem dX3_touched_16 : decode cX3_touched 16 = .ok (.isub, 1) := by decide +kernel
theorem dX3_touched_17 : decode cX3_touched 17 = .ok (.goto 9, 3) := by decide +kernel
theorem dX3_touched_20 : decode cX3_touched 20 = .ok (.aload_n 0, 1) := by decide +kernel
theorem dX3_touched_21 : decode cX3_touched 21 = .ok (.getfield 15, 3) := by decide +kernel
theorem dX3_touched_24 : decode cX3_touched 24 = .ok (.iload_n 2, 1) := by decide +kernel
theorem dX3_touched_25 : decode cX3_touched 25 = .ok (.iaload, 1) := by decide +kernel
theorem dX3_touched_26 : decode cX3_touched 26 = .ok (.ireturn, 1) := by decide +kernel
theorem dX3_winningTake_0 : decode cX3_winningTake 0 = .ok (.iload_n 2, 1) := by decide +kernel
theorem dX3_winningTake_1 : decode cX3_winningTake 1 = .ok (.iconst 1, 1) := by decide +kernel
theorem dX3_winningTake_2 : decode cX3_winningTake 2 = .ok (.if_icmp .lt 15, 3) := by decide +kernel
theorem dX3_winningTake_5 : decode cX3_winningTake 5 = .ok (.iload_n 1, 1) := by decide +kernel
theorem dX3_winningTake_6 : decode cX3_winningTake 6 = .ok (.ifCond .lt 11, 3) := by decide +kernel
theorem dX3_winningTake_9 : decode cX3_winningTake 9 = .ok (.iload_n 1, 1) := by decide +kernel
theorem dX3_winningTake_10 : decode cX3_winningTake 10 = .ok (.aload_n 0, 1) := by decide +kernel
theorem dX3_winningTake_11 : decode cX3_winningTake 11 = .ok (.getfield 18, 3) := by decide +kernel
theorem dX3_winningTake_14 : decode cX3_winningTake 14 = .ok (.if_icmp .lt 5, 3) := by decide +kernel
theorem dX3_winningTake_17 : decode cX3_winningTake 17 = .ok (.iconst 0, 1) := by decide +kernel
theorem dX3_winningTake_18 : decode cX3_winningTake 18 = .ok (.ireturn, 1) := by decide +kernel
theorem dX3_winningTake_19 : decode cX3_winningTake 19 = .ok (.aload_n 0, 1) := by decide +kernel
theorem dX3_winningTake_20 : decode cX3_winningTake 20 = .ok (.iload_n 2, 1) := by decide +kernel
theorem dX3_winningTake_21 : decode cX3_winningTake 21 = .ok (.invokevirtual 67, 3) := by decide +kernel
theorem dX3_winningTake_24 : decode cX3_winningTake 24 = .ok (.istore_n 3, 1) := by decide +kernel
theorem dX3_winningTake_25 : decode cX3_winningTake 25 = .ok (.iload_n 3, 1) := by decide +kernel
theorem dX3_winningTake_26 : decode cX3_winningTake 26 = .ok (.ifCond .ne 5, 3) := by decide +kernel
theorem dX3_winningTake_29 : decode cX3_winningTake 29 = .ok (.iconst 0, 1) := by decide +kernel
theorem dX3_winningTake_30 : decode cX3_winningTake 30 = .ok (.ireturn, 1) := by decide +kernel
theorem dX3_winningTake_31 : decode cX3_winningTake 31 = .ok (.aload_n 0, 1) := by decide +kernel
theorem dX3_winningTake_32 : decode cX3_winningTake 32 = .ok (.getfield 11, 3) := by decide +kernel
theorem dX3_winningTake_35 : decode cX3_winningTake 35 = .ok (.iload_n 1, 1) := by decide +kernel
theorem dX3_winningTake_36 : decode cX3_winningTake 36 = .ok (.iaload, 1) := by decide +kernel
theorem dX3_winningTake_37 : decode cX3_winningTake 37 = .ok (.iload_n 2, 1) := by decide +kernel
theorem dX3_winningTake_38 : decode cX3_winningTake 38 = .ok (.irem, 1) := by decide +kernel
theorem dX3_winningTake_39 : decode cX3_winningTake 39 = .ok (.istore 4, 2) := by decide +kernel
theorem dX3_winningTake_41 : decode cX3_winningTake 41 = .ok (.iload 4, 2) := by decide +kernel
theorem dX3_winningTake_43 : decode cX3_winningTake 43 = .ok (.iload_n 3, 1) := by decide +kernel
theorem dX3_winningTake_44 : decode cX3_winningTake 44 = .ok (.ixor, 1) := by decide +kernel
theorem dX3_winningTake_45 : decode cX3_winningTake 45 = .ok (.istore 5, 2) := by decide +kernel
theorem dX3_winningTake_47 : decode cX3_winningTake 47 = .ok (.iload 5, 2) := by decide +kernel
theorem dX3_winningTake_49 : decode cX3_winningTake 49 = .ok (.iload_n 2, 1) := by decide +kernel
theorem dX3_winningTake_50 : decode cX3_winningTake 50 = .ok (.if_icmp .lt 5, 3) := by decide +kernel
theorem dX3_winningTake_53 : decode cX3_winningTake 53 = .ok (.iconst 0, 1) := by decide +kernel
theorem dX3_winningTake_54 : decode cX3_winningTake 54 = .ok (.ireturn, 1) := by decide +kernel
theorem dX3_winningTake_55 : decode cX3_winningTake 55 = .ok (.iload 5, 2) := by decide +kernel
theorem dX3_winningTake_57 : decode cX3_winningTake 57 = .ok (.iload 4, 2) := by decide +kernel
theorem dX3_winningTake_59 : decode cX3_winningTake 59 = .ok (.if_icmp .ge 11, 3) := by decide +kernel
theorem dX3_winningTake_62 : decode cX3_winningTake 62 = .ok (.iload 4, 2) := by decide +kernel
theorem dX3_winningTake_64 : decode cX3_winningTake 64 = .ok (.iload 5, 2) := by decide +kernel
theorem dX3_winningTake_66 : decode cX3_winningTake 66 = .ok (.isub, 1) := by decide +kernel
theorem dX3_winningTake_67 : decode cX3_winningTake 67 = .ok (.goto 10, 3) := by decide +kernel
theorem dX3_winningTake_70 : decode cX3_winningTake 70 = .ok (.iload 4, 2) := by decide +kernel
theorem dX3_winningTake_72 : decode cX3_winningTake 72 = .ok (.iload 5, 2) := by decide +kernel
theorem dX3_winningTake_74 : decode cX3_winningTake 74 = .ok (.isub, 1) := by decide +kernel
theorem dX3_winningTake_75 : decode cX3_winningTake 75 = .ok (.iload_n 2, 1) := by decide +kernel
theorem dX3_winningTake_76 : decode cX3_winningTake 76 = .ok (.iadd, 1) := by decide +kernel
theorem dX3_winningTake_77 : decode cX3_winningTake 77 = .ok (.istore 6, 2) := by decide +kernel
theorem dX3_winningTake_79 : decode cX3_winningTake 79 = .ok (.iload 6, 2) := by decide +kernel
theorem dX3_winningTake_81 : decode cX3_winningTake 81 = .ok (.aload_n 0, 1) := by decide +kernel
theorem dX3_winningTake_82 : decode cX3_winningTake 82 = .ok (.getfield 11, 3) := by decide +kernel
theorem dX3_winningTake_85 : decode cX3_winningTake 85 = .ok (.iload_n 1, 1) := by decide +kernel
theorem dX3_winningTake_86 : decode cX3_winningTake 86 = .ok (.iaload, 1) := by decide +kernel
theorem dX3_winningTake_87 : decode cX3_winningTake 87 = .ok (.if_icmp .gt 8, 3) := by decide +kernel
theorem dX3_winningTake_90 : decode cX3_winningTake 90 = .ok (.iload 6, 2) := by decide +kernel
theorem dX3_winningTake_92 : decode cX3_winningTake 92 = .ok (.goto 4, 3) := by decide +kernel
theorem dX3_winningTake_95 : decode cX3_winningTake 95 = .ok (.iconst 0, 1) := by decide +kernel
theorem dX3_winningTake_96 : decode cX3_winningTake 96 = .ok (.ireturn, 1) := by decide +kernel
theorem dX4_arrive_0 : decode cX4_arrive 0 = .ok (.aload_n 0, 1) := by decide +kernel
theorem dX4_arrive_1 : decode cX4_arrive 1 = .ok (.iload_n 2, 1) := by decide +kernel
theorem dX4_arrive_2 : decode cX4_arrive 2 = .ok (.invokevirtual 81, 3) := by decide +kernel
theorem dX4_arrive_5 : decode cX4_arrive 5 = .ok (.astore_n 3, 1) := by decide +kernel
theorem dX4_arrive_6 : decode cX4_arrive 6 = .ok (.iconst 0, 1) := by decide +kernel
theorem dX4_arrive_7 : decode cX4_arrive 7 = .ok (.istore 4, 2) := by decide +kernel
theorem dX4_arrive_9 : decode cX4_arrive 9 = .ok (.iload 4, 2) := by decide +kernel
theorem dX4_arrive_11 : decode cX4_arrive 11 = .ok (.aload_n 1, 1) := by decide +kernel
theorem dX4_arrive_12 : decode cX4_arrive 12 = .ok (.getfield 85, 3) := by decide +kernel
theorem dX4_arrive_15 : decode cX4_arrive 15 = .ok (.if_icmp .ge 54, 3) := by decide +kernel
theorem dX4_arrive_18 : decode cX4_arrive 18 = .ok (.aload_n 0, 1) := by decide +kernel
theorem dX4_arrive_19 : decode cX4_arrive 19 = .ok (.getfield 25, 3) := by decide +kernel
theorem dX4_arrive_22 : decode cX4_arrive 22 = .ok (.iload 4, 2) := by decide +kernel
theorem dX4_arrive_24 : decode cX4_arrive 24 = .ok (.ishr, 1) := by decide +kernel
theorem dX4_arrive_25 : decode cX4_arrive 25 = .ok (.iconst 1, 1) := by decide +kernel
theorem dX4_arrive_26 : decode cX4_arrive 26 = .ok (.iand, 1) := by decide +kernel
theorem dX4_arrive_27 : decode cX4_arrive 27 = .ok (.iconst 1, 1) := by decide +kernel
theorem dX4_arrive_28 : decode cX4_arrive 28 = .ok (.if_icmp .ne 35, 3) := by decide +kernel
theorem dX4_arrive_31 : decode cX4_arrive 31 = .ok (.aload_n 1, 1) := by decide +kernel
theorem dX4_arrive_32 : decode cX4_arrive 32 = .ok (.getfield 88, 3) := by decide +kernel
theorem dX4_arrive_35 : decode cX4_arrive 35 = .ok (.iload 4, 2) := by decide +kernel
theorem dX4_arrive_37 : decode cX4_arrive 37 = .ok (.iaload, 1) := by decide +kernel
theorem dX4_arrive_38 : decode cX4_arrive 38 = .ok (.aload_n 0, 1) := by decide +kernel
theorem dX4_arrive_39 : decode cX4_arrive 39 = .ok (.getfield 28, 3) := by decide +kernel
theorem dX4_arrive_42 : decode cX4_arrive 42 = .ok (.iload 4, 2) := by decide +kernel
theorem dX4_arrive_44 : decode cX4_arrive 44 = .ok (.ishr, 1) := by decide +kernel
theorem dX4_arrive_45 : decode cX4_arrive 45 = .ok (.iconst 1, 1) := by decide +kernel
theorem dX4_arrive_46 : decode cX4_arrive 46 = .ok (.iand, 1) := by decide +kernel
theorem dX4_arrive_47 : decode cX4_arrive 47 = .ok (.iadd, 1) := by decide +kernel
theorem dX4_arrive_48 : decode cX4_arrive 48 = .ok (.iload_n 2, 1) := by decide +kernel
theorem dX4_arrive_49 : decode cX4_arrive 49 = .ok (.if_icmp .ne 14, 3) := by decide +kernel
theorem dX4_arrive_52 : decode cX4_arrive 52 = .ok (.aload_n 3, 1) := by decide +kernel
theorem dX4_arrive_53 : decode cX4_arrive 53 = .ok (.aload_n 1, 1) := by decide +kernel
theorem dX4_arrive_54 : decode cX4_arrive 54 = .ok (.getfield 91, 3) := by decide +kernel
theorem dX4_arrive_57 : decode cX4_arrive 57 = .ok (.iload 4, 2) := by decide +kernel
theorem dX4_arrive_59 : decode cX4_arrive 59 = .ok (.iaload, 1) := by decide +kernel
theorem dX4_arrive_60 : decode cX4_arrive 60 = .ok (.invokevirtual 67, 3) := by decide +kernel
theorem dX4_arrive_63 : decode cX4_arrive 63 = .ok (.iinc 4 1, 3) := by decide +kernel
theorem dX4_arrive_66 : decode cX4_arrive 66 = .ok (.goto (-57), 3) := by decide +kernel
theorem dX4_arrive_69 : decode cX4_arrive 69 = .ok (.aload_n 0, 1) := by decide +kernel
theorem dX4_arrive_70 : decode cX4_arrive 70 = .ok (.getfield 34, 3) := by decide +kernel
theorem dX4_arrive_73 : decode cX4_arrive 73 = .ok (.iload_n 2, 1) := by decide +kernel
theorem dX4_arrive_74 : decode cX4_arrive 74 = .ok (.if_icmp .ne 11, 3) := by decide +kernel
theorem dX4_arrive_77 : decode cX4_arrive 77 = .ok (.aload_n 3, 1) := by decide +kernel
theorem dX4_arrive_78 : decode cX4_arrive 78 = .ok (.aload_n 0, 1) := by decide +kernel
theorem dX4_arrive_79 : decode cX4_arrive 79 = .ok (.getfield 37, 3) := by decide +kernel
theorem dX4_arrive_82 : decode cX4_arrive 82 = .ok (.invokevirtual 67, 3) := by decide +kernel
theorem dX4_arrive_85 : decode cX4_arrive 85 = .ok (.iconst 0, 1) := by decide +kernel
theorem dX4_arrive_86 : decode cX4_arrive 86 = .ok (.istore 4, 2) := by decide +kernel
theorem dX4_arrive_88 : decode cX4_arrive 88 = .ok (.iconst 0, 1) := by decide +kernel
theorem dX4_arrive_89 : decode cX4_arrive 89 = .ok (.istore 5, 2) := by decide +kernel
theorem dX4_arrive_91 : decode cX4_arrive 91 = .ok (.iload 5, 2) := by decide +kernel
theorem dX4_arrive_93 : decode cX4_arrive 93 = .ok (.aload_n 1, 1) := by decide +kernel
theorem dX4_arrive_94 : decode cX4_arrive 94 = .ok (.getfield 94, 3) := by decide +kernel
theorem dX4_arrive_97 : decode cX4_arrive 97 = .ok (.if_icmp .ge 51, 3) := by decide +kernel
theorem dX4_arrive_100 : decode cX4_arrive 100 = .ok (.aload_n 1, 1) := by decide +kernel
theorem dX4_arrive_101 : decode cX4_arrive 101 = .ok (.getfield 97, 3) := by decide +kernel
theorem dX4_arrive_104 : decode cX4_arrive 104 = .ok (.iload 5, 2) := by decide +kernel
theorem dX4_arrive_106 : decode cX4_arrive 106 = .ok (.iaload, 1) := by decide +kernel
theorem dX4_arrive_107 : decode cX4_arrive 107 = .ok (.iload_n 2, 1) := by decide +kernel
theorem dX4_arrive_108 : decode cX4_arrive 108 = .ok (.if_icmp .ne 34, 3) := by decide +kernel
theorem dX4_arrive_111 : decode cX4_arrive 111 = .ok (.aload_n 3, 1) := by decide +kernel
theorem dX4_arrive_112 : decode cX4_arrive 112 = .ok (.aload_n 1, 1) := by decide +kernel
theorem dX4_arrive_113 : decode cX4_arrive 113 = .ok (.getfield 100, 3) := by decide +kernel
theorem dX4_arrive_116 : decode cX4_arrive 116 = .ok (.iload 5, 2) := by decide +kernel
theorem dX4_arrive_118 : decode cX4_arrive 118 = .ok (.iaload, 1) := by decide +kernel
theorem dX4_arrive_119 : decode cX4_arrive 119 = .ok (.invokevirtual 67, 3) := by decide +kernel
theorem dX4_arrive_122 : decode cX4_arrive 122 = .ok (.iload 4, 2) := by decide +kernel
theorem dX4_arrive_124 : decode cX4_arrive 124 = .ok (.aload_n 1, 1) := by decide +kernel
theorem dX4_arrive_125 : decode cX4_arrive 125 = .ok (.getfield 100, 3) := by decide +kernel
theorem dX4_arrive_128 : decode cX4_arrive 128 = .ok (.iload 5, 2) := by decide +kernel
theorem dX4_arrive_130 : decode cX4_arrive 130 = .ok (.iaload, 1) := by decide +kernel
theorem dX4_arrive_131 : decode cX4_arrive 131 = .ok (.ifCond .ne 7, 3) := by decide +kernel
theorem dX4_arrive_134 : decode cX4_arrive 134 = .ok (.iconst 1, 1) := by decide +kernel
theorem dX4_arrive_135 : decode cX4_arrive 135 = .ok (.goto 4, 3) := by decide +kernel
theorem dX4_arrive_138 : decode cX4_arrive 138 = .ok (.iconst 0, 1) := by decide +kernel
theorem dX4_arrive_139 : decode cX4_arrive 139 = .ok (.iadd, 1) := by decide +kernel
theorem dX4_arrive_140 : decode cX4_arrive 140 = .ok (.istore 4, 2) := by decide +kernel
theorem dX4_arrive_142 : decode cX4_arrive 142 = .ok (.iinc 5 1, 3) := by decide +kernel
theorem dX4_arrive_145 : decode cX4_arrive 145 = .ok (.goto (-54), 3) := by decide +kernel
theorem dX4_arrive_148 : decode cX4_arrive 148 = .ok (.iconst 0, 1) := by decide +kernel
theorem dX4_arrive_149 : decode cX4_arrive 149 = .ok (.istore 5, 2) := by decide +kernel
theorem dX4_arrive_151 : decode cX4_arrive 151 = .ok (.iload 5, 2) := by decide +kernel
theorem dX4_arrive_153 : decode cX4_arrive 153 = .ok (.iload 4, 2) := by decide +kernel
theorem dX4_arrive_155 : decode cX4_arrive 155 = .ok (.if_icmp .ge 14, 3) := by decide +kernel
theorem dX4_arrive_158 : decode cX4_arrive 158 = .ok (.aload_n 3, 1) := by decide +kernel
theorem dX4_arrive_159 : decode cX4_arrive 159 = .ok (.invokevirtual 103, 3) := by decide +kernel
theorem dX4_arrive_162 : decode cX4_arrive 162 = .ok (.pop, 1) := by decide +kernel
theorem dX4_arrive_163 : decode cX4_arrive 163 = .ok (.iinc 5 1, 3) := by decide +kernel
theorem dX4_arrive_166 : decode cX4_arrive 166 = .ok (.goto (-15), 3) := by decide +kernel
theorem dX4_arrive_169 : decode cX4_arrive 169 = .ok (.return_, 1) := by decide +kernel
theorem dX4_asTold_0 : decode cX4_asTold 0 = .ok (.aload_n 0, 1) := by decide +kernel
theorem dX4_asTold_1 : decode cX4_asTold 1 = .ok (.aload_n 1, 1) := by decide +kernel
theorem dX4_asTold_2 : decode cX4_asTold 2 = .ok (.getfield 18, 3) := by decide +kernel
theorem dX4_asTold_5 : decode cX4_asTold 5 = .ok (.putfield 24, 3) := by decide +kernel
theorem dX4_asTold_8 : decode cX4_asTold 8 = .ok (.aload_n 0, 1) := by decide +kernel
theorem dX4_asTold_9 : decode cX4_asTold 9 = .ok (.bipush 63, 2) := by decide +kernel
theorem dX4_asTold_11 : decode cX4_asTold 11 = .ok (.putfield 25, 3) := by decide +kernel
theorem dX4_asTold_14 : decode cX4_asTold 14 = .ok (.aload_n 0, 1) := by decide +kernel
theorem dX4_asTold_15 : decode cX4_asTold 15 = .ok (.iconst 0, 1) := by decide +kernel
theorem dX4_asTold_16 : decode cX4_asTold 16 = .ok (.putfield 28, 3) := by decide +kernel
theorem dX4_asTold_19 : decode cX4_asTold 19 = .ok (.aload_n 0, 1) := by decide +kernel
theorem dX4_asTold_20 : decode cX4_asTold 20 = .ok (.iconst 0, 1) := by decide +kernel
theorem dX4_asTold_21 : decode cX4_asTold 21 = .ok (.putfield 31, 3) := by decide +kernel
theorem dX4_asTold_24 : decode cX4_asTold 24 = .ok (.aload_n 0, 1) := by decide +kernel
theorem dX4_asTold_25 : decode cX4_asTold 25 = .ok (.iconst (-1), 1) := by decide +kernel
theorem dX4_asTold_26 : decode cX4_asTold 26 = .ok (.putfield 34, 3) := by decide +kernel
theorem dX4_asTold_29 : decode cX4_asTold 29 = .ok (.aload_n 0, 1) := by decide +kernel
theorem dX4_asTold_30 : decode cX4_asTold 30 = .ok (.iconst 0, 1) := by decide +kernel
theorem dX4_asTold_31 : decode cX4_asTold 31 = .ok (.putfield 37, 3) := by decide +kernel
theorem dX4_asTold_34 : decode cX4_asTold 34 = .ok (.aload_n 0, 1) := by decide +kernel
theorem dX4_asTold_35 : decode cX4_asTold 35 = .ok (.iconst (-1), 1) := by decide +kernel
theorem dX4_asTold_36 : decode cX4_asTold 36 = .ok (.putfield 40, 3) := by decide +kernel
theorem dX4_asTold_39 : decode cX4_asTold 39 = .ok (.aload_n 0, 1) := by decide +kernel
theorem dX4_asTold_40 : decode cX4_asTold 40 = .ok (.iconst 0, 1) := by decide +kernel
theorem dX4_asTold_41 : decode cX4_asTold 41 = .ok (.putfield 43, 3) := by decide +kernel
theorem dX4_asTold_44 : decode cX4_asTold 44 = .ok (.return_, 1) := by decide +kernel
theorem dX4_at_0 : decode cX4_at 0 = .ok (.iload_n 1, 1) := by decide +kernel
theorem dX4_at_1 : decode cX4_at 1 = .ok (.ifCond .lt 18, 3) := by decide +kernel
theorem dX4_at_4 : decode cX4_at 4 = .ok (.iload_n 1, 1) := by decide +kernel
theorem dX4_at_5 : decode cX4_at 5 = .ok (.bipush 16, 2) := by decide +kernel
theorem dX4_at_7 : decode cX4_at 7 = .ok (.if_icmp .gt 12, 3) := by decide +kernel
theorem dX4_at_10 : decode cX4_at 10 = .ok (.aload_n 0, 1) := by decide +kernel
theorem dX4_at_11 : decode cX4_at 11 = .ok (.getfield 11, 3) := by decide +kernel
theorem dX4_at_14 : decode cX4_at 14 = .ok (.iload_n 1, 1) := by decide +kernel
theorem dX4_at_15 : decode cX4_at 15 = .ok (.aaload, 1) := by decide +kernel
theorem dX4_at_16 : decode cX4_at 16 = .ok (.goto 9, 3) := by decide +kernel
theorem dX4_at_19 : decode cX4_at 19 = .ok (.aload_n 0, 1) := by decide +kernel
theorem dX4_at_20 : decode cX4_at 20 = .ok (.getfield 11, 3) := by decide +kernel
theorem dX4_at_23 : decode cX4_at 23 = .ok (.iconst 0, 1) := by decide +kernel
theorem dX4_at_24 : decode cX4_at 24 = .ok (.aaload, 1) := by decide +kernel
theorem dX4_at_25 : decode cX4_at 25 = .ok (.areturn, 1) := by decide +kernel
theorem dX4_begin_0 : decode cX4_begin 0 = .ok (.aload_n 0, 1) := by decide +kernel
theorem dX4_begin_1 : decode cX4_begin 1 = .ok (.getfield 11, 3) := by decide +kernel
theorem dX4_begin_4 : decode cX4_begin 4 = .ok (.iconst 0, 1) := by decide +kernel
theorem dX4_begin_5 : decode cX4_begin 5 = .ok (.aaload, 1) := by decide +kernel
theorem dX4_begin_6 : decode cX4_begin 6 = .ok (.astore_n 2, 1) := by decide +kernel
theorem dX4_begin_7 : decode cX4_begin 7 = .ok (.aload_n 2, 1) := by decide +kernel
theorem dX4_begin_8 : decode cX4_begin 8 = .ok (.invokevirtual 57, 3) := by decide +kernel
theorem dX4_begin_11 : decode cX4_begin 11 = .ok (.iconst 0, 1) := by decide +kernel
theorem dX4_begin_12 : decode cX4_begin 12 = .ok (.istore_n 3, 1) := by decide +kernel
theorem dX4_begin_13 : decode cX4_begin 13 = .ok (.iload_n 3, 1) := by decide +kernel
theorem dX4_begin_14 : decode cX4_begin 14 = .ok (.aload_n 1, 1) := by decide +kernel
theorem dX4_begin_15 : decode cX4_begin 15 = .ok (.getfield 60, 3) := by decide +kernel
theorem dX4_begin_18 : decode cX4_begin 18 = .ok (.if_icmp .ge 34, 3) := by decide +kernel
theorem dX4_begin_21 : decode cX4_begin 21 = .ok (.aload_n 2, 1) := by decide +kernel
theorem dX4_begin_22 : decode cX4_begin 22 = .ok (.iload_n 3, 1) := by decide +kernel
theorem dX4_begin_23 : decode cX4_begin 23 = .ok (.aload_n 0, 1) := by decide +kernel
theorem dX4_begin_24 : decode cX4_begin 24 = .ok (.getfield 40, 3) := by decide +kernel
theorem dX4_begin_27 : decode cX4_begin 27 = .ok (.if_icmp .ne 10, 3) := by decide +kernel
theorem dX4_begin_30 : decode cX4_begin 30 = .ok (.aload_n 0, 1) := by decide +kernel
theorem dX4_begin_31 : decode cX4_begin 31 = .ok (.getfield 43, 3) := by decide +kernel
theorem dX4_begin_34 : decode cX4_begin 34 = .ok (.goto 9, 3) := by decide +kernel
theorem dX4_begin_37 : decode cX4_begin 37 = .ok (.aload_n 1, 1) := by decide +kernel
theorem dX4_begin_38 : decode cX4_begin 38 = .ok (.getfield 63, 3) := by decide +kernel
theorem dX4_begin_41 : decode cX4_begin 41 = .ok (.iload_n 3, 1) := by decide +kernel
theorem dX4_begin_42 : decode cX4_begin 42 = .ok (.iaload, 1) := by decide +kernel
theorem dX4_begin_43 : decode cX4_begin 43 = .ok (.invokevirtual 67, 3) := by decide +kernel
theorem dX4_begin_46 : decode cX4_begin 46 = .ok (.iinc 3 1, 3) := by decide +kernel
theorem dX4_begin_49 : decode cX4_begin 49 = .ok (.goto (-36), 3) := by decide +kernel
theorem dX4_begin_52 : decode cX4_begin 52 = .ok (.aload_n 0, 1) := by decide +kernel
theorem dX4_begin_53 : decode cX4_begin 53 = .ok (.aload_n 1, 1) := by decide +kernel
theorem dX4_begin_54 : decode cX4_begin 54 = .ok (.iconst 0, 1) := by decide +kernel
theorem dX4_begin_55 : decode cX4_begin 55 = .ok (.invokevirtual 71, 3) := by decide +kernel
theorem dX4_begin_58 : decode cX4_begin 58 = .ok (.return_, 1) := by decide +kernel
theorem dX4_next_0 : decode cX4_next 0 = .ok (.iload_n 2, 1) := by decide +kernel
theorem dX4_next_1 : decode cX4_next 1 = .ok (.ifCond .lt 9, 3) := by decide +kernel
theorem dX4_next_4 : decode cX4_next 4 = .ok (.iload_n 2, 1) := by decide +kernel
theorem dX4_next_5 : decode cX4_next 5 = .ok (.bipush 16, 2) := by decide +kernel
theorem dX4_next_7 : decode cX4_next 7 = .ok (.if_icmp .lt 4, 3) := by decide +kernel
theorem dX4_next_10 : decode cX4_next 10 = .ok (.return_, 1) := by decide +kernel
theorem dX4_next_11 : decode cX4_next 11 = .ok (.aload_n 0, 1) := by decide +kernel
theorem dX4_next_12 : decode cX4_next 12 = .ok (.getfield 11, 3) := by decide +kernel
theorem dX4_next_15 : decode cX4_next 15 = .ok (.iload_n 2, 1) := by decide +kernel
theorem dX4_next_16 : decode cX4_next 16 = .ok (.iconst 1, 1) := by decide +kernel
theorem dX4_next_17 : decode cX4_next 17 = .ok (.iadd, 1) := by decide +kernel
theorem dX4_next_18 : decode cX4_next 18 = .ok (.aaload, 1) := by decide +kernel
theorem dX4_next_19 : decode cX4_next 19 = .ok (.astore_n 3, 1) := by decide +kernel
theorem dX4_next_20 : decode cX4_next 20 = .ok (.aload_n 3, 1) := by decide +kernel
theorem dX4_next_21 : decode cX4_next 21 = .ok (.aload_n 0, 1) := by decide +kernel
theorem dX4_next_22 : decode cX4_next 22 = .ok (.getfield 11, 3) := by decide +kernel
theorem dX4_next_25 : decode cX4_next 25 = .ok (.iload_n 2, 1) := by decide +kernel
theorem dX4_next_26 : decode cX4_next 26 = .ok (.aaload, 1) := by decide +kernel
theorem dX4_next_27 : decode cX4_next 27 = .ok (.invokevirtual 74, 3) := by decide +kernel
theorem dX4_next_30 : decode cX4_next 30 = .ok (.aload_n 0, 1) := by decide +kernel
theorem dX4_next_31 : decode cX4_next 31 = .ok (.getfield 31, 3) := by decide +kernel
theorem dX4_next_34 : decode cX4_next 34 = .ok (.iload_n 2, 1) := by decide +kernel
theorem dX4_next_35 : decode cX4_next 35 = .ok (.ishr, 1) := by decide +kernel
theorem dX4_next_36 : decode cX4_next 36 = .ok (.iconst 1, 1) := by decide +kernel
theorem dX4_next_37 : decode cX4_next 37 = .ok (.iand, 1) := by decide +kernel
theorem dX4_next_38 : decode cX4_next 38 = .ok (.ifCond .ne 11, 3) := by decide +kernel
theorem dX4_next_41 : decode cX4_next 41 = .ok (.aload_n 3, 1) := by decide +kernel
theorem dX4_next_42 : decode cX4_next 42 = .ok (.aload_n 0, 1) := by decide +kernel
theorem dX4_next_43 : decode cX4_next 43 = .ok (.getfield 24, 3) := by decide +kernel
theorem dX4_next_46 : decode cX4_next 46 = .ok (.invokevirtual 78, 3) := by decide +kernel
theorem dX4_next_49 : decode cX4_next 49 = .ok (.aload_n 0, 1) := by decide +kernel
theorem dX4_next_50 : decode cX4_next 50 = .ok (.aload_n 1, 1) := by decide +kernel
theorem dX4_next_51 : decode cX4_next 51 = .ok (.iload_n 2, 1) := by decide +kernel
theorem dX4_next_52 : decode cX4_next 52 = .ok (.iconst 1, 1) := by decide +kernel
theorem dX4_next_53 : decode cX4_next 53 = .ok (.iadd, 1) := by decide +kernel
theorem dX4_next_54 : decode cX4_next 54 = .ok (.invokevirtual 71, 3) := by decide +kernel
theorem dX4_next_57 : decode cX4_next 57 = .ok (.return_, 1) := by decide +kernel
theorem dX4_pass_0 : decode cX4_pass 0 = .ok (.aload_n 0, 1) := by decide +kernel
theorem dX4_pass_1 : decode cX4_pass 1 = .ok (.aload_n 1, 1) := by decide +kernel
theorem dX4_pass_2 : decode cX4_pass 2 = .ok (.invokevirtual 46, 3) := by decide +kernel
theorem dX4_pass_5 : decode cX4_pass 5 = .ok (.iconst 0, 1) := by decide +kernel
theorem dX4_pass_6 : decode cX4_pass 6 = .ok (.istore_n 2, 1) := by decide +kernel
theorem dX4_pass_7 : decode cX4_pass 7 = .ok (.iload_n 2, 1) := by decide +kernel
theorem dX4_pass_8 : decode cX4_pass 8 = .ok (.aload_n 1, 1) := by decide +kernel
theorem dX4_pass_9 : decode cX4_pass 9 = .ok (.getfield 50, 3) := by decide +kernel
theorem dX4_pass_12 : decode cX4_pass 12 = .ok (.if_icmp .ge 15, 3) := by decide +kernel
theorem dX4_pass_15 : decode cX4_pass 15 = .ok (.aload_n 0, 1) := by decide +kernel
theorem dX4_pass_16 : decode cX4_pass 16 = .ok (.aload_n 1, 1) := by decide +kernel
theorem dX4_pass_17 : decode cX4_pass 17 = .ok (.iload_n 2, 1) := by decide +kernel
theorem dX4_pass_18 : decode cX4_pass 18 = .ok (.invokevirtual 53, 3) := by decide +kernel
theorem dX4_pass_21 : decode cX4_pass 21 = .ok (.iinc 2 1, 3) := by decide +kernel
theorem dX4_pass_24 : decode cX4_pass 24 = .ok (.goto (-17), 3) := by decide +kernel
theorem dX4_pass_27 : decode cX4_pass 27 = .ok (.return_, 1) := by decide +kernel
theorem dX5_bestDay_0 : decode cX5_bestDay 0 = .ok (.iconst (-1), 1) := by decide +kernel
theorem dX5_bestDay_1 : decode cX5_bestDay 1 = .ok (.istore_n 2, 1) := by decide +kernel
theorem dX5_bestDay_2 : decode cX5_bestDay 2 = .ok (.aload_n 0, 1) := by decide +kernel
theorem dX5_bestDay_3 : decode cX5_bestDay 3 = .ok (.getfield 20, 3) := by decide +kernel
theorem dX5_bestDay_6 : decode cX5_bestDay 6 = .ok (.istore_n 3, 1) := by decide +kernel
theorem dX5_bestDay_7 : decode cX5_bestDay 7 = .ok (.iconst 0, 1) := by decide +kernel
theorem dX5_bestDay_8 : decode cX5_bestDay 8 = .ok (.istore 4, 2) := by decide +kernel
theorem dX5_bestDay_10 : decode cX5_bestDay 10 = .ok (.iload 4, 2) := by decide +kernel
theorem dX5_bestDay_12 : decode cX5_bestDay 12 = .ok (.iload_n 1, 1) := by decide +kernel
theorem dX5_bestDay_13 : decode cX5_bestDay 13 = .ok (.if_icmp .gt 29, 3) := by decide +kernel
theorem dX5_bestDay_16 : decode cX5_bestDay 16 = .ok (.aload_n 0, 1) := by decide +kernel
theorem dX5_bestDay_17 : decode cX5_bestDay 17 = .ok (.iload 4, 2) := by decide +kernel
theorem dX5_bestDay_19 : decode cX5_bestDay 19 = .ok (.invokevirtual 34, 3) := by decide +kernel
theorem dX5_bestDay_22 : decode cX5_bestDay 22 = .ok (.istore 5, 2) := by decide +kernel
theorem dX5_bestDay_24 : decode cX5_bestDay 24 = .ok (.iload 5, 2) := by decide +kernel
theorem dX5_bestDay_26 : decode cX5_bestDay 26 = .ok (.iload_n 3, 1) := by decide +kernel
theorem dX5_bestDay_27 : decode cX5_bestDay 27 = .ok (.if_icmp .ge 9, 3) := by decide +kernel
theorem dX5_bestDay_30 : decode cX5_bestDay 30 = .ok (.iload 4, 2) := by decide +kernel
theorem dX5_bestDay_32 : decode cX5_bestDay 32 = .ok (.istore_n 2, 1) := by decide +kernel
theorem dX5_bestDay_33 : decode cX5_bestDay 33 = .ok (.iload 5, 2) := by decide +kernel
theorem dX5_bestDay_35 : decode cX5_bestDay 35 = .ok (.istore_n 3, 1) := by decide +kernel
theorem dX5_bestDay_36 : decode cX5_bestDay 36 = .ok (.iinc 4 1, 3) := by decide +kernel
theorem dX5_bestDay_39 : decode cX5_bestDay 39 = .ok (.goto (-29), 3) := by decide +kernel
theorem dX5_bestDay_42 : decode cX5_bestDay 42 = .ok (.iload_n 2, 1) := by decide +kernel
theorem dX5_bestDay_43 : decode cX5_bestDay 43 = .ok (.ireturn, 1) := by decide +kernel
theorem dX5_clear_0 : decode cX5_clear 0 = .ok (.aload_n 0, 1) := by decide +kernel
theorem dX5_clear_1 : decode cX5_clear 1 = .ok (.iconst 0, 1) := by decide +kernel
theorem dX5_clear_2 : decode cX5_clear 2 = .ok (.putfield 20, 3) := by decide +kernel
theorem dX5_clear_5 : decode cX5_clear 5 = .ok (.return_, 1) := by decide +kernel
theorem dX5_highest_0 : decode cX5_highest 0 = .ok (.aload_n 0, 1) := by decide +kernel
theorem dX5_highest_1 : decode cX5_highest 1 = .ok (.getfield 20, 3) := by decide +kernel
theorem dX5_highest_4 : decode cX5_highest 4 = .ok (.ifCond .le 17, 3) := by decide +kernel
theorem dX5_highest_7 : decode cX5_highest 7 = .ok (.aload_n 0, 1) := by decide +kernel
theorem dX5_highest_8 : decode cX5_highest 8 = .ok (.getfield 9, 3) := by decide +kernel
theorem dX5_highest_11 : decode cX5_highest 11 = .ok (.aload_n 0, 1) := by decide +kernel
theorem dX5_highest_12 : decode cX5_highest 12 = .ok (.getfield 20, 3) := by decide +kernel
theorem dX5_highest_15 : decode cX5_highest 15 = .ok (.iconst 1, 1) := by decide +kernel
theorem dX5_highest_16 : decode cX5_highest 16 = .ok (.isub, 1) := by decide +kernel
theorem dX5_highest_17 : decode cX5_highest 17 = .ok (.iaload, 1) := by decide +kernel
theorem dX5_highest_18 : decode cX5_highest 18 = .ok (.goto 4, 3) := by decide +kernel
theorem dX5_highest_21 : decode cX5_highest 21 = .ok (.iconst (-1), 1) := by decide +kernel
theorem dX5_highest_22 : decode cX5_highest 22 = .ok (.ireturn, 1) := by decide +kernel
theorem dX5_keep_0 : decode cX5_keep 0 = .ok (.aload_n 0, 1) := by decide +kernel
theorem dX5_keep_1 : decode cX5_keep 1 = .ok (.getfield 20, 3) := by decide +kernel
theorem dX5_keep_4 : decode cX5_keep 4 = .ok (.bipush 20, 2) := by decide +kernel
theorem dX5_keep_6 : decode cX5_keep 6 = .ok (.if_icmp .lt 4, 3) := by decide +kernel
theorem dX5_keep_9 : decode cX5_keep 9 = .ok (.return_, 1) := by decide +kernel
theorem dX5_keep_10 : decode cX5_keep 10 = .ok (.aload_n 0, 1) := by decide +kernel
theorem dX5_keep_11 : decode cX5_keep 11 = .ok (.getfield 9, 3) := by decide +kernel
theorem dX5_keep_14 : decode cX5_keep 14 = .ok (.aload_n 0, 1) := by decide +kernel
theorem dX5_keep_15 : decode cX5_keep 15 = .ok (.getfield 20, 3) := by decide +kernel
theorem dX5_keep_18 : decode cX5_keep 18 = .ok (.iload_n 1, 1) := by decide +kernel
theorem dX5_keep_19 : decode cX5_keep 19 = .ok (.iastore, 1) := by decide +kernel
theorem dX5_keep_20 : decode cX5_keep 20 = .ok (.iconst 0, 1) := by decide +kernel
theorem dX5_keep_21 : decode cX5_keep 21 = .ok (.istore_n 3, 1) := by decide +kernel
theorem dX5_keep_22 : decode cX5_keep 22 = .ok (.iload_n 3, 1) := by decide +kernel
theorem dX5_keep_23 : decode cX5_keep 23 = .ok (.bipush 16, 2) := by decide +kernel
theorem dX5_keep_25 : decode cX5_keep 25 = .ok (.if_icmp .gt 28, 3) := by decide +kernel
theorem dX5_keep_28 : decode cX5_keep 28 = .ok (.aload_n 0, 1) := by decide +kernel
theorem dX5_keep_29 : decode cX5_keep 29 = .ok (.getfield 17, 3) := by decide +kernel
theorem dX5_keep_32 : decode cX5_keep 32 = .ok (.aload_n 0, 1) := by decide +kernel
theorem dX5_keep_33 : decode cX5_keep 33 = .ok (.getfield 20, 3) := by decide +kernel
theorem dX5_keep_36 : decode cX5_keep 36 = .ok (.aaload, 1) := by decide +kernel
theorem dX5_keep_37 : decode cX5_keep 37 = .ok (.iload_n 3, 1) := by decide +kernel
theorem dX5_keep_38 : decode cX5_keep 38 = .ok (.aload_n 2, 1) := by decide +kernel
theorem dX5_keep_39 : decode cX5_keep 39 = .ok (.iload_n 3, 1) := by decide +kernel
theorem dX5_keep_40 : decode cX5_keep 40 = .ok (.invokevirtual 24, 3) := by decide +kernel
theorem dX5_keep_43 : decode cX5_keep 43 = .ok (.getfield 30, 3) := by decide +kernel
theorem dX5_keep_46 : decode cX5_keep 46 = .ok (.iastore, 1) := by decide +kernel
theorem dX5_keep_47 : decode cX5_keep 47 = .ok (.iinc 3 1, 3) := by decide +kernel
theorem dX5_keep_50 : decode cX5_keep 50 = .ok (.goto (-28), 3) := by decide +kernel
theorem dX5_keep_53 : decode cX5_keep 53 = .ok (.aload_n 0, 1) := by decide +kernel
theorem dX5_keep_54 : decode cX5_keep 54 = .ok (.dup, 1) := by decide +kernel
theorem dX5_keep_55 : decode cX5_keep 55 = .ok (.getfield 20, 3) := by decide +kernel
theorem dX5_keep_58 : decode cX5_keep 58 = .ok (.iconst 1, 1) := by decide +kernel
theorem dX5_keep_59 : decode cX5_keep 59 = .ok (.iadd, 1) := by decide +kernel
theorem dX5_keep_60 : decode cX5_keep 60 = .ok (.putfield 20, 3) := by decide +kernel
theorem dX5_keep_63 : decode cX5_keep 63 = .ok (.return_, 1) := by decide +kernel
theorem dX5_leftAtWorst_0 : decode cX5_leftAtWorst 0 = .ok (.aload_n 0, 1) := by decide +kernel
theorem dX5_leftAtWorst_1 : decode cX5_leftAtWorst 1 = .ok (.iload_n 1, 1) := by decide +kernel
theorem dX5_leftAtWorst_2 : decode cX5_leftAtWorst 2 = .ok (.invokevirtual 38, 3) := by decide +kernel
theorem dX5_leftAtWorst_5 : decode cX5_leftAtWorst 5 = .ok (.istore_n 2, 1) := by decide +kernel
theorem dX5_leftAtWorst_6 : decode cX5_leftAtWorst 6 = .ok (.iload_n 2, 1) := by decide +kernel
theorem dX5_leftAtWorst_7 : decode cX5_leftAtWorst 7 = .ok (.iconst (-1), 1) := by decide +kernel
theorem dX5_leftAtWorst_8 : decode cX5_leftAtWorst 8 = .ok (.if_icmp .ne 10, 3) := by decide +kernel
theorem dX5_leftAtWorst_11 : decode cX5_leftAtWorst 11 = .ok (.aload_n 0, 1) := by decide +kernel
theorem dX5_leftAtWorst_12 : decode cX5_leftAtWorst 12 = .ok (.getfield 20, 3) := by decide +kernel
theorem dX5_leftAtWorst_15 : decode cX5_leftAtWorst 15 = .ok (.goto 8, 3) := by decide +kernel
theorem dX5_leftAtWorst_18 : decode cX5_leftAtWorst 18 = .ok (.aload_n 0, 1) := by decide +kernel
theorem dX5_leftAtWorst_19 : decode cX5_leftAtWorst 19 = .ok (.iload_n 2, 1) := by decide +kernel
theorem dX5_leftAtWorst_20 : decode cX5_leftAtWorst 20 = .ok (.invokevirtual 34, 3) := by decide +kernel
theorem dX5_leftAtWorst_23 : decode cX5_leftAtWorst 23 = .ok (.ireturn, 1) := by decide +kernel
theorem dX5_lowest_0 : decode cX5_lowest 0 = .ok (.aload_n 0, 1) := by decide +kernel
theorem dX5_lowest_1 : decode cX5_lowest 1 = .ok (.getfield 20, 3) := by decide +kernel
theorem dX5_lowest_4 : decode cX5_lowest 4 = .ok (.ifCond .le 12, 3) := by decide +kernel
theorem dX5_lowest_7 : decode cX5_lowest 7 = .ok (.aload_n 0, 1) := by decide +kernel
theorem dX5_lowest_8 : decode cX5_lowest 8 = .ok (.getfield 9, 3) := by decide +kernel
theorem dX5_lowest_11 : decode cX5_lowest 11 = .ok (.iconst 0, 1) := by decide +kernel
theorem dX5_lowest_12 : decode cX5_lowest 12 = .ok (.iaload, 1) := by decide +kernel
theorem dX5_lowest_13 : decode cX5_lowest 13 = .ok (.goto 4, 3) := by decide +kernel
theorem dX5_lowest_16 : decode cX5_lowest 16 = .ok (.iconst (-1), 1) := by decide +kernel
theorem dX5_lowest_17 : decode cX5_lowest 17 = .ok (.ireturn, 1) := by decide +kernel
theorem dX5_worstOf_0 : decode cX5_worstOf 0 = .ok (.iconst 0, 1) := by decide +kernel
theorem dX5_worstOf_1 : decode cX5_worstOf 1 = .ok (.istore_n 2, 1) := by decide +kernel
theorem dX5_worstOf_2 : decode cX5_worstOf 2 = .ok (.iconst 0, 1) := by decide +kernel
theorem dX5_worstOf_3 : decode cX5_worstOf 3 = .ok (.istore_n 3, 1) := by decide +kernel
theorem dX5_worstOf_4 : decode cX5_worstOf 4 = .ok (.iload_n 3, 1) := by decide +kernel
theorem dX5_worstOf_5 : decode cX5_worstOf 5 = .ok (.aload_n 0, 1) := by decide +kernel
theorem dX5_worstOf_6 : decode cX5_worstOf 6 = .ok (.getfield 20, 3) := by decide +kernel
theorem dX5_worstOf_9 : decode cX5_worstOf 9 = .ok (.if_icmp .ge 67, 3) := by decide +kernel
theorem dX5_worstOf_12 : decode cX5_worstOf 12 = .ok (.iconst 0, 1) := by decide +kernel
theorem dX5_worstOf_13 : decode cX5_worstOf 13 = .ok (.istore 4, 2) := by decide +kernel
theorem dX5_worstOf_15 : decode cX5_worstOf 15 = .ok (.iconst 0, 1) := by decide +kernel
theorem dX5_worstOf_16 : decode cX5_worstOf 16 = .ok (.istore 5, 2) := by decide +kernel
theorem dX5_worstOf_18 : decode cX5_worstOf 18 = .ok (.iload 5, 2) := by decide +kernel
theorem dX5_worstOf_20 : decode cX5_worstOf 20 = .ok (.aload_n 0, 1) := by decide +kernel
theorem dX5_worstOf_21 : decode cX5_worstOf 21 = .ok (.getfield 20, 3) := by decide +kernel
theorem dX5_worstOf_24 : decode cX5_worstOf 24 = .ok (.if_icmp .ge 39, 3) := by decide +kernel
theorem dX5_worstOf_27 : decode cX5_worstOf 27 = .ok (.iload 4, 2) := by decide +kernel
theorem dX5_worstOf_29 : decode cX5_worstOf 29 = .ok (.aload_n 0, 1) := by decide +kernel
theorem dX5_worstOf_30 : decode cX5_worstOf 30 = .ok (.getfield 17, 3) := by decide +kernel
theorem dX5_worstOf_33 : decode cX5_worstOf 33 = .ok (.iload 5, 2) := by decide +kernel
theorem dX5_worstOf_35 : decode cX5_worstOf 35 = .ok (.aaload, 1) := by decide +kernel
theorem dX5_worstOf_36 : decode cX5_worstOf 36 = .ok (.iload_n 1, 1) := by decide +kernel
theorem dX5_worstOf_37 : decode cX5_worstOf 37 = .ok (.iaload, 1) := by decide +kernel
theorem dX5_worstOf_38 : decode cX5_worstOf 38 = .ok (.aload_n 0, 1) := by decide +kernel
theorem dX5_worstOf_39 : decode cX5_worstOf 39 = .ok (.getfield 17, 3) := by decide +kernel
theorem dX5_worstOf_42 : decode cX5_worstOf 42 = .ok (.iload_n 3, 1) := by decide +kernel
theorem dX5_worstOf_43 : decode cX5_worstOf 43 = .ok (.aaload, 1) := by decide +kernel
theorem dX5_worstOf_44 : decode cX5_worstOf 44 = .ok (.iload_n 1, 1) := by decide +kernel
theorem dX5_worstOf_45 : decode cX5_worstOf 45 = .ok (.iaload, 1) := by decide +kernel
theorem dX5_worstOf_46 : decode cX5_worstOf 46 = .ok (.if_icmp .ne 7, 3) := by decide +kernel
theorem dX5_worstOf_49 : decode cX5_worstOf 49 = .ok (.iconst 1, 1) := by decide +kernel
theorem dX5_worstOf_50 : decode cX5_worstOf 50 = .ok (.goto 4, 3) := by decide +kernel
theorem dX5_worstOf_53 : decode cX5_worstOf 53 = .ok (.iconst 0, 1) := by decide +kernel
theorem dX5_worstOf_54 : decode cX5_worstOf 54 = .ok (.iadd, 1) := by decide +kernel
theorem dX5_worstOf_55 : decode cX5_worstOf 55 = .ok (.istore 4, 2) := by decide +kernel
theorem dX5_worstOf_57 : decode cX5_worstOf 57 = .ok (.iinc 5 1, 3) := by decide +kernel
theorem dX5_worstOf_60 : decode cX5_worstOf 60 = .ok (.goto (-42), 3) := by decide +kernel
theorem dX5_worstOf_63 : decode cX5_worstOf 63 = .ok (.iload_n 2, 1) := by decide +kernel
theorem dX5_worstOf_64 : decode cX5_worstOf 64 = .ok (.iload 4, 2) := by decide +kernel
theorem dX5_worstOf_66 : decode cX5_worstOf 66 = .ok (.invokestatic 41, 3) := by decide +kernel
theorem dX5_worstOf_69 : decode cX5_worstOf 69 = .ok (.istore_n 2, 1) := by decide +kernel
theorem dX5_worstOf_70 : decode cX5_worstOf 70 = .ok (.iinc 3 1, 3) := by decide +kernel
theorem dX5_worstOf_73 : decode cX5_worstOf 73 = .ok (.goto (-69), 3) := by decide +kernel
theorem dX5_worstOf_76 : decode cX5_worstOf 76 = .ok (.iload_n 2, 1) := by decide +kernel
theorem dX5_worstOf_77 : decode cX5_worstOf 77 = .ok (.ireturn, 1) := by decide +kernel
theorem dX6_fillSmall_0 : decode cX6_fillSmall 0 = .ok (.aload_n 1, 1) := by decide +kernel
theorem dX6_fillSmall_1 : decode cX6_fillSmall 1 = .ok (.invokevirtual 26, 3) := by decide +kernel
theorem dX6_fillSmall_4 : decode cX6_fillSmall 4 = .ok (.iconst 0, 1) := by decide +kernel
theorem dX6_fillSmall_5 : decode cX6_fillSmall 5 = .ok (.istore_n 2, 1) := by decide +kernel
theorem dX6_fillSmall_6 : decode cX6_fillSmall 6 = .ok (.iload_n 2, 1) := by decide +kernel
theorem dX6_fillSmall_7 : decode cX6_fillSmall 7 = .ok (.aload_n 0, 1) := by decide +kernel
theorem dX6_fillSmall_8 : decode cX6_fillSmall 8 = .ok (.getfield 23, 3) := by decide +kernel
theorem dX6_fillSmall_11 : decode cX6_fillSmall 11 = .ok (.if_icmp .ge 51, 3) := by decide +kernel
theorem dX6_fillSmall_14 : decode cX6_fillSmall 14 = .ok (.aload_n 0, 1) := by decide +kernel
theorem dX6_fillSmall_15 : decode cX6_fillSmall 15 = .ok (.getfield 9, 3) := by decide +kernel
theorem dX6_fillSmall_18 : decode cX6_fillSmall 18 = .ok (.iload_n 2, 1) := by decide +kernel
theorem dX6_fillSmall_19 : decode cX6_fillSmall 19 = .ok (.laload, 1) := by decide +kernel
theorem dX6_fillSmall_20 : decode cX6_fillSmall 20 = .ok (.lconst 1, 1) := by decide +kernel
theorem dX6_fillSmall_21 : decode cX6_fillSmall 21 = .ok (.lcmp, 1) := by decide +kernel
theorem dX6_fillSmall_22 : decode cX6_fillSmall 22 = .ok (.ifCond .lt 21, 3) := by decide +kernel
theorem dX6_fillSmall_25 : decode cX6_fillSmall 25 = .ok (.aload_n 0, 1) := by decide +kernel
theorem dX6_fillSmall_26 : decode cX6_fillSmall 26 = .ok (.getfield 9, 3) := by decide +kernel
theorem dX6_fillSmall_29 : decode cX6_fillSmall 29 = .ok (.iload_n 2, 1) := by decide +kernel
theorem dX6_fillSmall_30 : decode cX6_fillSmall 30 = .ok (.laload, 1) := by decide +kernel
theorem dX6_fillSmall_31 : decode cX6_fillSmall 31 = .ok (.bipush 14, 2) := by decide +kernel
theorem dX6_fillSmall_33 : decode cX6_fillSmall 33 = .ok (.aload_n 1, 1) := by decide +kernel
theorem dX6_fillSmall_34 : decode cX6_fillSmall 34 = .ok (.getfield 31, 3) := by decide +kernel
theorem dX6_fillSmall_37 : decode cX6_fillSmall 37 = .ok (.isub, 1) := by decide +kernel
theorem dX6_fillSmall_38 : decode cX6_fillSmall 38 = .ok (.i2l, 1) := by decide +kernel
theorem dX6_fillSmall_39 : decode cX6_fillSmall 39 = .ok (.lcmp, 1) := by decide +kernel
theorem dX6_fillSmall_40 : decode cX6_fillSmall 40 = .ok (.ifCond .le 5, 3) := by decide +kernel
theorem dX6_fillSmall_43 : decode cX6_fillSmall 43 = .ok (.iconst 0, 1) := by decide +kernel
theorem dX6_fillSmall_44 : decode cX6_fillSmall 44 = .ok (.ireturn, 1) := by decide +kernel
theorem dX6_fillSmall_45 : decode cX6_fillSmall 45 = .ok (.aload_n 1, 1) := by decide +kernel
theorem dX6_fillSmall_46 : decode cX6_fillSmall 46 = .ok (.aload_n 0, 1) := by decide +kernel
theorem dX6_fillSmall_47 : decode cX6_fillSmall 47 = .ok (.getfield 9, 3) := by decide +kernel
theorem dX6_fillSmall_50 : decode cX6_fillSmall 50 = .ok (.iload_n 2, 1) := by decide +kernel
theorem dX6_fillSmall_51 : decode cX6_fillSmall 51 = .ok (.laload, 1) := by decide +kernel
theorem dX6_fillSmall_52 : decode cX6_fillSmall 52 = .ok (.l2i, 1) := by decide +kernel
theorem dX6_fillSmall_53 : decode cX6_fillSmall 53 = .ok (.invokevirtual 34, 3) := by decide +kernel
theorem dX6_fillSmall_56 : decode cX6_fillSmall 56 = .ok (.iinc 2 1, 3) := by decide +kernel
theorem dX6_fillSmall_59 : decode cX6_fillSmall 59 = .ok (.goto (-53), 3) := by decide +kernel
theorem dX6_fillSmall_62 : decode cX6_fillSmall 62 = .ok (.aload_n 1, 1) := by decide +kernel
theorem dX6_fillSmall_63 : decode cX6_fillSmall 63 = .ok (.getfield 38, 3) := by decide +kernel
theorem dX6_fillSmall_66 : decode cX6_fillSmall 66 = .ok (.ifCond .le 7, 3) := by decide +kernel
theorem dX6_fillSmall_69 : decode cX6_fillSmall 69 = .ok (.iconst 1, 1) := by decide +kernel
theorem dX6_fillSmall_70 : decode cX6_fillSmall 70 = .ok (.goto 4, 3) := by decide +kernel
theorem dX6_fillSmall_73 : decode cX6_fillSmall 73 = .ok (.iconst 0, 1) := by decide +kernel
theorem dX6_fillSmall_74 : decode cX6_fillSmall 74 = .ok (.ireturn, 1) := by decide +kernel
theorem dX6_isOfThrees_0 : decode cX6_isOfThrees 0 = .ok (.aload_n 0, 1) := by decide +kernel
theorem dX6_isOfThrees_1 : decode cX6_isOfThrees 1 = .ok (.getfield 23, 3) := by decide +kernel
theorem dX6_isOfThrees_4 : decode cX6_isOfThrees 4 = .ok (.iconst 3, 1) := by decide +kernel
theorem dX6_isOfThrees_5 : decode cX6_isOfThrees 5 = .ok (.irem, 1) := by decide +kernel
theorem dX6_isOfThrees_6 : decode cX6_isOfThrees 6 = .ok (.ifCond .eq 5, 3) := by decide +kernel
theorem dX6_isOfThrees_9 : decode cX6_isOfThrees 9 = .ok (.iconst 0, 1) := by decide +kernel
theorem dX6_isOfThrees_10 : decode cX6_isOfThrees 10 = .ok (.ireturn, 1) := by decide +kernel
theorem dX6_isOfThrees_11 : decode cX6_isOfThrees 11 = .ok (.iconst 0, 1) := by decide +kernel
theorem dX6_isOfThrees_12 : decode cX6_isOfThrees 12 = .ok (.istore_n 2, 1) := by decide +kernel
theorem dX6_isOfThrees_13 : decode cX6_isOfThrees 13 = .ok (.iload_n 2, 1) := by decide +kernel
theorem dX6_isOfThrees_14 : decode cX6_isOfThrees 14 = .ok (.aload_n 0, 1) := by decide +kernel
theorem dX6_isOfThrees_15 : decode cX6_isOfThrees 15 = .ok (.getfield 23, 3) := by decide +kernel
theorem dX6_isOfThrees_18 : decode cX6_isOfThrees 18 = .ok (.if_icmp .ge 48, 3) := by decide +kernel
theorem dX6_isOfThrees_21 : decode cX6_isOfThrees 21 = .ok (.iload_n 2, 1) := by decide +kernel
theorem dX6_isOfThrees_22 : decode cX6_isOfThrees 22 = .ok (.iconst 3, 1) := by decide +kernel
theorem dX6_isOfThrees_23 : decode cX6_isOfThrees 23 = .ok (.irem, 1) := by decide +kernel
theorem dX6_isOfThrees_24 : decode cX6_isOfThrees 24 = .ok (.ifCond .ne 7, 3) := by decide +kernel
theorem dX6_isOfThrees_27 : decode cX6_isOfThrees 27 = .ok (.iload_n 1, 1) := by decide +kernel
theorem dX6_isOfThrees_28 : decode cX6_isOfThrees 28 = .ok (.goto 6, 3) := by decide +kernel
theorem dX6_isOfThrees_31 : decode cX6_isOfThrees 31 = .ok (.sipush 700, 3) := by decide +kernel
theorem dX6_isOfThrees_34 : decode cX6_isOfThrees 34 = .ok (.istore_n 3, 1) := by decide +kernel
theorem dX6_isOfThrees_35 : decode cX6_isOfThrees 35 = .ok (.aload_n 0, 1) := by decide +kernel
theorem dX6_isOfThrees_36 : decode cX6_isOfThrees 36 = .ok (.getfield 9, 3) := by decide +kernel
theorem dX6_isOfThrees_39 : decode cX6_isOfThrees 39 = .ok (.iload_n 2, 1) := by decide +kernel
theorem dX6_isOfThrees_40 : decode cX6_isOfThrees 40 = .ok (.laload, 1) := by decide +kernel
theorem dX6_isOfThrees_41 : decode cX6_isOfThrees 41 = .ok (.lconst 0, 1) := by decide +kernel
theorem dX6_isOfThrees_42 : decode cX6_isOfThrees 42 = .ok (.lcmp, 1) := by decide +kernel
theorem dX6_isOfThrees_43 : decode cX6_isOfThrees 43 = .ok (.ifCond .lt 15, 3) := by decide +kernel
theorem dX6_isOfThrees_46 : decode cX6_isOfThrees 46 = .ok (.aload_n 0, 1) := by decide +kernel
theorem dX6_isOfThrees_47 : decode cX6_isOfThrees 47 = .ok (.getfield 9, 3) := by decide +kernel
theorem dX6_isOfThrees_50 : decode cX6_isOfThrees 50 = .ok (.iload_n 2, 1) := by decide +kernel
theorem dX6_isOfThrees_51 : decode cX6_isOfThrees 51 = .ok (.laload, 1) := by decide +kernel
theorem dX6_isOfThrees_52 : decode cX6_isOfThrees 52 = .ok (.iload_n 3, 1) := by decide +kernel
theorem dX6_isOfThrees_53 : decode cX6_isOfThrees 53 = .ok (.i2l, 1) := by decide +kernel
theorem dX6_isOfThrees_54 : decode cX6_isOfThrees 54 = .ok (.lcmp, 1) := by decide +kernel
theorem dX6_isOfThrees_55 : decode cX6_isOfThrees 55 = .ok (.ifCond .le 5, 3) := by decide +kernel
theorem dX6_isOfThrees_58 : decode cX6_isOfThrees 58 = .ok (.iconst 0, 1) := by decide +kernel
theorem dX6_isOfThrees_59 : decode cX6_isOfThrees 59 = .ok (.ireturn, 1) := by decide +kernel
theorem dX6_isOfThrees_60 : decode cX6_isOfThrees 60 = .ok (.iinc 2 1, 3) := by decide +kernel
theorem dX6_isOfThrees_63 : decode cX6_isOfThrees 63 = .ok (.goto (-50), 3) := by decide +kernel
theorem dX6_isOfThrees_66 : decode cX6_isOfThrees 66 = .ok (.iconst 1, 1) := by decide +kernel
theorem dX6_isOfThrees_67 : decode cX6_isOfThrees 67 = .ok (.ireturn, 1) := by decide +kernel
theorem dX6_lay_0 : decode cX6_lay 0 = .ok (.aload_n 0, 1) := by decide +kernel
theorem dX6_lay_1 : decode cX6_lay 1 = .ok (.iconst 1, 1) := by decide +kernel
theorem dX6_lay_2 : decode cX6_lay 2 = .ok (.putfield 15, 3) := by decide +kernel
theorem dX6_lay_5 : decode cX6_lay 5 = .ok (.aload_n 0, 1) := by decide +kernel
theorem dX6_lay_6 : decode cX6_lay 6 = .ok (.iload_n 1, 1) := by decide +kernel
theorem dX6_lay_7 : decode cX6_lay 7 = .ok (.putfield 19, 3) := by decide +kernel
theorem dX6_lay_10 : decode cX6_lay 10 = .ok (.aload_n 0, 1) := by decide +kernel
theorem dX6_lay_11 : decode cX6_lay 11 = .ok (.iload_n 2, 1) := by decide +kernel
theorem dX6_lay_12 : decode cX6_lay 12 = .ok (.putfield 23, 3) := by decide +kernel
theorem dX6_lay_15 : decode cX6_lay 15 = .ok (.iconst 0, 1) := by decide +kernel
theorem dX6_lay_16 : decode cX6_lay 16 = .ok (.istore_n 3, 1) := by decide +kernel
theorem dX6_lay_17 : decode cX6_lay 17 = .ok (.iload_n 3, 1) := by decide +kernel
theorem dX6_lay_18 : decode cX6_lay 18 = .ok (.iload_n 2, 1) := by decide +kernel
theorem dX6_lay_19 : decode cX6_lay 19 = .ok (.if_icmp .ge 16, 3) := by decide +kernel
theorem dX6_lay_22 : decode cX6_lay 22 = .ok (.aload_n 0, 1) := by decide +kernel
theorem dX6_lay_23 : decode cX6_lay 23 = .ok (.getfield 9, 3) := by decide +kernel
theorem dX6_lay_26 : decode cX6_lay 26 = .ok (.iload_n 3, 1) := by decide +kernel
theorem dX6_lay_27 : decode cX6_lay 27 = .ok (.lconst 0, 1) := by decide +kernel
theorem dX6_lay_28 : decode cX6_lay 28 = .ok (.lastore, 1) := by decide +kernel
theorem dX6_lay_29 : decode cX6_lay 29 = .ok (.iinc 3 1, 3) := by decide +kernel
theorem dX6_lay_32 : decode cX6_lay 32 = .ok (.goto (-15), 3) := by decide +kernel
theorem dX6_lay_35 : decode cX6_lay 35 = .ok (.return_, 1) := by decide +kernel
theorem dX6_reaches_0 : decode cX6_reaches 0 = .ok (.iload_n 1, 1) := by decide +kernel
theorem dX6_reaches_1 : decode cX6_reaches 1 = .ok (.ifCond .lt 29, 3) := by decide +kernel
theorem dX6_reaches_4 : decode cX6_reaches 4 = .ok (.iload_n 2, 1) := by decide +kernel
theorem dX6_reaches_5 : decode cX6_reaches 5 = .ok (.ifCond .lt 25, 3) := by decide +kernel
theorem dX6_reaches_8 : decode cX6_reaches 8 = .ok (.iload_n 2, 1) := by decide +kernel
theorem dX6_reaches_9 : decode cX6_reaches 9 = .ok (.aload_n 0, 1) := by decide +kernel
theorem dX6_reaches_10 : decode cX6_reaches 10 = .ok (.getfield 23, 3) := by decide +kernel
theorem dX6_reaches_13 : decode cX6_reaches 13 = .ok (.if_icmp .gt 17, 3) := by decide +kernel
theorem dX6_reaches_16 : decode cX6_reaches 16 = .ok (.iload_n 1, 1) := by decide +kernel
theorem dX6_reaches_17 : decode cX6_reaches 17 = .ok (.aload_n 0, 1) := by decide +kernel
theorem dX6_reaches_18 : decode cX6_reaches 18 = .ok (.getfield 23, 3) := by decide +kernel
theorem dX6_reaches_21 : decode cX6_reaches 21 = .ok (.iload_n 2, 1) := by decide +kernel
theorem dX6_reaches_22 : decode cX6_reaches 22 = .ok (.isub, 1) := by decide +kernel
theorem dX6_reaches_23 : decode cX6_reaches 23 = .ok (.if_icmp .gt 7, 3) := by decide +kernel
theorem dX6_reaches_26 : decode cX6_reaches 26 = .ok (.iconst 1, 1) := by decide +kernel
theorem dX6_reaches_27 : decode cX6_reaches 27 = .ok (.goto 4, 3) := by decide +kernel
theorem dX6_reaches_30 : decode cX6_reaches 30 = .ok (.iconst 0, 1) := by decide +kernel
theorem dX6_reaches_31 : decode cX6_reaches 31 = .ok (.ireturn, 1) := by decide +kernel
theorem dX6_tellsOf_0 : decode cX6_tellsOf 0 = .ok (.iconst 0, 1) := by decide +kernel
theorem dX6_tellsOf_1 : decode cX6_tellsOf 1 = .ok (.istore_n 2, 1) := by decide +kernel
theorem dX6_tellsOf_2 : decode cX6_tellsOf 2 = .ok (.iload_n 2, 1) := by decide +kernel
theorem dX6_tellsOf_3 : decode cX6_tellsOf 3 = .ok (.iconst 2, 1) := by decide +kernel
theorem dX6_tellsOf_4 : decode cX6_tellsOf 4 = .ok (.iadd, 1) := by decide +kernel
theorem dX6_tellsOf_5 : decode cX6_tellsOf 5 = .ok (.aload_n 0, 1) := by decide +kernel
theorem dX6_tellsOf_6 : decode cX6_tellsOf 6 = .ok (.getfield 23, 3) := by decide +kernel
theorem dX6_tellsOf_9 : decode cX6_tellsOf 9 = .ok (.if_icmp .ge 57, 3) := by decide +kernel
theorem dX6_tellsOf_12 : decode cX6_tellsOf 12 = .ok (.aload_n 1, 1) := by decide +kernel
theorem dX6_tellsOf_13 : decode cX6_tellsOf 13 = .ok (.aload_n 0, 1) := by decide +kernel
theorem dX6_tellsOf_14 : decode cX6_tellsOf 14 = .ok (.getfield 9, 3) := by decide +kernel
theorem dX6_tellsOf_17 : decode cX6_tellsOf 17 = .ok (.iload_n 2, 1) := by decide +kernel
theorem dX6_tellsOf_18 : decode cX6_tellsOf 18 = .ok (.laload, 1) := by decide +kernel
theorem dX6_tellsOf_19 : decode cX6_tellsOf 19 = .ok (.l2i, 1) := by decide +kernel
theorem dX6_tellsOf_20 : decode cX6_tellsOf 20 = .ok (.invokevirtual 41, 3) := by decide +kernel
theorem dX6_tellsOf_23 : decode cX6_tellsOf 23 = .ok (.astore_n 3, 1) := by decide +kernel
theorem dX6_tellsOf_24 : decode cX6_tellsOf 24 = .ok (.aload_n 3, 1) := by decide +kernel
theorem dX6_tellsOf_25 : decode cX6_tellsOf 25 = .ok (.getfield 38, 3) := by decide +kernel
theorem dX6_tellsOf_28 : decode cX6_tellsOf 28 = .ok (.i2l, 1) := by decide +kernel
theorem dX6_tellsOf_29 : decode cX6_tellsOf 29 = .ok (.aload_n 0, 1) := by decide +kernel
theorem dX6_tellsOf_30 : decode cX6_tellsOf 30 = .ok (.getfield 9, 3) := by decide +kernel
theorem dX6_tellsOf_33 : decode cX6_tellsOf 33 = .ok (.iload_n 2, 1) := by decide +kernel
theorem dX6_tellsOf_34 : decode cX6_tellsOf 34 = .ok (.iconst 1, 1) := by decide +kernel
theorem dX6_tellsOf_35 : decode cX6_tellsOf 35 = .ok (.iadd, 1) := by decide +kernel
theorem dX6_tellsOf_36 : decode cX6_tellsOf 36 = .ok (.laload, 1) := by decide +kernel
theorem dX6_tellsOf_37 : decode cX6_tellsOf 37 = .ok (.lcmp, 1) := by decide +kernel
theorem dX6_tellsOf_38 : decode cX6_tellsOf 38 = .ok (.ifCond .ne 20, 3) := by decide +kernel
theorem dX6_tellsOf_41 : decode cX6_tellsOf 41 = .ok (.aload_n 3, 1) := by decide +kernel
theorem dX6_tellsOf_42 : decode cX6_tellsOf 42 = .ok (.invokevirtual 47, 3) := by decide +kernel
theorem dX6_tellsOf_45 : decode cX6_tellsOf 45 = .ok (.i2l, 1) := by decide +kernel
theorem dX6_tellsOf_46 : decode cX6_tellsOf 46 = .ok (.aload_n 0, 1) := by decide +kernel
theorem dX6_tellsOf_47 : decode cX6_tellsOf 47 = .ok (.getfield 9, 3) := by decide +kernel
theorem dX6_tellsOf_50 : decode cX6_tellsOf 50 = .ok (.iload_n 2, 1) := by decide +kernel
theorem dX6_tellsOf_51 : decode cX6_tellsOf 51 = .ok (.iconst 2, 1) := by decide +kernel
theorem dX6_tellsOf_52 : decode cX6_tellsOf 52 = .ok (.iadd, 1) := by decide +kernel
theorem dX6_tellsOf_53 : decode cX6_tellsOf 53 = .ok (.laload, 1) := by decide +kernel
theorem dX6_tellsOf_54 : decode cX6_tellsOf 54 = .ok (.lcmp, 1) := by decide +kernel
theorem dX6_tellsOf_55 : decode cX6_tellsOf 55 = .ok (.ifCond .eq 5, 3) := by decide +kernel
theorem dX6_tellsOf_58 : decode cX6_tellsOf 58 = .ok (.iconst 0, 1) := by decide +kernel
theorem dX6_tellsOf_59 : decode cX6_tellsOf 59 = .ok (.ireturn, 1) := by decide +kernel
theorem dX6_tellsOf_60 : decode cX6_tellsOf 60 = .ok (.iinc 2 3, 3) := by decide +kernel
theorem dX6_tellsOf_63 : decode cX6_tellsOf 63 = .ok (.goto (-61), 3) := by decide +kernel
theorem dX6_tellsOf_66 : decode cX6_tellsOf 66 = .ok (.iconst 1, 1) := by decide +kernel
theorem dX6_tellsOf_67 : decode cX6_tellsOf 67 = .ok (.ireturn, 1) := by decide +kernel
theorem dX7_expect_0 : decode cX7_expect 0 = .ok (.aload_n 0, 1) := by decide +kernel
theorem dX7_expect_1 : decode cX7_expect 1 = .ok (.getfield 27, 3) := by decide +kernel
theorem dX7_expect_4 : decode cX7_expect 4 = .ok (.ifCond .eq 4, 3) := by decide +kernel
theorem dX7_expect_7 : decode cX7_expect 7 = .ok (.return_, 1) := by decide +kernel
theorem dX7_expect_8 : decode cX7_expect 8 = .ok (.iload_n 1, 1) := by decide +kernel
theorem dX7_expect_9 : decode cX7_expect 9 = .ok (.ifCond .eq 10, 3) := by decide +kernel
theorem dX7_expect_12 : decode cX7_expect 12 = .ok (.aload_n 0, 1) := by decide +kernel
theorem dX7_expect_13 : decode cX7_expect 13 = .ok (.invokevirtual 33, 3) := by decide +kernel
theorem dX7_expect_16 : decode cX7_expect 16 = .ok (.goto 8, 3) := by decide +kernel
theorem dX7_expect_19 : decode cX7_expect 19 = .ok (.aload_n 0, 1) := by decide +kernel
theorem dX7_expect_20 : decode cX7_expect 20 = .ok (.iconst 1, 1) := by decide +kernel
theorem dX7_expect_21 : decode cX7_expect 21 = .ok (.invokevirtual 63, 3) := by decide +kernel
theorem dX7_expect_24 : decode cX7_expect 24 = .ok (.return_, 1) := by decide +kernel
theorem dX7_expectNumber_0 : decode cX7_expectNumber 0 = .ok (.aload_n 0, 1) := by decide +kernel
theorem dX7_expectNumber_1 : decode cX7_expectNumber 1 = .ok (.getfield 27, 3) := by decide +kernel
theorem dX7_expectNumber_4 : decode cX7_expectNumber 4 = .ok (.ifCond .eq 5, 3) := by decide +kernel
theorem dX7_expectNumber_7 : decode cX7_expectNumber 7 = .ok (.iload_n 1, 1) := by decide +kernel
theorem dX7_expectNumber_8 : decode cX7_expectNumber 8 = .ok (.ireturn, 1) := by decide +kernel
theorem dX7_expectNumber_9 : decode cX7_expectNumber 9 = .ok (.aload_n 0, 1) := by decide +kernel
theorem dX7_expectNumber_10 : decode cX7_expectNumber 10 = .ok (.getfield 36, 3) := by decide +kernel
theorem dX7_expectNumber_13 : decode cX7_expectNumber 13 = .ok (.iconst 2, 1) := by decide +kernel
theorem dX7_expectNumber_14 : decode cX7_expectNumber 14 = .ok (.if_icmp .eq 10, 3) := by decide +kernel
theorem dX7_expectNumber_17 : decode cX7_expectNumber 17 = .ok (.aload_n 0, 1) := by decide +kernel
theorem dX7_expectNumber_18 : decode cX7_expectNumber 18 = .ok (.iconst 1, 1) := by decide +kernel
theorem dX7_expectNumber_19 : decode cX7_expectNumber 19 = .ok (.invokevirtual 63, 3) := by decide +kernel
theorem dX7_expectNumber_22 : decode cX7_expectNumber 22 = .ok (.iload_n 1, 1) := by decide +kernel
theorem dX7_expectNumber_23 : decode cX7_expectNumber 23 = .ok (.ireturn, 1) := by decide +kernel
theorem dX7_expectNumber_24 : decode cX7_expectNumber 24 = .ok (.aload_n 0, 1) := by decide +kernel
theorem dX7_expectNumber_25 : decode cX7_expectNumber 25 = .ok (.invokevirtual 109, 3) := by decide +kernel
theorem dX7_expectNumber_28 : decode cX7_expectNumber 28 = .ok (.istore_n 3, 1) := by decide +kernel
theorem dX7_expectNumber_29 : decode cX7_expectNumber 29 = .ok (.iload_n 3, 1) := by decide +kernel
theorem dX7_expectNumber_30 : decode cX7_expectNumber 30 = .ok (.iload_n 1, 1) := by decide +kernel
theorem dX7_expectNumber_31 : decode cX7_expectNumber 31 = .ok (.if_icmp .lt 8, 3) := by decide +kernel
theorem dX7_expectNumber_34 : decode cX7_expectNumber 34 = .ok (.iload_n 3, 1) := by decide +kernel
theorem dX7_expectNumber_35 : decode cX7_expectNumber 35 = .ok (.iload_n 2, 1) := by decide +kernel
theorem dX7_expectNumber_36 : decode cX7_expectNumber 36 = .ok (.if_icmp .le 10, 3) := by decide +kernel
theorem dX7_expectNumber_39 : decode cX7_expectNumber 39 = .ok (.aload_n 0, 1) := by decide +kernel
theorem dX7_expectNumber_40 : decode cX7_expectNumber 40 = .ok (.iconst 2, 1) := by decide +kernel
theorem dX7_expectNumber_41 : decode cX7_expectNumber 41 = .ok (.invokevirtual 63, 3) := by decide +kernel
theorem dX7_expectNumber_44 : decode cX7_expectNumber 44 = .ok (.iload_n 1, 1) := by decide +kernel
theorem dX7_expectNumber_45 : decode cX7_expectNumber 45 = .ok (.ireturn, 1) := by decide +kernel
theorem dX7_expectNumber_46 : decode cX7_expectNumber 46 = .ok (.aload_n 0, 1) := by decide +kernel
theorem dX7_expectNumber_47 : decode cX7_expectNumber 47 = .ok (.invokevirtual 33, 3) := by decide +kernel
theorem dX7_expectNumber_50 : decode cX7_expectNumber 50 = .ok (.iload_n 3, 1) := by decide +kernel
theorem dX7_expectNumber_51 : decode cX7_expectNumber 51 = .ok (.ireturn, 1) := by decide +kernel
theorem dX7_fail_0 : decode cX7_fail 0 = .ok (.aload_n 0, 1) := by decide +kernel
theorem dX7_fail_1 : decode cX7_fail 1 = .ok (.getfield 27, 3) := by decide +kernel
theorem dX7_fail_4 : decode cX7_fail 4 = .ok (.ifCond .ne 16, 3) := by decide +kernel
theorem dX7_fail_7 : decode cX7_fail 7 = .ok (.aload_n 0, 1) := by decide +kernel
theorem dX7_fail_8 : decode cX7_fail 8 = .ok (.iload_n 1, 1) := by decide +kernel
theorem dX7_fail_9 : decode cX7_fail 9 = .ok (.putfield 27, 3) := by decide +kernel
theorem dX7_fail_12 : decode cX7_fail 12 = .ok (.aload_n 0, 1) := by decide +kernel
theorem dX7_fail_13 : decode cX7_fail 13 = .ok (.aload_n 0, 1) := by decide +kernel
theorem dX7_fail_14 : decode cX7_fail 14 = .ok (.getfield 113, 3) := by decide +kernel
theorem dX7_fail_17 : decode cX7_fail 17 = .ok (.putfield 15, 3) := by decide +kernel
theorem dX7_fail_20 : decode cX7_fail 20 = .ok (.return_, 1) := by decide +kernel
theorem dX7_isBlank_0 : decode cX7_isBlank 0 = .ok (.iload_n 0, 1) := by decide +kernel
theorem dX7_isBlank_1 : decode cX7_isBlank 1 = .ok (.bipush 32, 2) := by decide +kernel
theorem dX7_isBlank_3 : decode cX7_isBlank 3 = .ok (.if_icmp .eq 9, 3) := by decide +kernel
theorem dX7_isBlank_6 : decode cX7_isBlank 6 = .ok (.iload_n 0, 1) := by decide +kernel
theorem dX7_isBlank_7 : decode cX7_isBlank 7 = .ok (.bipush 10, 2) := by decide +kernel
theorem dX7_isBlank_9 : decode cX7_isBlank 9 = .ok (.if_icmp .ne 7, 3) := by decide +kernel
theorem dX7_isBlank_12 : decode cX7_isBlank 12 = .ok (.iconst 1, 1) := by decide +kernel
theorem dX7_isBlank_13 : decode cX7_isBlank 13 = .ok (.goto 4, 3) := by decide +kernel
theorem dX7_isBlank_16 : decode cX7_isBlank 16 = .ok (.iconst 0, 1) := by decide +kernel
theorem dX7_isBlank_17 : decode cX7_isBlank 17 = .ok (.ireturn, 1) := by decide +kernel
theorem dX7_isDigit_0 : decode cX7_isDigit 0 = .ok (.iload_n 0, 1) := by decide +kernel
theorem dX7_isDigit_1 : decode cX7_isDigit 1 = .ok (.bipush 48, 2) := by decide +kernel
theorem dX7_isDigit_3 : decode cX7_isDigit 3 = .ok (.if_icmp .lt 13, 3) := by decide +kernel
theorem dX7_isDigit_6 : decode cX7_isDigit 6 = .ok (.iload_n 0, 1) := by decide +kernel
theorem dX7_isDigit_7 : decode cX7_isDigit 7 = .ok (.bipush 57, 2) := by decide +kernel
theorem dX7_isDigit_9 : decode cX7_isDigit 9 = .ok (.if_icmp .gt 7, 3) := by decide +kernel
theorem dX7_isDigit_12 : decode cX7_isDigit 12 = .ok (.iconst 1, 1) := by decide +kernel
theorem dX7_isDigit_13 : decode cX7_isDigit 13 = .ok (.goto 4, 3) := by decide +kernel
theorem dX7_isDigit_16 : decode cX7_isDigit 16 = .ok (.iconst 0, 1) := by decide +kernel
theorem dX7_isDigit_17 : decode cX7_isDigit 17 = .ok (.ireturn, 1) := by decide +kernel
theorem dX7_isLetter_0 : decode cX7_isLetter 0 = .ok (.iload_n 0, 1) := by decide +kernel
theorem dX7_isLetter_1 : decode cX7_isLetter 1 = .ok (.bipush 97, 2) := by decide +kernel
theorem dX7_isLetter_3 : decode cX7_isLetter 3 = .ok (.if_icmp .lt 13, 3) := by decide +kernel
theorem dX7_isLetter_6 : decode cX7_isLetter 6 = .ok (.iload_n 0, 1) := by decide +kernel
theorem dX7_isLetter_7 : decode cX7_isLetter 7 = .ok (.bipush 122, 2) := by decide +kernel
theorem dX7_isLetter_9 : decode cX7_isLetter 9 = .ok (.if_icmp .gt 7, 3) := by decide +kernel
theorem dX7_isLetter_12 : decode cX7_isLetter 12 = .ok (.iconst 1, 1) := by decide +kernel
theorem dX7_isLetter_13 : decode cX7_isLetter 13 = .ok (.goto 4, 3) := by decide +kernel
theorem dX7_isLetter_16 : decode cX7_isLetter 16 = .ok (.iconst 0, 1) := by decide +kernel
theorem dX7_isLetter_17 : decode cX7_isLetter 17 = .ok (.ireturn, 1) := by decide +kernel
theorem dX7_isWord_0 : decode cX7_isWord 0 = .ok (.aload_n 0, 1) := by decide +kernel
theorem dX7_isWord_1 : decode cX7_isWord 1 = .ok (.getfield 36, 3) := by decide +kernel
theorem dX7_isWord_4 : decode cX7_isWord 4 = .ok (.iconst 1, 1) := by decide +kernel
theorem dX7_isWord_5 : decode cX7_isWord 5 = .ok (.if_icmp .ne 19, 3) := by decide +kernel
theorem dX7_isWord_8 : decode cX7_isWord 8 = .ok (.aload_n 0, 1) := by decide +kernel
theorem dX7_isWord_9 : decode cX7_isWord 9 = .ok (.getfield 30, 3) := by decide +kernel
theorem dX7_isWord_12 : decode cX7_isWord 12 = .ok (.aload_n 0, 1) := by decide +kernel
theorem dX7_isWord_13 : decode cX7_isWord 13 = .ok (.getfield 113, 3) := by decide +kernel
theorem dX7_isWord_16 : decode cX7_isWord 16 = .ok (.isub, 1) := by decide +kernel
theorem dX7_isWord_17 : decode cX7_isWord 17 = .ok (.aload_n 1, 1) := by decide +kernel
theorem dX7_isWord_18 : decode cX7_isWord 18 = .ok (.invokevirtual 126, 3) := by decide +kernel
theorem dX7_isWord_21 : decode cX7_isWord 21 = .ok (.if_icmp .eq 5, 3) := by decide +kernel
theorem dX7_isWord_24 : decode cX7_isWord 24 = .ok (.iconst 0, 1) := by decide +kernel
theorem dX7_isWord_25 : decode cX7_isWord 25 = .ok (.ireturn, 1) := by decide +kernel
theorem dX7_isWord_26 : decode cX7_isWord 26 = .ok (.iconst 0, 1) := by decide +kernel
theorem dX7_isWord_27 : decode cX7_isWord 27 = .ok (.istore_n 2, 1) := by decide +kernel
theorem dX7_isWord_28 : decode cX7_isWord 28 = .ok (.iload_n 2, 1) := by decide +kernel
theorem dX7_isWord_29 : decode cX7_isWord 29 = .ok (.aload_n 1, 1) := by decide +kernel
theorem dX7_isWord_30 : decode cX7_isWord 30 = .ok (.invokevirtual 126, 3) := by decide +kernel
theorem dX7_isWord_33 : decode cX7_isWord 33 = .ok (.if_icmp .ge 30, 3) := by decide +kernel
theorem dX7_isWord_36 : decode cX7_isWord 36 = .ok (.aload_n 0, 1) := by decide +kernel
theorem dX7_isWord_37 : decode cX7_isWord 37 = .ok (.getfield 9, 3) := by decide +kernel
theorem dX7_isWord_40 : decode cX7_isWord 40 = .ok (.aload_n 0, 1) := by decide +kernel
theorem dX7_isWord_41 : decode cX7_isWord 41 = .ok (.getfield 113, 3) := by decide +kernel
theorem dX7_isWord_44 : decode cX7_isWord 44 = .ok (.iload_n 2, 1) := by decide +kernel
theorem dX7_isWord_45 : decode cX7_isWord 45 = .ok (.iadd, 1) := by decide +kernel
theorem dX7_isWord_46 : decode cX7_isWord 46 = .ok (.baload, 1) := by decide +kernel
theorem dX7_isWord_47 : decode cX7_isWord 47 = .ok (.aload_n 1, 1) := by decide +kernel
theorem dX7_isWord_48 : decode cX7_isWord 48 = .ok (.iload_n 2, 1) := by decide +kernel
theorem dX7_isWord_49 : decode cX7_isWord 49 = .ok (.invokevirtual 131, 3) := by decide +kernel
theorem dX7_isWord_52 : decode cX7_isWord 52 = .ok (.if_icmp .eq 5, 3) := by decide +kernel
theorem dX7_isWord_55 : decode cX7_isWord 55 = .ok (.iconst 0, 1) := by decide +kernel
theorem dX7_isWord_56 : decode cX7_isWord 56 = .ok (.ireturn, 1) := by decide +kernel
theorem dX7_isWord_57 : decode cX7_isWord 57 = .ok (.iinc 2 1, 3) := by decide +kernel
theorem dX7_isWord_60 : decode cX7_isWord 60 = .ok (.goto (-32), 3) := by decide +kernel
theorem dX7_isWord_63 : decode cX7_isWord 63 = .ok (.iconst 1, 1) := by decide +kernel
theorem dX7_isWord_64 : decode cX7_isWord 64 = .ok (.ireturn, 1) := by decide +kernel
theorem dX7_nextToken_0 : decode cX7_nextToken 0 = .ok (.aload_n 0, 1) := by decide +kernel
theorem dX7_nextToken_1 : decode cX7_nextToken 1 = .ok (.getfield 30, 3) := by decide +kernel
theorem dX7_nextToken_4 : decode cX7_nextToken 4 = .ok (.aload_n 0, 1) := by decide +kernel
theorem dX7_nextToken_5 : decode cX7_nextToken 5 = .ok (.getfield 19, 3) := by decide +kernel
theorem dX7_nextToken_8 : decode cX7_nextToken 8 = .ok (.if_icmp .ge 31, 3) := by decide +kernel
theorem dX7_nextToken_11 : decode cX7_nextToken 11 = .ok (.aload_n 0, 1) := by decide +kernel
theorem dX7_nextToken_12 : decode cX7_nextToken 12 = .ok (.getfield 9, 3) := by decide +kernel
theorem dX7_nextToken_15 : decode cX7_nextToken 15 = .ok (.aload_n 0, 1) := by decide +kernel
theorem dX7_nextToken_16 : decode cX7_nextToken 16 = .ok (.getfield 30, 3) := by decide +kernel
theorem dX7_nextToken_19 : decode cX7_nextToken 19 = .ok (.baload, 1) := by decide +kernel
theorem dX7_nextToken_20 : decode cX7_nextToken 20 = .ok (.invokestatic 116, 3) := by decide +kernel
theorem dX7_nextToken_23 : decode cX7_nextToken 23 = .ok (.ifCond .eq 16, 3) := by decide +kernel
theorem dX7_nextToken_26 : decode cX7_nextToken 26 = .ok (.aload_n 0, 1) := by decide +kernel
theorem dX7_nextToken_27 : decode cX7_nextToken 27 = .ok (.dup, 1) := by decide +kernel
theorem dX7_nextToken_28 : decode cX7_nextToken 28 = .ok (.getfield 30, 3) := by decide +kernel
theorem dX7_nextToken_31 : decode cX7_nextToken 31 = .ok (.iconst 1, 1) := by decide +kernel
theorem dX7_nextToken_32 : decode cX7_nextToken 32 = .ok (.iadd, 1) := by decide +kernel
theorem dX7_nextToken_33 : decode cX7_nextToken 33 = .ok (.putfield 30, 3) := by decide +kernel
theorem dX7_nextToken_36 : decode cX7_nextToken 36 = .ok (.goto (-36), 3) := by decide +kernel
theorem dX7_nextToken_39 : decode cX7_nextToken 39 = .ok (.aload_n 0, 1) := by decide +kernel
theorem dX7_nextToken_40 : decode cX7_nextToken 40 = .ok (.aload_n 0, 1) := by decide +kernel
theorem dX7_nextToken_41 : decode cX7_nextToken 41 = .ok (.getfield 30, 3) := by decide +kernel
theorem dX7_nextToken_44 : decode cX7_nextToken 44 = .ok (.putfield 113, 3) := by decide +kernel
theorem dX7_nextToken_47 : decode cX7_nextToken 47 = .ok (.aload_n 0, 1) := by decide +kernel
theorem dX7_nextToken_48 : decode cX7_nextToken 48 = .ok (.getfield 30, 3) := by decide +kernel
theorem dX7_nextToken_51 : decode cX7_nextToken 51 = .ok (.aload_n 0, 1) := by decide +kernel
theorem dX7_nextToken_52 : decode cX7_nextToken 52 = .ok (.getfield 19, 3) := by decide +kernel
theorem dX7_nextToken_55 : decode cX7_nextToken 55 = .ok (.if_icmp .lt 9, 3) := by decide +kernel
theorem dX7_nextToken_58 : decode cX7_nextToken 58 = .ok (.aload_n 0, 1) := by decide +kernel
theorem dX7_nextToken_59 : decode cX7_nextToken 59 = .ok (.iconst 0, 1) := by decide +kernel
theorem dX7_nextToken_60 : decode cX7_nextToken 60 = .ok (.putfield 36, 3) := by decide +kernel
theorem dX7_nextToken_63 : decode cX7_nextToken 63 = .ok (.return_, 1) := by decide +kernel
theorem dX7_nextToken_64 : decode cX7_nextToken 64 = .ok (.aload_n 0, 1) := by decide +kernel
theorem dX7_nextToken_65 : decode cX7_nextToken 65 = .ok (.getfield 9, 3) := by decide +kernel
theorem dX7_nextToken_68 : decode cX7_nextToken 68 = .ok (.aload_n 0, 1) := by decide +kernel
theorem dX7_nextToken_69 : decode cX7_nextToken 69 = .ok (.getfield 30, 3) := by decide +kernel
theorem dX7_nextToken_72 : decode cX7_nextToken 72 = .ok (.baload, 1) := by decide +kernel
theorem dX7_nextToken_73 : decode cX7_nextToken 73 = .ok (.istore_n 1, 1) := by decide +kernel
theorem dX7_nextToken_74 : decode cX7_nextToken 74 = .ok (.aload_n 0, 1) := by decide +kernel
theorem dX7_nextToken_75 : decode cX7_nextToken 75 = .ok (.dup, 1) := by decide +kernel
theorem dX7_nextToken_76 : decode cX7_nextToken 76 = .ok (.getfield 30, 3) := by decide +kernel
theorem dX7_nextToken_79 : decode cX7_nextToken 79 = .ok (.iconst 1, 1) := by decide +kernel
theorem dX7_nextToken_80 : decode cX7_nextToken 80 = .ok (.iadd, 1) := by decide +kernel
theorem dX7_nextToken_81 : decode cX7_nextToken 81 = .ok (.putfield 30, 3) := by decide +kernel
theorem dX7_nextToken_84 : decode cX7_nextToken 84 = .ok (.iload_n 1, 1) := by decide +kernel
theorem dX7_nextToken_85 : decode cX7_nextToken 85 = .ok (.invokestatic 120, 3) := by decide +kernel
theorem dX7_nextToken_88 : decode cX7_nextToken 88 = .ok (.ifCond .eq 47, 3) := by decide +kernel
theorem dX7_nextToken_91 : decode cX7_nextToken 91 = .ok (.aload_n 0, 1) := by decide +kernel
theorem dX7_nextToken_92 : decode cX7_nextToken 92 = .ok (.iconst 1, 1) := by decide +kernel
theorem dX7_nextToken_93 : decode cX7_nextToken 93 = .ok (.putfield 36, 3) := by decide +kernel
theorem dX7_nextToken_96 : decode cX7_nextToken 96 = .ok (.aload_n 0, 1) := by decide +kernel
theorem dX7_nextToken_97 : decode cX7_nextToken 97 = .ok (.getfield 30, 3) := by decide +kernel
theorem dX7_nextToken_100 : decode cX7_nextToken 100 = .ok (.aload_n 0, 1) := by decide +kernel
theorem dX7_nextToken_101 : decode cX7_nextToken 101 = .ok (.getfield 19, 3) := by decide +kernel
theorem dX7_nextToken_104 : decode cX7_nextToken 104 = .ok (.if_icmp .ge 97, 3) := by decide +kernel
theorem dX7_nextToken_107 : decode cX7_nextToken 107 = .ok (.aload_n 0, 1) := by decide +kernel
theorem dX7_nextToken_108 : decode cX7_nextToken 108 = .ok (.getfield 9, 3) := by decide +kernel
theorem dX7_nextToken_111 : decode cX7_nextToken 111 = .ok (.aload_n 0, 1) := by decide +kernel
theorem dX7_nextToken_112 : decode cX7_nextToken 112 = .ok (.getfield 30, 3) := by decide +kernel
theorem dX7_nextToken_115 : decode cX7_nextToken 115 = .ok (.baload, 1) := by decide +kernel
theorem dX7_nextToken_116 : decode cX7_nextToken 116 = .ok (.invokestatic 120, 3) := by decide +kernel
theorem dX7_nextToken_119 : decode cX7_nextToken 119 = .ok (.ifCond .eq 82, 3) := by decide +kernel
theorem dX7_nextToken_122 : decode cX7_nextToken 122 = .ok (.aload_n 0, 1) := by decide +kernel
theorem dX7_nextToken_123 : decode cX7_nextToken 123 = .ok (.dup, 1) := by decide +kernel
theorem dX7_nextToken_124 : decode cX7_nextToken 124 = .ok (.getfield 30, 3) := by decide +kernel
theorem dX7_nextToken_127 : decode cX7_nextToken 127 = .ok (.iconst 1, 1) := by decide +kernel
theorem dX7_nextToken_128 : decode cX7_nextToken 128 = .ok (.iadd, 1) := by decide +kernel
theorem dX7_nextToken_129 : decode cX7_nextToken 129 = .ok (.putfield 30, 3) := by decide +kernel
theorem dX7_nextToken_132 : decode cX7_nextToken 132 = .ok (.goto (-36), 3) := by decide +kernel
theorem dX7_nextToken_135 : decode cX7_nextToken 135 = .ok (.iload_n 1, 1) := by decide +kernel
theorem dX7_nextToken_136 : decode cX7_nextToken 136 = .ok (.invokestatic 123, 3) := by decide +kernel
theorem dX7_nextToken_139 : decode cX7_nextToken 139 = .ok (.ifCond .eq 47, 3) := by decide +kernel
theorem dX7_nextToken_142 : decode cX7_nextToken 142 = .ok (.aload_n 0, 1) := by decide +kernel
theorem dX7_nextToken_143 : decode cX7_nextToken 143 = .ok (.iconst 2, 1) := by decide +kernel
theorem dX7_nextToken_144 : decode cX7_nextToken 144 = .ok (.putfield 36, 3) := by decide +kernel
theorem dX7_nextToken_147 : decode cX7_nextToken 147 = .ok (.aload_n 0, 1) := by decide +kernel
theorem dX7_nextToken_148 : decode cX7_nextToken 148 = .ok (.getfield 30, 3) := by decide +kernel
theorem dX7_nextToken_151 : decode cX7_nextToken 151 = .ok (.aload_n 0, 1) := by decide +kernel
theorem dX7_nextToken_152 : decode cX7_nextToken 152 = .ok (.getfield 19, 3) := by decide +kernel
theorem dX7_nextToken_155 : decode cX7_nextToken 155 = .ok (.if_icmp .ge 46, 3) := by decide +kernel
theorem dX7_nextToken_158 : decode cX7_nextToken 158 = .ok (.aload_n 0, 1) := by decide +kernel
theorem dX7_nextToken_159 : decode cX7_nextToken 159 = .ok (.getfield 9, 3) := by decide +kernel
theorem dX7_nextToken_162 : decode cX7_nextToken 162 = .ok (.aload_n 0, 1) := by decide +kernel
theorem dX7_nextToken_163 : decode cX7_nextToken 163 = .ok (.getfield 30, 3) := by decide +kernel
theorem dX7_nextToken_166 : decode cX7_nextToken 166 = .ok (.baload, 1) := by decide +kernel
theorem dX7_nextToken_167 : decode cX7_nextToken 167 = .ok (.invokestatic 123, 3) := by decide +kernel
theorem dX7_nextToken_170 : decode cX7_nextToken 170 = .ok (.ifCond .eq 31, 3) := by decide +kernel
theorem dX7_nextToken_173 : decode cX7_nextToken 173 = .ok (.aload_n 0, 1) := by decide +kernel
theorem dX7_nextToken_174 : decode cX7_nextToken 174 = .ok (.dup, 1) := by decide +kernel
theorem dX7_nextToken_175 : decode cX7_nextToken 175 = .ok (.getfield 30, 3) := by decide +kernel
theorem dX7_nextToken_178 : decode cX7_nextToken 178 = .ok (.iconst 1, 1) := by decide +kernel
theorem dX7_nextToken_179 : decode cX7_nextToken 179 = .ok (.iadd, 1) := by decide +kernel
theorem dX7_nextToken_180 : decode cX7_nextToken 180 = .ok (.putfield 30, 3) := by decide +kernel
theorem dX7_nextToken_183 : decode cX7_nextToken 183 = .ok (.goto (-36), 3) := by decide +kernel
theorem dX7_nextToken_186 : decode cX7_nextToken 186 = .ok (.aload_n 0, 1) := by decide +kernel
theorem dX7_nextToken_187 : decode cX7_nextToken 187 = .ok (.iload_n 1, 1) := by decide +kernel
theorem dX7_nextToken_188 : decode cX7_nextToken 188 = .ok (.bipush 59, 2) := by decide +kernel
theorem dX7_nextToken_190 : decode cX7_nextToken 190 = .ok (.if_icmp .ne 7, 3) := by decide +kernel
theorem dX7_nextToken_193 : decode cX7_nextToken 193 = .ok (.iconst 3, 1) := by decide +kernel
theorem dX7_nextToken_194 : decode cX7_nextToken 194 = .ok (.goto 4, 3) := by decide +kernel
theorem dX7_nextToken_197 : decode cX7_nextToken 197 = .ok (.iconst 4, 1) := by decide +kernel
theorem dX7_nextToken_198 : decode cX7_nextToken 198 = .ok (.putfield 36, 3) := by decide +kernel
theorem dX7_nextToken_201 : decode cX7_nextToken 201 = .ok (.return_, 1) := by decide +kernel
theorem dX7_number_0 : decode cX7_number 0 = .ok (.iconst 0, 1) := by decide +kernel
theorem dX7_number_1 : decode cX7_number 1 = .ok (.istore_n 1, 1) := by decide +kernel
theorem dX7_number_2 : decode cX7_number 2 = .ok (.aload_n 0, 1) := by decide +kernel
theorem dX7_number_3 : decode cX7_number 3 = .ok (.getfield 113, 3) := by decide +kernel
theorem dX7_number_6 : decode cX7_number 6 = .ok (.istore_n 2, 1) := by decide +kernel
theorem dX7_number_7 : decode cX7_number 7 = .ok (.iload_n 2, 1) := by decide +kernel
theorem dX7_number_8 : decode cX7_number 8 = .ok (.aload_n 0, 1) := by decide +kernel
theorem dX7_number_9 : decode cX7_number 9 = .ok (.getfield 30, 3) := by decide +kernel
theorem dX7_number_12 : decode cX7_number 12 = .ok (.if_icmp .ge 30, 3) := by decide +kernel
theorem dX7_number_15 : decode cX7_number 15 = .ok (.sipush 1000, 3) := by decide +kernel
theorem dX7_number_18 : decode cX7_number 18 = .ok (.bipush 10, 2) := by decide +kernel
theorem dX7_number_20 : decode cX7_number 20 = .ok (.iload_n 1, 1) := by decide +kernel
theorem dX7_number_21 : decode cX7_number 21 = .ok (.imul, 1) := by decide +kernel
theorem dX7_number_22 : decode cX7_number 22 = .ok (.aload_n 0, 1) := by decide +kernel
theorem dX7_number_23 : decode cX7_number 23 = .ok (.getfield 9, 3) := by decide +kernel
theorem dX7_number_26 : decode cX7_number 26 = .ok (.iload_n 2, 1) := by decide +kernel
theorem dX7_number_27 : decode cX7_number 27 = .ok (.baload, 1) := by decide +kernel
theorem dX7_number_28 : decode cX7_number 28 = .ok (.iadd, 1) := by decide +kernel
theorem dX7_number_29 : decode cX7_number 29 = .ok (.bipush 48, 2) := by decide +kernel
theorem dX7_number_31 : decode cX7_number 31 = .ok (.isub, 1) := by decide +kernel
theorem dX7_number_32 : decode cX7_number 32 = .ok (.invokestatic 135, 3) := by decide +kernel
theorem dX7_number_35 : decode cX7_number 35 = .ok (.istore_n 1, 1) := by decide +kernel
theorem dX7_number_36 : decode cX7_number 36 = .ok (.iinc 2 1, 3) := by decide +kernel
theorem dX7_number_39 : decode cX7_number 39 = .ok (.goto (-32), 3) := by decide +kernel
theorem dX7_number_42 : decode cX7_number 42 = .ok (.iload_n 1, 1) := by decide +kernel
theorem dX7_number_43 : decode cX7_number 43 = .ok (.ireturn, 1) := by decide +kernel
theorem dX7_put_0 : decode cX7_put 0 = .ok (.bipush 24, 2) := by decide +kernel
theorem dX7_put_2 : decode cX7_put 2 = .ok (.istore_n 2, 1) := by decide +kernel
theorem dX7_put_3 : decode cX7_put 3 = .ok (.iload_n 2, 1) := by decide +kernel
theorem dX7_put_4 : decode cX7_put 4 = .ok (.ifCond .lt 42, 3) := by decide +kernel
theorem dX7_put_7 : decode cX7_put 7 = .ok (.aload_n 0, 1) := by decide +kernel
theorem dX7_put_8 : decode cX7_put 8 = .ok (.getfield 19, 3) := by decide +kernel
theorem dX7_put_11 : decode cX7_put 11 = .ok (.sipush 500, 3) := by decide +kernel
theorem dX7_put_14 : decode cX7_put 14 = .ok (.if_icmp .ge 26, 3) := by decide +kernel
theorem dX7_put_17 : decode cX7_put 17 = .ok (.aload_n 0, 1) := by decide +kernel
theorem dX7_put_18 : decode cX7_put 18 = .ok (.getfield 9, 3) := by decide +kernel
theorem dX7_put_21 : decode cX7_put 21 = .ok (.aload_n 0, 1) := by decide +kernel
theorem dX7_put_22 : decode cX7_put 22 = .ok (.getfield 19, 3) := by decide +kernel
theorem dX7_put_25 : decode cX7_put 25 = .ok (.iload_n 1, 1) := by decide +kernel
theorem dX7_put_26 : decode cX7_put 26 = .ok (.iload_n 2, 1) := by decide +kernel
theorem dX7_put_27 : decode cX7_put 27 = .ok (.ishr, 1) := by decide +kernel
theorem dX7_put_28 : decode cX7_put 28 = .ok (.i2b, 1) := by decide +kernel
theorem dX7_put_29 : decode cX7_put 29 = .ok (.bastore, 1) := by decide +kernel
theorem dX7_put_30 : decode cX7_put 30 = .ok (.aload_n 0, 1) := by decide +kernel
theorem dX7_put_31 : decode cX7_put 31 = .ok (.dup, 1) := by decide +kernel
theorem dX7_put_32 : decode cX7_put 32 = .ok (.getfield 19, 3) := by decide +kernel
theorem dX7_put_35 : decode cX7_put 35 = .ok (.iconst 1, 1) := by decide +kernel
theorem dX7_put_36 : decode cX7_put 36 = .ok (.iadd, 1) := by decide +kernel
theorem dX7_put_37 : decode cX7_put 37 = .ok (.putfield 19, 3) := by decide +kernel
theorem dX7_put_40 : decode cX7_put 40 = .ok (.iinc 2 (-8), 3) := by decide +kernel
theorem dX7_put_43 : decode cX7_put 43 = .ok (.goto (-40), 3) := by decide +kernel
theorem dX7_put_46 : decode cX7_put 46 = .ok (.return_, 1) := by decide +kernel
theorem dX7_readCart_0 : decode cX7_readCart 0 = .ok (.aload_n 1, 1) := by decide +kernel
theorem dX7_readCart_1 : decode cX7_readCart 1 = .ok (.getfield 98, 3) := by decide +kernel
theorem dX7_readCart_4 : decode cX7_readCart 4 = .ok (.bipush 6, 2) := by decide +kernel
theorem dX7_readCart_6 : decode cX7_readCart 6 = .ok (.if_icmp .lt 9, 3) := by decide +kernel
theorem dX7_readCart_9 : decode cX7_readCart 9 = .ok (.aload_n 0, 1) := by decide +kernel
theorem dX7_readCart_10 : decode cX7_readCart 10 = .ok (.iconst 3, 1) := by decide +kernel
theorem dX7_readCart_11 : decode cX7_readCart 11 = .ok (.invokevirtual 63, 3) := by decide +kernel
theorem dX7_readCart_14 : decode cX7_readCart 14 = .ok (.return_, 1) := by decide +kernel
theorem dX7_readCart_15 : decode cX7_readCart 15 = .ok (.aload_n 0, 1) := by decide +kernel
theorem dX7_readCart_16 : decode cX7_readCart 16 = .ok (.invokevirtual 33, 3) := by decide +kernel
theorem dX7_readCart_19 : decode cX7_readCart 19 = .ok (.aload_n 0, 1) := by decide +kernel
theorem dX7_readCart_20 : decode cX7_readCart 20 = .ok (.aload_n 0, 1) := by decide +kernel
theorem dX7_readCart_21 : decode cX7_readCart 21 = .ok (.ldc 92, 2) := by decide +kernel
theorem dX7_readCart_23 : decode cX7_readCart 23 = .ok (.invokevirtual 51, 3) := by decide +kernel
theorem dX7_readCart_26 : decode cX7_readCart 26 = .ok (.invokevirtual 67, 3) := by decide +kernel
theorem dX7_readCart_29 : decode cX7_readCart 29 = .ok (.aload_n 1, 1) := by decide +kernel
theorem dX7_readCart_30 : decode cX7_readCart 30 = .ok (.getfield 101, 3) := by decide +kernel
theorem dX7_readCart_33 : decode cX7_readCart 33 = .ok (.aload_n 1, 1) := by decide +kernel
theorem dX7_readCart_34 : decode cX7_readCart 34 = .ok (.getfield 98, 3) := by decide +kernel
theorem dX7_readCart_37 : decode cX7_readCart 37 = .ok (.aload_n 0, 1) := by decide +kernel
theorem dX7_readCart_38 : decode cX7_readCart 38 = .ok (.iconst 1, 1) := by decide +kernel
theorem dX7_readCart_39 : decode cX7_readCart 39 = .ok (.bipush 20, 2) := by decide +kernel
theorem dX7_readCart_41 : decode cX7_readCart 41 = .ok (.invokevirtual 75, 3) := by decide +kernel
theorem dX7_readCart_44 : decode cX7_readCart 44 = .ok (.iastore, 1) := by decide +kernel
theorem dX7_readCart_45 : decode cX7_readCart 45 = .ok (.aload_n 0, 1) := by decide +kernel
theorem dX7_readCart_46 : decode cX7_readCart 46 = .ok (.aload_n 0, 1) := by decide +kernel
theorem dX7_readCart_47 : decode cX7_readCart 47 = .ok (.ldc 104, 2) := by decide +kernel
theorem dX7_readCart_49 : decode cX7_readCart 49 = .ok (.invokevirtual 51, 3) := by decide +kernel
theorem dX7_readCart_52 : decode cX7_readCart 52 = .ok (.invokevirtual 67, 3) := by decide +kernel
theorem dX7_readCart_55 : decode cX7_readCart 55 = .ok (.aload_n 1, 1) := by decide +kernel
theorem dX7_readCart_56 : decode cX7_readCart 56 = .ok (.getfield 106, 3) := by decide +kernel
theorem dX7_readCart_59 : decode cX7_readCart 59 = .ok (.aload_n 1, 1) := by decide +kernel
theorem dX7_readCart_60 : decode cX7_readCart 60 = .ok (.getfield 98, 3) := by decide +kernel
theorem dX7_readCart_63 : decode cX7_readCart 63 = .ok (.aload_n 0, 1) := by decide +kernel
theorem dX7_readCart_64 : decode cX7_readCart 64 = .ok (.iconst 0, 1) := by decide +kernel
theorem dX7_readCart_65 : decode cX7_readCart 65 = .ok (.bipush 15, 2) := by decide +kernel
theorem dX7_readCart_67 : decode cX7_readCart 67 = .ok (.invokevirtual 75, 3) := by decide +kernel
theorem dX7_readCart_70 : decode cX7_readCart 70 = .ok (.iastore, 1) := by decide +kernel
theorem dX7_readCart_71 : decode cX7_readCart 71 = .ok (.aload_n 1, 1) := by decide +kernel
theorem dX7_readCart_72 : decode cX7_readCart 72 = .ok (.dup, 1) := by decide +kernel
theorem dX7_readCart_73 : decode cX7_readCart 73 = .ok (.getfield 98, 3) := by decide +kernel
theorem dX7_readCart_76 : decode cX7_readCart 76 = .ok (.iconst 1, 1) := by decide +kernel
theorem dX7_readCart_77 : decode cX7_readCart 77 = .ok (.iadd, 1) := by decide +kernel
theorem dX7_readCart_78 : decode cX7_readCart 78 = .ok (.putfield 98, 3) := by decide +kernel
theorem dX7_readCart_81 : decode cX7_readCart 81 = .ok (.return_, 1) := by decide +kernel
theorem dX7_readFirst_0 : decode cX7_readFirst 0 = .ok (.aload_n 0, 1) := by decide +kernel
theorem dX7_readFirst_1 : decode cX7_readFirst 1 = .ok (.aload_n 0, 1) := by decide +kernel
theorem dX7_readFirst_2 : decode cX7_readFirst 2 = .ok (.ldc 71, 2) := by decide +kernel
theorem dX7_readFirst_4 : decode cX7_readFirst 4 = .ok (.invokevirtual 51, 3) := by decide +kernel
theorem dX7_readFirst_7 : decode cX7_readFirst 7 = .ok (.invokevirtual 67, 3) := by decide +kernel
theorem dX7_readFirst_10 : decode cX7_readFirst 10 = .ok (.aload_n 0, 1) := by decide +kernel
theorem dX7_readFirst_11 : decode cX7_readFirst 11 = .ok (.aload_n 0, 1) := by decide +kernel
theorem dX7_readFirst_12 : decode cX7_readFirst 12 = .ok (.ldc 73, 2) := by decide +kernel
theorem dX7_readFirst_14 : decode cX7_readFirst 14 = .ok (.invokevirtual 51, 3) := by decide +kernel
theorem dX7_readFirst_17 : decode cX7_readFirst 17 = .ok (.invokevirtual 67, 3) := by decide +kernel
theorem dX7_readFirst_20 : decode cX7_readFirst 20 = .ok (.aload_n 1, 1) := by decide +kernel
theorem dX7_readFirst_21 : decode cX7_readFirst 21 = .ok (.aload_n 0, 1) := by decide +kernel
theorem dX7_readFirst_22 : decode cX7_readFirst 22 = .ok (.iconst 1, 1) := by decide +kernel
theorem dX7_readFirst_23 : decode cX7_readFirst 23 = .ok (.bipush 16, 2) := by decide +kernel
theorem dX7_readFirst_25 : decode cX7_readFirst 25 = .ok (.invokevirtual 75, 3) := by decide +kernel
theorem dX7_readFirst_28 : decode cX7_readFirst 28 = .ok (.putfield 79, 3) := by decide +kernel
theorem dX7_readFirst_31 : decode cX7_readFirst 31 = .ok (.aload_n 0, 1) := by decide +kernel
theorem dX7_readFirst_32 : decode cX7_readFirst 32 = .ok (.aload_n 0, 1) := by decide +kernel
theorem dX7_readFirst_33 : decode cX7_readFirst 33 = .ok (.ldc 81, 2) := by decide +kernel
theorem dX7_readFirst_35 : decode cX7_readFirst 35 = .ok (.invokevirtual 51, 3) := by decide +kernel
theorem dX7_readFirst_38 : decode cX7_readFirst 38 = .ok (.invokevirtual 67, 3) := by decide +kernel
theorem dX7_readFirst_41 : decode cX7_readFirst 41 = .ok (.aload_n 1, 1) := by decide +kernel
theorem dX7_readFirst_42 : decode cX7_readFirst 42 = .ok (.aload_n 0, 1) := by decide +kernel
theorem dX7_readFirst_43 : decode cX7_readFirst 43 = .ok (.iconst 0, 1) := by decide +kernel
theorem dX7_readFirst_44 : decode cX7_readFirst 44 = .ok (.iconst 3, 1) := by decide +kernel
theorem dX7_readFirst_45 : decode cX7_readFirst 45 = .ok (.invokevirtual 75, 3) := by decide +kernel
theorem dX7_readFirst_48 : decode cX7_readFirst 48 = .ok (.putfield 83, 3) := by decide +kernel
theorem dX7_readFirst_51 : decode cX7_readFirst 51 = .ok (.aload_n 0, 1) := by decide +kernel
theorem dX7_readFirst_52 : decode cX7_readFirst 52 = .ok (.aload_n 0, 1) := by decide +kernel
theorem dX7_readFirst_53 : decode cX7_readFirst 53 = .ok (.ldc 85, 2) := by decide +kernel
theorem dX7_readFirst_55 : decode cX7_readFirst 55 = .ok (.invokevirtual 51, 3) := by decide +kernel
theorem dX7_readFirst_58 : decode cX7_readFirst 58 = .ok (.invokevirtual 67, 3) := by decide +kernel
theorem dX7_readFirst_61 : decode cX7_readFirst 61 = .ok (.aload_n 1, 1) := by decide +kernel
theorem dX7_readFirst_62 : decode cX7_readFirst 62 = .ok (.aload_n 0, 1) := by decide +kernel
theorem dX7_readFirst_63 : decode cX7_readFirst 63 = .ok (.iconst 0, 1) := by decide +kernel
theorem dX7_readFirst_64 : decode cX7_readFirst 64 = .ok (.bipush 10, 2) := by decide +kernel
theorem dX7_readFirst_66 : decode cX7_readFirst 66 = .ok (.invokevirtual 75, 3) := by decide +kernel
theorem dX7_readFirst_69 : decode cX7_readFirst 69 = .ok (.putfield 87, 3) := by decide +kernel
theorem dX7_readFirst_72 : decode cX7_readFirst 72 = .ok (.return_, 1) := by decide +kernel
theorem dX7_readHeap_0 : decode cX7_readHeap 0 = .ok (.aload_n 1, 1) := by decide +kernel
theorem dX7_readHeap_1 : decode cX7_readHeap 1 = .ok (.getfield 89, 3) := by decide +kernel
theorem dX7_readHeap_4 : decode cX7_readHeap 4 = .ok (.bipush 8, 2) := by decide +kernel
theorem dX7_readHeap_6 : decode cX7_readHeap 6 = .ok (.if_icmp .lt 9, 3) := by decide +kernel
theorem dX7_readHeap_9 : decode cX7_readHeap 9 = .ok (.aload_n 0, 1) := by decide +kernel
theorem dX7_readHeap_10 : decode cX7_readHeap 10 = .ok (.iconst 3, 1) := by decide +kernel
theorem dX7_readHeap_11 : decode cX7_readHeap 11 = .ok (.invokevirtual 63, 3) := by decide +kernel
theorem dX7_readHeap_14 : decode cX7_readHeap 14 = .ok (.return_, 1) := by decide +kernel
theorem dX7_readHeap_15 : decode cX7_readHeap 15 = .ok (.aload_n 0, 1) := by decide +kernel
theorem dX7_readHeap_16 : decode cX7_readHeap 16 = .ok (.invokevirtual 33, 3) := by decide +kernel
theorem dX7_readHeap_19 : decode cX7_readHeap 19 = .ok (.aload_n 0, 1) := by decide +kernel
theorem dX7_readHeap_20 : decode cX7_readHeap 20 = .ok (.aload_n 0, 1) := by decide +kernel
theorem dX7_readHeap_21 : decode cX7_readHeap 21 = .ok (.ldc 92, 2) := by decide +kernel
theorem dX7_readHeap_23 : decode cX7_readHeap 23 = .ok (.invokevirtual 51, 3) := by decide +kernel
theorem dX7_readHeap_26 : decode cX7_readHeap 26 = .ok (.invokevirtual 67, 3) := by decide +kernel
theorem dX7_readHeap_29 : decode cX7_readHeap 29 = .ok (.aload_n 1, 1) := by decide +kernel
theorem dX7_readHeap_30 : decode cX7_readHeap 30 = .ok (.getfield 94, 3) := by decide +kernel
theorem dX7_readHeap_33 : decode cX7_readHeap 33 = .ok (.aload_n 1, 1) := by decide +kernel
theorem dX7_readHeap_34 : decode cX7_readHeap 34 = .ok (.getfield 89, 3) := by decide +kernel
theorem dX7_readHeap_37 : decode cX7_readHeap 37 = .ok (.aload_n 0, 1) := by decide +kernel
theorem dX7_readHeap_38 : decode cX7_readHeap 38 = .ok (.iconst 1, 1) := by decide +kernel
theorem dX7_readHeap_39 : decode cX7_readHeap 39 = .ok (.bipush 20, 2) := by decide +kernel
theorem dX7_readHeap_41 : decode cX7_readHeap 41 = .ok (.invokevirtual 75, 3) := by decide +kernel
theorem dX7_readHeap_44 : decode cX7_readHeap 44 = .ok (.iastore, 1) := by decide +kernel
theorem dX7_readHeap_45 : decode cX7_readHeap 45 = .ok (.aload_n 1, 1) := by decide +kernel
theorem dX7_readHeap_46 : decode cX7_readHeap 46 = .ok (.dup, 1) := by decide +kernel
theorem dX7_readHeap_47 : decode cX7_readHeap 47 = .ok (.getfield 89, 3) := by decide +kernel
theorem dX7_readHeap_50 : decode cX7_readHeap 50 = .ok (.iconst 1, 1) := by decide +kernel
theorem dX7_readHeap_51 : decode cX7_readHeap 51 = .ok (.iadd, 1) := by decide +kernel
theorem dX7_readHeap_52 : decode cX7_readHeap 52 = .ok (.putfield 89, 3) := by decide +kernel
theorem dX7_readHeap_55 : decode cX7_readHeap 55 = .ok (.return_, 1) := by decide +kernel
theorem dX7_readInto_0 : decode cX7_readInto 0 = .ok (.aload_n 1, 1) := by decide +kernel
theorem dX7_readInto_1 : decode cX7_readInto 1 = .ok (.invokevirtual 22, 3) := by decide +kernel
theorem dX7_readInto_4 : decode cX7_readInto 4 = .ok (.aload_n 0, 1) := by decide +kernel
theorem dX7_readInto_5 : decode cX7_readInto 5 = .ok (.iconst 0, 1) := by decide +kernel
theorem dX7_readInto_6 : decode cX7_readInto 6 = .ok (.putfield 27, 3) := by decide +kernel
theorem dX7_readInto_9 : decode cX7_readInto 9 = .ok (.aload_n 0, 1) := by decide +kernel
theorem dX7_readInto_10 : decode cX7_readInto 10 = .ok (.iconst (-1), 1) := by decide +kernel
theorem dX7_readInto_11 : decode cX7_readInto 11 = .ok (.putfield 15, 3) := by decide +kernel
theorem dX7_readInto_14 : decode cX7_readInto 14 = .ok (.aload_n 0, 1) := by decide +kernel
theorem dX7_readInto_15 : decode cX7_readInto 15 = .ok (.iconst 0, 1) := by decide +kernel
theorem dX7_readInto_16 : decode cX7_readInto 16 = .ok (.putfield 30, 3) := by decide +kernel
theorem dX7_readInto_19 : decode cX7_readInto 19 = .ok (.aload_n 0, 1) := by decide +kernel
theorem dX7_readInto_20 : decode cX7_readInto 20 = .ok (.invokevirtual 33, 3) := by decide +kernel
theorem dX7_readInto_23 : decode cX7_readInto 23 = .ok (.iconst 0, 1) := by decide +kernel
theorem dX7_readInto_24 : decode cX7_readInto 24 = .ok (.istore_n 2, 1) := by decide +kernel
theorem dX7_readInto_25 : decode cX7_readInto 25 = .ok (.iload_n 2, 1) := by decide +kernel
theorem dX7_readInto_26 : decode cX7_readInto 26 = .ok (.sipush 500, 3) := by decide +kernel
theorem dX7_readInto_29 : decode cX7_readInto 29 = .ok (.if_icmp .ge 28, 3) := by decide +kernel
theorem dX7_readInto_32 : decode cX7_readInto 32 = .ok (.aload_n 0, 1) := by decide +kernel
theorem dX7_readInto_33 : decode cX7_readInto 33 = .ok (.getfield 36, 3) := by decide +kernel
theorem dX7_readInto_36 : decode cX7_readInto 36 = .ok (.ifCond .eq 21, 3) := by decide +kernel
theorem dX7_readInto_39 : decode cX7_readInto 39 = .ok (.aload_n 0, 1) := by decide +kernel
theorem dX7_readInto_40 : decode cX7_readInto 40 = .ok (.getfield 27, 3) := by decide +kernel
theorem dX7_readInto_43 : decode cX7_readInto 43 = .ok (.ifCond .ne 14, 3) := by decide +kernel
theorem dX7_readInto_46 : decode cX7_readInto 46 = .ok (.aload_n 0, 1) := by decide +kernel
theorem dX7_readInto_47 : decode cX7_readInto 47 = .ok (.aload_n 1, 1) := by decide +kernel
theorem dX7_readInto_48 : decode cX7_readInto 48 = .ok (.invokevirtual 39, 3) := by decide +kernel
theorem dX7_readInto_51 : decode cX7_readInto 51 = .ok (.iinc 2 1, 3) := by decide +kernel
theorem dX7_readInto_54 : decode cX7_readInto 54 = .ok (.goto (-29), 3) := by decide +kernel
theorem dX7_readInto_57 : decode cX7_readInto 57 = .ok (.aload_n 0, 1) := by decide +kernel
theorem dX7_readInto_58 : decode cX7_readInto 58 = .ok (.getfield 27, 3) := by decide +kernel
theorem dX7_readInto_61 : decode cX7_readInto 61 = .ok (.ifCond .ne 7, 3) := by decide +kernel
theorem dX7_readInto_64 : decode cX7_readInto 64 = .ok (.iconst 1, 1) := by decide +kernel
theorem dX7_readInto_65 : decode cX7_readInto 65 = .ok (.goto 4, 3) := by decide +kernel
theorem dX7_readInto_68 : decode cX7_readInto 68 = .ok (.iconst 0, 1) := by decide +kernel
theorem dX7_readInto_69 : decode cX7_readInto 69 = .ok (.ireturn, 1) := by decide +kernel
theorem dX7_readLine_0 : decode cX7_readLine 0 = .ok (.aload_n 1, 1) := by decide +kernel
theorem dX7_readLine_1 : decode cX7_readLine 1 = .ok (.getfield 43, 3) := by decide +kernel
theorem dX7_readLine_4 : decode cX7_readLine 4 = .ok (.ifCond .ne 11, 3) := by decide +kernel
theorem dX7_readLine_7 : decode cX7_readLine 7 = .ok (.aload_n 0, 1) := by decide +kernel
theorem dX7_readLine_8 : decode cX7_readLine 8 = .ok (.aload_n 1, 1) := by decide +kernel
theorem dX7_readLine_9 : decode cX7_readLine 9 = .ok (.invokevirtual 46, 3) := by decide +kernel
theorem dX7_readLine_12 : decode cX7_readLine 12 = .ok (.goto 42, 3) := by decide +kernel
theorem dX7_readLine_15 : decode cX7_readLine 15 = .ok (.aload_n 0, 1) := by decide +kernel
theorem dX7_readLine_16 : decode cX7_readLine 16 = .ok (.ldc 49, 2) := by decide +kernel
theorem dX7_readLine_18 : decode cX7_readLine 18 = .ok (.invokevirtual 51, 3) := by decide +kernel
theorem dX7_readLine_21 : decode cX7_readLine 21 = .ok (.ifCond .eq 11, 3) := by decide +kernel
theorem dX7_readLine_24 : decode cX7_readLine 24 = .ok (.aload_n 0, 1) := by decide +kernel
theorem dX7_readLine_25 : decode cX7_readLine 25 = .ok (.aload_n 1, 1) := by decide +kernel
theorem dX7_readLine_26 : decode cX7_readLine 26 = .ok (.invokevirtual 55, 3) := by decide +kernel
theorem dX7_readLine_29 : decode cX7_readLine 29 = .ok (.goto 25, 3) := by decide +kernel
theorem dX7_readLine_32 : decode cX7_readLine 32 = .ok (.aload_n 0, 1) := by decide +kernel
theorem dX7_readLine_33 : decode cX7_readLine 33 = .ok (.ldc 58, 2) := by decide +kernel
theorem dX7_readLine_35 : decode cX7_readLine 35 = .ok (.invokevirtual 51, 3) := by decide +kernel
theorem dX7_readLine_38 : decode cX7_readLine 38 = .ok (.ifCond .eq 11, 3) := by decide +kernel
theorem dX7_readLine_41 : decode cX7_readLine 41 = .ok (.aload_n 0, 1) := by decide +kernel
theorem dX7_readLine_42 : decode cX7_readLine 42 = .ok (.aload_n 1, 1) := by decide +kernel
theorem dX7_readLine_43 : decode cX7_readLine 43 = .ok (.invokevirtual 60, 3) := by decide +kernel
theorem dX7_readLine_46 : decode cX7_readLine 46 = .ok (.goto 8, 3) := by decide +kernel
theorem dX7_readLine_49 : decode cX7_readLine 49 = .ok (.aload_n 0, 1) := by decide +kernel
theorem dX7_readLine_50 : decode cX7_readLine 50 = .ok (.iconst 1, 1) := by decide +kernel
theorem dX7_readLine_51 : decode cX7_readLine 51 = .ok (.invokevirtual 63, 3) := by decide +kernel
theorem dX7_readLine_54 : decode cX7_readLine 54 = .ok (.aload_n 0, 1) := by decide +kernel
theorem dX7_readLine_55 : decode cX7_readLine 55 = .ok (.aload_n 0, 1) := by decide +kernel
theorem dX7_readLine_56 : decode cX7_readLine 56 = .ok (.getfield 36, 3) := by decide +kernel
theorem dX7_readLine_59 : decode cX7_readLine 59 = .ok (.iconst 3, 1) := by decide +kernel
theorem dX7_readLine_60 : decode cX7_readLine 60 = .ok (.if_icmp .ne 7, 3) := by decide +kernel
theorem dX7_readLine_63 : decode cX7_readLine 63 = .ok (.iconst 1, 1) := by decide +kernel
theorem dX7_readLine_64 : decode cX7_readLine 64 = .ok (.goto 4, 3) := by decide +kernel
theorem dX7_readLine_67 : decode cX7_readLine 67 = .ok (.iconst 0, 1) := by decide +kernel
theorem dX7_readLine_68 : decode cX7_readLine 68 = .ok (.invokevirtual 67, 3) := by decide +kernel
theorem dX7_readLine_71 : decode cX7_readLine 71 = .ok (.aload_n 1, 1) := by decide +kernel
theorem dX7_readLine_72 : decode cX7_readLine 72 = .ok (.dup, 1) := by decide +kernel
theorem dX7_readLine_73 : decode cX7_readLine 73 = .ok (.getfield 43, 3) := by decide +kernel
theorem dX7_readLine_76 : decode cX7_readLine 76 = .ok (.iconst 1, 1) := by decide +kernel
theorem dX7_readLine_77 : decode cX7_readLine 77 = .ok (.iadd, 1) := by decide +kernel
theorem dX7_readLine_78 : decode cX7_readLine 78 = .ok (.putfield 43, 3) := by decide +kernel
theorem dX7_readLine_81 : decode cX7_readLine 81 = .ok (.return_, 1) := by decide +kernel
theorem dX8_above_0 : decode cX8_above 0 = .ok (.aload_n 0, 1) := by decide +kernel
theorem dX8_above_1 : decode cX8_above 1 = .ok (.iload_n 1, 1) := by decide +kernel
theorem dX8_above_2 : decode cX8_above 2 = .ok (.invokevirtual 132, 3) := by decide +kernel
theorem dX8_above_5 : decode cX8_above 5 = .ok (.ifCond .eq 11, 3) := by decide +kernel
theorem dX8_above_8 : decode cX8_above 8 = .ok (.aload_n 0, 1) := by decide +kernel
theorem dX8_above_9 : decode cX8_above 9 = .ok (.iload_n 2, 1) := by decide +kernel
theorem dX8_above_10 : decode cX8_above 10 = .ok (.invokevirtual 132, 3) := by decide +kernel
theorem dX8_above_13 : decode cX8_above 13 = .ok (.ifCond .ne 6, 3) := by decide +kernel
theorem dX8_above_16 : decode cX8_above 16 = .ok (.bipush (-2), 2) := by decide +kernel
theorem dX8_above_18 : decode cX8_above 18 = .ok (.ireturn, 1) := by decide +kernel
theorem dX8_above_19 : decode cX8_above 19 = .ok (.aload_n 0, 1) := by decide +kernel
theorem dX8_above_20 : decode cX8_above 20 = .ok (.iload_n 1, 1) := by decide +kernel
theorem dX8_above_21 : decode cX8_above 21 = .ok (.invokevirtual 135, 3) := by decide +kernel
theorem dX8_above_24 : decode cX8_above 24 = .ok (.aload_n 0, 1) := by decide +kernel
theorem dX8_above_25 : decode cX8_above 25 = .ok (.iload_n 2, 1) := by decide +kernel
theorem dX8_above_26 : decode cX8_above 26 = .ok (.invokevirtual 135, 3) := by decide +kernel
theorem dX8_above_29 : decode cX8_above 29 = .ok (.invokevirtual 213, 3) := by decide +kernel
theorem dX8_above_32 : decode cX8_above 32 = .ok (.ireturn, 1) := by decide +kernel
theorem dX8_act_0 : decode cX8_act 0 = .ok (.aload_n 0, 1) := by decide +kernel
theorem dX8_act_1 : decode cX8_act 1 = .ok (.getfield 19, 3) := by decide +kernel
theorem dX8_act_4 : decode cX8_act 4 = .ok (.getfield 358, 3) := by decide +kernel
theorem dX8_act_7 : decode cX8_act 7 = .ok (.bipush 20, 2) := by decide +kernel
theorem dX8_act_9 : decode cX8_act 9 = .ok (.if_icmp .lt 6, 3) := by decide +kernel
theorem dX8_act_12 : decode cX8_act 12 = .ok (.bipush (-5), 2) := by decide +kernel
theorem dX8_act_14 : decode cX8_act 14 = .ok (.ireturn, 1) := by decide +kernel
theorem dX8_act_15 : decode cX8_act 15 = .ok (.aload_n 0, 1) := by decide +kernel
theorem dX8_act_16 : decode cX8_act 16 = .ok (.getfield 19, 3) := by decide +kernel
theorem dX8_act_19 : decode cX8_act 19 = .ok (.getfield 452, 3) := by decide +kernel
theorem dX8_act_22 : decode cX8_act 22 = .ok (.aload_n 0, 1) := by decide +kernel
theorem dX8_act_23 : decode cX8_act 23 = .ok (.getfield 19, 3) := by decide +kernel
theorem dX8_act_26 : decode cX8_act 26 = .ok (.getfield 358, 3) := by decide +kernel
theorem dX8_act_29 : decode cX8_act 29 = .ok (.iload_n 1, 1) := by decide +kernel
theorem dX8_act_30 : decode cX8_act 30 = .ok (.iastore, 1) := by decide +kernel
theorem dX8_act_31 : decode cX8_act 31 = .ok (.aload_n 0, 1) := by decide +kernel
theorem dX8_act_32 : decode cX8_act 32 = .ok (.getfield 19, 3) := by decide +kernel
theorem dX8_act_35 : decode cX8_act 35 = .ok (.getfield 455, 3) := by decide +kernel
theorem dX8_act_38 : decode cX8_act 38 = .ok (.aload_n 0, 1) := by decide +kernel
theorem dX8_act_39 : decode cX8_act 39 = .ok (.getfield 19, 3) := by decide +kernel
theorem dX8_act_42 : decode cX8_act 42 = .ok (.getfield 358, 3) := by decide +kernel
theorem dX8_act_45 : decode cX8_act 45 = .ok (.iload_n 2, 1) := by decide +kernel
theorem dX8_act_46 : decode cX8_act 46 = .ok (.iastore, 1) := by decide +kernel
theorem dX8_act_47 : decode cX8_act 47 = .ok (.aload_n 0, 1) := by decide +kernel
theorem dX8_act_48 : decode cX8_act 48 = .ok (.getfield 19, 3) := by decide +kernel
theorem dX8_act_51 : decode cX8_act 51 = .ok (.dup, 1) := by decide +kernel
theorem dX8_act_52 : decode cX8_act 52 = .ok (.getfield 358, 3) := by decide +kernel
theorem dX8_act_55 : decode cX8_act 55 = .ok (.iconst 1, 1) := by decide +kernel
theorem dX8_act_56 : decode cX8_act 56 = .ok (.iadd, 1) := by decide +kernel
theorem dX8_act_57 : decode cX8_act 57 = .ok (.putfield 358, 3) := by decide +kernel
theorem dX8_act_60 : decode cX8_act 60 = .ok (.aload_n 0, 1) := by decide +kernel
theorem dX8_act_61 : decode cX8_act 61 = .ok (.invokevirtual 101, 3) := by decide +kernel
theorem dX8_act_64 : decode cX8_act 64 = .ok (.aload_n 0, 1) := by decide +kernel
theorem dX8_act_65 : decode cX8_act 65 = .ok (.aload_n 0, 1) := by decide +kernel
theorem dX8_act_66 : decode cX8_act 66 = .ok (.getfield 19, 3) := by decide +kernel
theorem dX8_act_69 : decode cX8_act 69 = .ok (.getfield 181, 3) := by decide +kernel
theorem dX8_act_72 : decode cX8_act 72 = .ok (.invokevirtual 135, 3) := by decide +kernel
theorem dX8_act_75 : decode cX8_act 75 = .ok (.getfield 139, 3) := by decide +kernel
theorem dX8_act_78 : decode cX8_act 78 = .ok (.ireturn, 1) := by decide +kernel
theorem dX8_ahead_0 : decode cX8_ahead 0 = .ok (.aload_n 0, 1) := by decide +kernel
theorem dX8_ahead_1 : decode cX8_ahead 1 = .ok (.iload_n 1, 1) := by decide +kernel
theorem dX8_ahead_2 : decode cX8_ahead 2 = .ok (.invokevirtual 259, 3) := by decide +kernel
theorem dX8_ahead_5 : decode cX8_ahead 5 = .ok (.istore_n 2, 1) := by decide +kernel
theorem dX8_ahead_6 : decode cX8_ahead 6 = .ok (.iload_n 2, 1) := by decide +kernel
theorem dX8_ahead_7 : decode cX8_ahead 7 = .ok (.ifCond .eq 5, 3) := by decide +kernel
theorem dX8_ahead_10 : decode cX8_ahead 10 = .ok (.iload_n 2, 1) := by decide +kernel
theorem dX8_ahead_11 : decode cX8_ahead 11 = .ok (.ireturn, 1) := by decide +kernel
theorem dX8_ahead_12 : decode cX8_ahead 12 = .ok (.aload_n 0, 1) := by decide +kernel
theorem dX8_ahead_13 : decode cX8_ahead 13 = .ok (.aload_n 0, 1) := by decide +kernel
theorem dX8_ahead_14 : decode cX8_ahead 14 = .ok (.getfield 70, 3) := by decide +kernel
theorem dX8_ahead_17 : decode cX8_ahead 17 = .ok (.getfield 146, 3) := by decide +kernel
theorem dX8_ahead_20 : decode cX8_ahead 20 = .ok (.invokevirtual 242, 3) := by decide +kernel
theorem dX8_ahead_23 : decode cX8_ahead 23 = .ok (.aload_n 0, 1) := by decide +kernel
theorem dX8_ahead_24 : decode cX8_ahead 24 = .ok (.getfield 70, 3) := by decide +kernel
theorem dX8_ahead_27 : decode cX8_ahead 27 = .ok (.invokevirtual 262, 3) := by decide +kernel
theorem dX8_ahead_30 : decode cX8_ahead 30 = .ok (.ireturn, 1) := by decide +kernel
theorem dX8_all_0 : decode cX8_all 0 = .ok (.aload_n 0, 1) := by decide +kernel
theorem dX8_all_1 : decode cX8_all 1 = .ok (.iload_n 1, 1) := by decide +kernel
theorem dX8_all_2 : decode cX8_all 2 = .ok (.invokevirtual 132, 3) := by decide +kernel
theorem dX8_all_5 : decode cX8_all 5 = .ok (.ifCond .eq 14, 3) := by decide +kernel
theorem dX8_all_8 : decode cX8_all 8 = .ok (.aload_n 0, 1) := by decide +kernel
theorem dX8_all_9 : decode cX8_all 9 = .ok (.iload_n 1, 1) := by decide +kernel
theorem dX8_all_10 : decode cX8_all 10 = .ok (.invokevirtual 135, 3) := by decide +kernel
theorem dX8_all_13 : decode cX8_all 13 = .ok (.getfield 146, 3) := by decide +kernel
theorem dX8_all_16 : decode cX8_all 16 = .ok (.goto 5, 3) := by decide +kernel
theorem dX8_all_19 : decode cX8_all 19 = .ok (.bipush (-2), 2) := by decide +kernel
theorem dX8_all_21 : decode cX8_all 21 = .ok (.ireturn, 1) := by decide +kernel
theorem dX8_anew_0 : decode cX8_anew 0 = .ok (.aload_n 0, 1) := by decide +kernel
theorem dX8_anew_1 : decode cX8_anew 1 = .ok (.invokevirtual 177, 3) := by decide +kernel
theorem dX8_anew_4 : decode cX8_anew 4 = .ok (.ifCond .eq 6, 3) := by decide +kernel
theorem dX8_anew_7 : decode cX8_anew 7 = .ok (.bipush (-2), 2) := by decide +kernel
theorem dX8_anew_9 : decode cX8_anew 9 = .ok (.ireturn, 1) := by decide +kernel
theorem dX8_anew_10 : decode cX8_anew 10 = .ok (.aload_n 0, 1) := by decide +kernel
theorem dX8_anew_11 : decode cX8_anew 11 = .ok (.getfield 19, 3) := by decide +kernel
theorem dX8_anew_14 : decode cX8_anew 14 = .ok (.getfield 358, 3) := by decide +kernel
theorem dX8_anew_17 : decode cX8_anew 17 = .ok (.istore_n 1, 1) := by decide +kernel
theorem dX8_anew_18 : decode cX8_anew 18 = .ok (.aload_n 0, 1) := by decide +kernel
theorem dX8_anew_19 : decode cX8_anew 19 = .ok (.getfield 19, 3) := by decide +kernel
theorem dX8_anew_22 : decode cX8_anew 22 = .ok (.iconst 0, 1) := by decide +kernel
theorem dX8_anew_23 : decode cX8_anew 23 = .ok (.putfield 358, 3) := by decide +kernel
theorem dX8_anew_26 : decode cX8_anew 26 = .ok (.aload_n 0, 1) := by decide +kernel
theorem dX8_anew_27 : decode cX8_anew 27 = .ok (.invokevirtual 101, 3) := by decide +kernel
theorem dX8_anew_30 : decode cX8_anew 30 = .ok (.iload_n 1, 1) := by decide +kernel
theorem dX8_anew_31 : decode cX8_anew 31 = .ok (.ireturn, 1) := by decide +kernel
theorem dX8_asNumber_0 : decode cX8_asNumber 0 = .ok (.iload_n 0, 1) := by decide +kernel
theorem dX8_asNumber_1 : decode cX8_asNumber 1 = .ok (.ifCond .eq 7, 3) := by decide +kernel
theorem dX8_asNumber_4 : decode cX8_asNumber 4 = .ok (.iconst 1, 1) := by decide +kernel
theorem dX8_asNumber_5 : decode cX8_asNumber 5 = .ok (.goto 4, 3) := by decide +kernel
theorem dX8_asNumber_8 : decode cX8_asNumber 8 = .ok (.iconst 0, 1) := by decide +kernel
theorem dX8_asNumber_9 : decode cX8_asNumber 9 = .ok (.ireturn, 1) := by decide +kernel
theorem dX8_ask_0 : decode cX8_ask 0 = .ok (.aload_n 0, 1) := by decide +kernel
theorem dX8_ask_1 : decode cX8_ask 1 = .ok (.iload_n 1, 1) := by decide +kernel
theorem dX8_ask_2 : decode cX8_ask 2 = .ok (.aload_n 0, 1) := by decide +kernel
theorem dX8_ask_3 : decode cX8_ask 3 = .ok (.iload_n 2, 1) := by decide +kernel
theorem dX8_ask_4 : decode cX8_ask 4 = .ok (.invokevirtual 113, 3) := by decide +kernel
theorem dX8_ask_7 : decode cX8_ask 7 = .ok (.invokevirtual 284, 3) := by decide +kernel
theorem dX8_ask_10 : decode cX8_ask 10 = .ok (.istore_n 3, 1) := by decide +kernel
theorem dX8_ask_11 : decode cX8_ask 11 = .ok (.iload_n 3, 1) := by decide +kernel
theorem dX8_ask_12 : decode cX8_ask 12 = .ok (.ifCond .eq 7, 3) := by decide +kernel
theorem dX8_ask_15 : decode cX8_ask 15 = .ok (.iload_n 3, 1) := by decide +kernel
theorem dX8_ask_16 : decode cX8_ask 16 = .ok (.goto 19, 3) := by decide +kernel
theorem dX8_ask_19 : decode cX8_ask 19 = .ok (.aload_n 0, 1) := by decide +kernel
theorem dX8_ask_20 : decode cX8_ask 20 = .ok (.iload_n 1, 1) := by decide +kernel
theorem dX8_ask_21 : decode cX8_ask 21 = .ok (.iload_n 2, 1) := by decide +kernel
theorem dX8_ask_22 : decode cX8_ask 22 = .ok (.invokevirtual 288, 3) := by decide +kernel
theorem dX8_ask_25 : decode cX8_ask 25 = .ok (.aload_n 0, 1) := by decide +kernel
theorem dX8_ask_26 : decode cX8_ask 26 = .ok (.getfield 19, 3) := by decide +kernel
theorem dX8_ask_29 : decode cX8_ask 29 = .ok (.getfield 181, 3) := by decide +kernel
theorem dX8_ask_32 : decode cX8_ask 32 = .ok (.invokevirtual 297, 3) := by decide +kernel
theorem dX8_ask_35 : decode cX8_ask 35 = .ok (.ireturn, 1) := by decide +kernel
theorem dX8_away_0 : decode cX8_away 0 = .ok (.aload_n 0, 1) := by decide +kernel
theorem dX8_away_1 : decode cX8_away 1 = .ok (.iload_n 1, 1) := by decide +kernel
theorem dX8_away_2 : decode cX8_away 2 = .ok (.invokevirtual 132, 3) := by decide +kernel
theorem dX8_away_5 : decode cX8_away 5 = .ok (.ifCond .eq 12, 3) := by decide +kernel
theorem dX8_away_8 : decode cX8_away 8 = .ok (.aload_n 0, 1) := by decide +kernel
theorem dX8_away_9 : decode cX8_away 9 = .ok (.iload_n 1, 1) := by decide +kernel
theorem dX8_away_10 : decode cX8_away 10 = .ok (.iconst 0, 1) := by decide +kernel
theorem dX8_away_11 : decode cX8_away 11 = .ok (.invokevirtual 355, 3) := by decide +kernel
theorem dX8_away_14 : decode cX8_away 14 = .ok (.goto 5, 3) := by decide +kernel
theorem dX8_away_17 : decode cX8_away 17 = .ok (.bipush (-2), 2) := by decide +kernel
theorem dX8_away_19 : decode cX8_away 19 = .ok (.ireturn, 1) := by decide +kernel
theorem dX8_back_0 : decode cX8_back 0 = .ok (.iload_n 1, 1) := by decide +kernel
theorem dX8_back_1 : decode cX8_back 1 = .ok (.ifCond .lt 8, 3) := by decide +kernel
theorem dX8_back_4 : decode cX8_back 4 = .ok (.iload_n 1, 1) := by decide +kernel
theorem dX8_back_5 : decode cX8_back 5 = .ok (.iconst 3, 1) := by decide +kernel
theorem dX8_back_6 : decode cX8_back 6 = .ok (.if_icmp .lt 6, 3) := by decide +kernel
theorem dX8_back_9 : decode cX8_back 9 = .ok (.bipush (-2), 2) := by decide +kernel
theorem dX8_back_11 : decode cX8_back 11 = .ok (.ireturn, 1) := by decide +kernel
theorem dX8_back_12 : decode cX8_back 12 = .ok (.aload_n 0, 1) := by decide +kernel
theorem dX8_back_13 : decode cX8_back 13 = .ok (.getfield 26, 3) := by decide +kernel
theorem dX8_back_16 : decode cX8_back 16 = .ok (.iload_n 1, 1) := by decide +kernel
theorem dX8_back_17 : decode cX8_back 17 = .ok (.aaload, 1) := by decide +kernel
theorem dX8_back_18 : decode cX8_back 18 = .ok (.getfield 378, 3) := by decide +kernel
theorem dX8_back_21 : decode cX8_back 21 = .ok (.ifCond .ne 6, 3) := by decide +kernel
theorem dX8_back_24 : decode cX8_back 24 = .ok (.bipush (-6), 2) := by decide +kernel
theorem dX8_back_26 : decode cX8_back 26 = .ok (.ireturn, 1) := by decide +kernel
theorem dX8_back_27 : decode cX8_back 27 = .ok (.aload_n 0, 1) := by decide +kernel
theorem dX8_back_28 : decode cX8_back 28 = .ok (.getfield 19, 3) := by decide +kernel
theorem dX8_back_31 : decode cX8_back 31 = .ok (.aload_n 0, 1) := by decide +kernel
theorem dX8_back_32 : decode cX8_back 32 = .ok (.getfield 26, 3) := by decide +kernel
theorem dX8_back_35 : decode cX8_back 35 = .ok (.iload_n 1, 1) := by decide +kernel
theorem dX8_back_36 : decode cX8_back 36 = .ok (.aaload, 1) := by decide +kernel
theorem dX8_back_37 : decode cX8_back 37 = .ok (.invokevirtual 97, 3) := by decide +kernel
theorem dX8_back_40 : decode cX8_back 40 = .ok (.aload_n 0, 1) := by decide +kernel
theorem dX8_back_41 : decode cX8_back 41 = .ok (.invokevirtual 101, 3) := by decide +kernel
theorem dX8_back_44 : decode cX8_back 44 = .ok (.iconst 0, 1) := by decide +kernel
theorem dX8_back_45 : decode cX8_back 45 = .ok (.ireturn, 1) := by decide +kernel
theorem dX8_bring_0 : decode cX8_bring 0 = .ok (.aload_n 0, 1) := by decide +kernel
theorem dX8_bring_1 : decode cX8_bring 1 = .ok (.iload_n 1, 1) := by decide +kernel
theorem dX8_bring_2 : decode cX8_bring 2 = .ok (.invokevirtual 165, 3) := by decide +kernel
theorem dX8_bring_5 : decode cX8_bring 5 = .ok (.ifCond .eq 13, 3) := by decide +kernel
theorem dX8_bring_8 : decode cX8_bring 8 = .ok (.iload_n 2, 1) := by decide +kernel
theorem dX8_bring_9 : decode cX8_bring 9 = .ok (.ifCond .lt 9, 3) := by decide +kernel
theorem dX8_bring_12 : decode cX8_bring 12 = .ok (.iload_n 2, 1) := by decide +kernel
theorem dX8_bring_13 : decode cX8_bring 13 = .ok (.bipush 30, 2) := by decide +kernel
theorem dX8_bring_15 : decode cX8_bring 15 = .ok (.if_icmp .le 6, 3) := by decide +kernel
theorem dX8_bring_18 : decode cX8_bring 18 = .ok (.bipush (-2), 2) := by decide +kernel
theorem dX8_bring_20 : decode cX8_bring 20 = .ok (.ireturn, 1) := by decide +kernel
theorem dX8_bring_21 : decode cX8_bring 21 = .ok (.aload_n 0, 1) := by decide +kernel
theorem dX8_bring_22 : decode cX8_bring 22 = .ok (.invokevirtual 272, 3) := by decide +kernel
theorem dX8_bring_25 : decode cX8_bring 25 = .ok (.iload_n 2, 1) := by decide +kernel
theorem dX8_bring_26 : decode cX8_bring 26 = .ok (.if_icmp .lt 5, 3) := by decide +kernel
theorem dX8_bring_29 : decode cX8_bring 29 = .ok (.iconst 0, 1) := by decide +kernel
theorem dX8_bring_30 : decode cX8_bring 30 = .ok (.ireturn, 1) := by decide +kernel
theorem dX8_bring_31 : decode cX8_bring 31 = .ok (.iconst 1, 1) := by decide +kernel
theorem dX8_bring_32 : decode cX8_bring 32 = .ok (.istore_n 3, 1) := by decide +kernel
theorem dX8_bring_33 : decode cX8_bring 33 = .ok (.iload_n 3, 1) := by decide +kernel
theorem dX8_bring_34 : decode cX8_bring 34 = .ok (.bipush 20, 2) := by decide +kernel
theorem dX8_bring_36 : decode cX8_bring 36 = .ok (.if_icmp .gt 21, 3) := by decide +kernel
theorem dX8_bring_39 : decode cX8_bring 39 = .ok (.aload_n 0, 1) := by decide +kernel
theorem dX8_bring_40 : decode cX8_bring 40 = .ok (.iload_n 1, 1) := by decide +kernel
theorem dX8_bring_41 : decode cX8_bring 41 = .ok (.iload_n 3, 1) := by decide +kernel
theorem dX8_bring_42 : decode cX8_bring 42 = .ok (.invokevirtual 275, 3) := by decide +kernel
theorem dX8_bring_45 : decode cX8_bring 45 = .ok (.iload_n 2, 1) := by decide +kernel
theorem dX8_bring_46 : decode cX8_bring 46 = .ok (.if_icmp .lt 5, 3) := by decide +kernel
theorem dX8_bring_49 : decode cX8_bring 49 = .ok (.iload_n 3, 1) := by decide +kernel
theorem dX8_bring_50 : decode cX8_bring 50 = .ok (.ireturn, 1) := by decide +kernel
theorem dX8_bring_51 : decode cX8_bring 51 = .ok (.iinc 3 1, 3) := by decide +kernel
theorem dX8_bring_54 : decode cX8_bring 54 = .ok (.goto (-21), 3) := by decide +kernel
theorem dX8_bring_57 : decode cX8_bring 57 = .ok (.iconst (-1), 1) := by decide +kernel
theorem dX8_bring_58 : decode cX8_bring 58 = .ok (.ireturn, 1) := by decide +kernel
theorem dX8_brings_0 : decode cX8_brings 0 = .ok (.aload_n 0, 1) := by decide +kernel
theorem dX8_brings_1 : decode cX8_brings 1 = .ok (.iload_n 2, 1) := by decide +kernel
theorem dX8_brings_2 : decode cX8_brings 2 = .ok (.invokevirtual 132, 3) := by decide +kernel
theorem dX8_brings_5 : decode cX8_brings 5 = .ok (.ifCond .eq 14, 3) := by decide +kernel
theorem dX8_brings_8 : decode cX8_brings 8 = .ok (.iload_n 1, 1) := by decide +kernel
theorem dX8_brings_9 : decode cX8_brings 9 = .ok (.iconst 1, 1) := by decide +kernel
theorem dX8_brings_10 : decode cX8_brings 10 = .ok (.if_icmp .lt 9, 3) := by decide +kernel
theorem dX8_brings_13 : decode cX8_brings 13 = .ok (.iload_n 1, 1) := by decide +kernel
theorem dX8_brings_14 : decode cX8_brings 14 = .ok (.bipush 20, 2) := by decide +kernel
theorem dX8_brings_16 : decode cX8_brings 16 = .ok (.if_icmp .le 6, 3) := by decide +kernel
theorem dX8_brings_19 : decode cX8_brings 19 = .ok (.bipush (-2), 2) := by decide +kernel
theorem dX8_brings_21 : decode cX8_brings 21 = .ok (.ireturn, 1) := by decide +kernel
theorem dX8_brings_22 : decode cX8_brings 22 = .ok (.aload_n 0, 1) := by decide +kernel
theorem dX8_brings_23 : decode cX8_brings 23 = .ok (.iload_n 2, 1) := by decide +kernel
theorem dX8_brings_24 : decode cX8_brings 24 = .ok (.iload_n 1, 1) := by decide +kernel
theorem dX8_brings_25 : decode cX8_brings 25 = .ok (.invokevirtual 355, 3) := by decide +kernel
theorem dX8_brings_28 : decode cX8_brings 28 = .ok (.ireturn, 1) := by decide +kernel
theorem dX8_by_0 : decode cX8_by 0 = .ok (.aload_n 0, 1) := by decide +kernel
theorem dX8_by_1 : decode cX8_by 1 = .ok (.invokevirtual 177, 3) := by decide +kernel
theorem dX8_by_4 : decode cX8_by 4 = .ok (.ifCond .ne 12, 3) := by decide +kernel
theorem dX8_by_7 : decode cX8_by 7 = .ok (.iload_n 1, 1) := by decide +kernel
theorem dX8_by_8 : decode cX8_by 8 = .ok (.ifCond .lt 8, 3) := by decide +kernel
theorem dX8_by_11 : decode cX8_by 11 = .ok (.iload_n 1, 1) := by decide +kernel
theorem dX8_by_12 : decode cX8_by 12 = .ok (.iconst 4, 1) := by decide +kernel
theorem dX8_by_13 : decode cX8_by 13 = .ok (.if_icmp .lt 6, 3) := by decide +kernel
theorem dX8_by_16 : decode cX8_by 16 = .ok (.bipush (-2), 2) := by decide +kernel
theorem dX8_by_18 : decode cX8_by 18 = .ok (.ireturn, 1) := by decide +kernel
theorem dX8_by_19 : decode cX8_by 19 = .ok (.aload_n 0, 1) := by decide +kernel
theorem dX8_by_20 : decode cX8_by 20 = .ok (.iload_n 1, 1) := by decide +kernel
theorem dX8_by_21 : decode cX8_by 21 = .ok (.invokevirtual 303, 3) := by decide +kernel
theorem dX8_by_24 : decode cX8_by 24 = .ok (.getfield 139, 3) := by decide +kernel
theorem dX8_by_27 : decode cX8_by 27 = .ok (.ireturn, 1) := by decide +kernel
theorem dX8_cart_0 : decode cX8_cart 0 = .ok (.aload_n 0, 1) := by decide +kernel
theorem dX8_cart_1 : decode cX8_cart 1 = .ok (.iload_n 1, 1) := by decide +kernel
theorem dX8_cart_2 : decode cX8_cart 2 = .ok (.invokevirtual 120, 3) := by decide +kernel
theorem dX8_cart_5 : decode cX8_cart 5 = .ok (.ifCond .eq 10, 3) := by decide +kernel
theorem dX8_cart_8 : decode cX8_cart 8 = .ok (.iload_n 2, 1) := by decide +kernel
theorem dX8_cart_9 : decode cX8_cart 9 = .ok (.invokestatic 123, 3) := by decide +kernel
theorem dX8_cart_12 : decode cX8_cart 12 = .ok (.ifCond .ne 6, 3) := by decide +kernel
theorem dX8_cart_15 : decode cX8_cart 15 = .ok (.bipush (-2), 2) := by decide +kernel
theorem dX8_cart_17 : decode cX8_cart 17 = .ok (.ireturn, 1) := by decide +kernel
theorem dX8_cart_18 : decode cX8_cart 18 = .ok (.iload_n 2, 1) := by decide +kernel
theorem dX8_cart_19 : decode cX8_cart 19 = .ok (.ifCond .ne 15, 3) := by decide +kernel
theorem dX8_cart_22 : decode cX8_cart 22 = .ok (.aload_n 0, 1) := by decide +kernel
theorem dX8_cart_23 : decode cX8_cart 23 = .ok (.getfield 19, 3) := by decide +kernel
theorem dX8_cart_26 : decode cX8_cart 26 = .ok (.getfield 126, 3) := by decide +kernel
theorem dX8_cart_29 : decode cX8_cart 29 = .ok (.iload_n 1, 1) := by decide +kernel
theorem dX8_cart_30 : decode cX8_cart 30 = .ok (.iaload, 1) := by decide +kernel
theorem dX8_cart_31 : decode cX8_cart 31 = .ok (.goto 12, 3) := by decide +kernel
theorem dX8_cart_34 : decode cX8_cart 34 = .ok (.aload_n 0, 1) := by decide +kernel
theorem dX8_cart_35 : decode cX8_cart 35 = .ok (.getfield 19, 3) := by decide +kernel
theorem dX8_cart_38 : decode cX8_cart 38 = .ok (.getfield 129, 3) := by decide +kernel
theorem dX8_cart_41 : decode cX8_cart 41 = .ok (.iload_n 1, 1) := by decide +kernel
theorem dX8_cart_42 : decode cX8_cart 42 = .ok (.iaload, 1) := by decide +kernel
theorem dX8_cart_43 : decode cX8_cart 43 = .ok (.ireturn, 1) := by decide +kernel
theorem dX8_chance_0 : decode cX8_chance 0 = .ok (.aload_n 0, 1) := by decide +kernel
theorem dX8_chance_1 : decode cX8_chance 1 = .ok (.iload_n 1, 1) := by decide +kernel
theorem dX8_chance_2 : decode cX8_chance 2 = .ok (.invokevirtual 342, 3) := by decide +kernel
theorem dX8_chance_5 : decode cX8_chance 5 = .ok (.ifCond .eq 21, 3) := by decide +kernel
theorem dX8_chance_8 : decode cX8_chance 8 = .ok (.iload_n 2, 1) := by decide +kernel
theorem dX8_chance_9 : decode cX8_chance 9 = .ok (.ifCond .lt 17, 3) := by decide +kernel
theorem dX8_chance_12 : decode cX8_chance 12 = .ok (.iload_n 2, 1) := by decide +kernel
theorem dX8_chance_13 : decode cX8_chance 13 = .ok (.sipush 700, 3) := by decide +kernel
theorem dX8_chance_16 : decode cX8_chance 16 = .ok (.if_icmp .gt 10, 3) := by decide +kernel
theorem dX8_chance_19 : decode cX8_chance 19 = .ok (.iload_n 3, 1) := by decide +kernel
theorem dX8_chance_20 : decode cX8_chance 20 = .ok (.invokestatic 123, 3) := by decide +kernel
theorem dX8_chance_23 : decode cX8_chance 23 = .ok (.ifCond .ne 7, 3) := by decide +kernel
theorem dX8_chance_26 : decode cX8_chance 26 = .ok (.ldc2_w 345, 3) := by decide +kernel
theorem dX8_chance_29 : decode cX8_chance 29 = .ok (.lreturn, 1) := by decide +kernel
theorem dX8_chance_30 : decode cX8_chance 30 = .ok (.aload_n 0, 1) := by decide +kernel
theorem dX8_chance_31 : decode cX8_chance 31 = .ok (.iload_n 1, 1) := by decide +kernel
theorem dX8_chance_32 : decode cX8_chance 32 = .ok (.iload_n 2, 1) := by decide +kernel
theorem dX8_chance_33 : decode cX8_chance 33 = .ok (.invokevirtual 347, 3) := by decide +kernel
theorem dX8_chance_36 : decode cX8_chance 36 = .ok (.iload_n 1, 1) := by decide +kernel
theorem dX8_chance_37 : decode cX8_chance 37 = .ok (.iconst 1, 1) := by decide +kernel
theorem dX8_chance_38 : decode cX8_chance 38 = .ok (.iadd, 1) := by decide +kernel
theorem dX8_chance_39 : decode cX8_chance 39 = .ok (.invokestatic 351, 3) := by decide +kernel
theorem dX8_chance_42 : decode cX8_chance 42 = .ok (.iload_n 3, 1) := by decide +kernel
theorem dX8_chance_43 : decode cX8_chance 43 = .ok (.invokestatic 319, 3) := by decide +kernel
theorem dX8_chance_46 : decode cX8_chance 46 = .ok (.lreturn, 1) := by decide +kernel
theorem dX8_commonDivisor_0 : decode cX8_commonDivisor 0 = .ok (.lload_n 0, 1) := by decide +kernel
theorem dX8_commonDivisor_1 : decode cX8_commonDivisor 1 = .ok (.lstore 4, 2) := by decide +kernel
theorem dX8_commonDivisor_3 : decode cX8_commonDivisor 3 = .ok (.lload_n 2, 1) := by decide +kernel
theorem dX8_commonDivisor_4 : decode cX8_commonDivisor 4 = .ok (.lstore 6, 2) := by decide +kernel
theorem dX8_commonDivisor_6 : decode cX8_commonDivisor 6 = .ok (.iconst 0, 1) := by decide +kernel
theorem dX8_commonDivisor_7 : decode cX8_commonDivisor 7 = .ok (.istore 8, 2) := by decide +kernel
theorem dX8_commonDivisor_9 : decode cX8_commonDivisor 9 = .ok (.iload 8, 2) := by decide +kernel
theorem dX8_commonDivisor_11 : decode cX8_commonDivisor 11 = .ok (.sipush 200, 3) := by decide +kernel
theorem dX8_commonDivisor_14 : decode cX8_commonDivisor 14 = .ok (.if_icmp .ge 31, 3) := by decide +kernel
theorem dX8_commonDivisor_17 : decode cX8_commonDivisor 17 = .ok (.lload 6, 2) := by decide +kernel
theorem dX8_commonDivisor_19 : decode cX8_commonDivisor 19 = .ok (.lconst 0, 1) := by decide +kernel
theorem dX8_commonDivisor_20 : decode cX8_commonDivisor 20 = .ok (.lcmp, 1) := by decide +kernel
theorem dX8_commonDivisor_21 : decode cX8_commonDivisor 21 = .ok (.ifCond .eq 24, 3) := by decide +kernel
theorem dX8_commonDivisor_24 : decode cX8_commonDivisor 24 = .ok (.lload 4, 2) := by decide +kernel
theorem dX8_commonDivisor_26 : decode cX8_commonDivisor 26 = .ok (.lload 6, 2) := by decide +kernel
theorem dX8_commonDivisor_28 : decode cX8_commonDivisor 28 = .ok (.lrem, 1) := by decide +kernel
theorem dX8_commonDivisor_29 : decode cX8_commonDivisor 29 = .ok (.lstore 9, 2) := by decide +kernel
theorem dX8_commonDivisor_31 : decode cX8_commonDivisor 31 = .ok (.lload 6, 2) := by decide +kernel
theorem dX8_commonDivisor_33 : decode cX8_commonDivisor 33 = .ok (.lstore 4, 2) := by decide +kernel
theorem dX8_commonDivisor_35 : decode cX8_commonDivisor 35 = .ok (.lload 9, 2) := by decide +kernel
theorem dX8_commonDivisor_37 : decode cX8_commonDivisor 37 = .ok (.lstore 6, 2) := by decide +kernel
theorem dX8_commonDivisor_39 : decode cX8_commonDivisor 39 = .ok (.iinc 8 1, 3) := by decide +kernel
theorem dX8_commonDivisor_42 : decode cX8_commonDivisor 42 = .ok (.goto (-33), 3) := by decide +kernel
theorem dX8_commonDivisor_45 : decode cX8_commonDivisor 45 = .ok (.lload 4, 2) := by decide +kernel
theorem dX8_commonDivisor_47 : decode cX8_commonDivisor 47 = .ok (.lreturn, 1) := by decide +kernel
theorem dX8_count_0 : decode cX8_count 0 = .ok (.iload_n 1, 1) := by decide +kernel
theorem dX8_count_1 : decode cX8_count 1 = .ok (.tableswitch 120 0 8 #[51, 59, 67, 75, 83, 91, 99, 107, 115], 51) := by decide +kernel
theorem dX8_count_52 : decode cX8_count 52 = .ok (.aload_n 0, 1) := by decide +kernel
theorem dX8_count_53 : decode cX8_count 53 = .ok (.getfield 19, 3) := by decide +kernel
theorem dX8_count_56 : decode cX8_count 56 = .ok (.getfield 181, 3) := by decide +kernel
theorem dX8_count_59 : decode cX8_count 59 = .ok (.ireturn, 1) := by decide +kernel
theorem dX8_count_60 : decode cX8_count 60 = .ok (.aload_n 0, 1) := by decide +kernel
theorem dX8_count_61 : decode cX8_count 61 = .ok (.getfield 19, 3) := by decide +kernel
theorem dX8_count_64 : decode cX8_count 64 = .ok (.getfield 168, 3) := by decide +kernel
theorem dX8_count_67 : decode cX8_count 67 = .ok (.ireturn, 1) := by decide +kernel
theorem dX8_count_68 : decode cX8_count 68 = .ok (.aload_n 0, 1) := by decide +kernel
theorem dX8_count_69 : decode cX8_count 69 = .ok (.getfield 19, 3) := by decide +kernel
theorem dX8_count_72 : decode cX8_count 72 = .ok (.getfield 369, 3) := by decide +kernel
theorem dX8_count_75 : decode cX8_count 75 = .ok (.ireturn, 1) := by decide +kernel
theorem dX8_count_76 : decode cX8_count 76 = .ok (.aload_n 0, 1) := by decide +kernel
theorem dX8_count_77 : decode cX8_count 77 = .ok (.getfield 19, 3) := by decide +kernel
theorem dX8_count_80 : decode cX8_count 80 = .ok (.getfield 372, 3) := by decide +kernel
theorem dX8_count_83 : decode cX8_count 83 = .ok (.ireturn, 1) := by decide +kernel
theorem dX8_count_84 : decode cX8_count 84 = .ok (.aload_n 0, 1) := by decide +kernel
theorem dX8_count_85 : decode cX8_count 85 = .ok (.getfield 19, 3) := by decide +kernel
theorem dX8_count_88 : decode cX8_count 88 = .ok (.getfield 278, 3) := by decide +kernel
theorem dX8_count_91 : decode cX8_count 91 = .ok (.ireturn, 1) := by decide +kernel
theorem dX8_count_92 : decode cX8_count 92 = .ok (.aload_n 0, 1) := by decide +kernel
theorem dX8_count_93 : decode cX8_count 93 = .ok (.getfield 19, 3) := by decide +kernel
theorem dX8_count_96 : decode cX8_count 96 = .ok (.getfield 358, 3) := by decide +kernel
theorem dX8_count_99 : decode cX8_count 99 = .ok (.ireturn, 1) := by decide +kernel
theorem dX8_count_100 : decode cX8_count 100 = .ok (.aload_n 0, 1) := by decide +kernel
theorem dX8_count_101 : decode cX8_count 101 = .ok (.getfield 19, 3) := by decide +kernel
theorem dX8_count_104 : decode cX8_count 104 = .ok (.getfield 104, 3) := by decide +kernel
theorem dX8_count_107 : decode cX8_count 107 = .ok (.ireturn, 1) := by decide +kernel
theorem dX8_count_108 : decode cX8_count 108 = .ok (.aload_n 0, 1) := by decide +kernel
theorem dX8_count_109 : decode cX8_count 109 = .ok (.getfield 12, 3) := by decide +kernel
theorem dX8_count_112 : decode cX8_count 112 = .ok (.getfield 86, 3) := by decide +kernel
theorem dX8_count_115 : decode cX8_count 115 = .ok (.ireturn, 1) := by decide +kernel
theorem dX8_count_116 : decode cX8_count 116 = .ok (.aload_n 0, 1) := by decide +kernel
theorem dX8_count_117 : decode cX8_count 117 = .ok (.invokevirtual 375, 3) := by decide +kernel
theorem dX8_count_120 : decode cX8_count 120 = .ok (.ireturn, 1) := by decide +kernel
theorem dX8_count_121 : decode cX8_count 121 = .ok (.iconst (-1), 1) := by decide +kernel
theorem dX8_count_122 : decode cX8_count 122 = .ok (.ireturn, 1) := by decide +kernel
theorem dX8_countOf_0 : decode cX8_countOf 0 = .ok (.iload_n 1, 1) := by decide +kernel
theorem dX8_countOf_1 : decode cX8_countOf 1 = .ok (.iconst (-1), 1) := by decide +kernel
theorem dX8_countOf_2 : decode cX8_countOf 2 = .ok (.if_icmp .ne 7, 3) := by decide +kernel
theorem dX8_countOf_5 : decode cX8_countOf 5 = .ok (.iload_n 0, 1) := by decide +kernel
theorem dX8_countOf_6 : decode cX8_countOf 6 = .ok (.goto 16, 3) := by decide +kernel
theorem dX8_countOf_9 : decode cX8_countOf 9 = .ok (.iload_n 0, 1) := by decide +kernel
theorem dX8_countOf_10 : decode cX8_countOf 10 = .ok (.iload_n 1, 1) := by decide +kernel
theorem dX8_countOf_11 : decode cX8_countOf 11 = .ok (.if_icmp .lt 7, 3) := by decide +kernel
theorem dX8_countOf_14 : decode cX8_countOf 14 = .ok (.iconst 1, 1) := by decide +kernel
theorem dX8_countOf_15 : decode cX8_countOf 15 = .ok (.goto 4, 3) := by decide +kernel
theorem dX8_countOf_18 : decode cX8_countOf 18 = .ok (.iconst 0, 1) := by decide +kernel
theorem dX8_countOf_19 : decode cX8_countOf 19 = .ok (.invokestatic 200, 3) := by decide +kernel
theorem dX8_countOf_22 : decode cX8_countOf 22 = .ok (.ireturn, 1) := by decide +kernel
theorem dX8_cut_0 : decode cX8_cut 0 = .ok (.iload_n 2, 1) := by decide +kernel
theorem dX8_cut_1 : decode cX8_cut 1 = .ok (.tableswitch 41 0 2 #[27, 32, 37], 27) := by decide +kernel
theorem dX8_cut_28 : decode cX8_cut 28 = .ok (.lload_n 0, 1) := by decide +kernel
theorem dX8_cut_29 : decode cX8_cut 29 = .ok (.l2i, 1) := by decide +kernel
theorem dX8_cut_30 : decode cX8_cut 30 = .ok (.i2b, 1) := by decide +kernel
theorem dX8_cut_31 : decode cX8_cut 31 = .ok (.i2l, 1) := by decide +kernel
theorem dX8_cut_32 : decode cX8_cut 32 = .ok (.lreturn, 1) := by decide +kernel
theorem dX8_cut_33 : decode cX8_cut 33 = .ok (.lload_n 0, 1) := by decide +kernel
theorem dX8_cut_34 : decode cX8_cut 34 = .ok (.l2i, 1) := by decide +kernel
theorem dX8_cut_35 : decode cX8_cut 35 = .ok (.i2s, 1) := by decide +kernel
theorem dX8_cut_36 : decode cX8_cut 36 = .ok (.i2l, 1) := by decide +kernel
theorem dX8_cut_37 : decode cX8_cut 37 = .ok (.lreturn, 1) := by decide +kernel
theorem dX8_cut_38 : decode cX8_cut 38 = .ok (.lload_n 0, 1) := by decide +kernel
theorem dX8_cut_39 : decode cX8_cut 39 = .ok (.l2i, 1) := by decide +kernel
theorem dX8_cut_40 : decode cX8_cut 40 = .ok (.i2l, 1) := by decide +kernel
theorem dX8_cut_41 : decode cX8_cut 41 = .ok (.lreturn, 1) := by decide +kernel
theorem dX8_cut_42 : decode cX8_cut 42 = .ok (.lload_n 0, 1) := by decide +kernel
theorem dX8_cut_43 : decode cX8_cut 43 = .ok (.lreturn, 1) := by decide +kernel
theorem dX8_drawn_0 : decode cX8_drawn 0 = .ok (.aload_n 0, 1) := by decide +kernel
theorem dX8_drawn_1 : decode cX8_drawn 1 = .ok (.invokevirtual 177, 3) := by decide +kernel
theorem dX8_drawn_4 : decode cX8_drawn 4 = .ok (.ifCond .ne 21, 3) := by decide +kernel
theorem dX8_drawn_7 : decode cX8_drawn 7 = .ok (.iload_n 1, 1) := by decide +kernel
theorem dX8_drawn_8 : decode cX8_drawn 8 = .ok (.ifCond .lt 17, 3) := by decide +kernel
theorem dX8_drawn_11 : decode cX8_drawn 11 = .ok (.iload_n 1, 1) := by decide +kernel
theorem dX8_drawn_12 : decode cX8_drawn 12 = .ok (.ldc_w 361, 3) := by decide +kernel
theorem dX8_drawn_15 : decode cX8_drawn 15 = .ok (.if_icmp .gt 10, 3) := by decide +kernel
theorem dX8_drawn_18 : decode cX8_drawn 18 = .ok (.iload_n 2, 1) := by decide +kernel
theorem dX8_drawn_19 : decode cX8_drawn 19 = .ok (.invokestatic 123, 3) := by decide +kernel
theorem dX8_drawn_22 : decode cX8_drawn 22 = .ok (.ifCond .ne 6, 3) := by decide +kernel
theorem dX8_drawn_25 : decode cX8_drawn 25 = .ok (.bipush (-2), 2) := by decide +kernel
theorem dX8_drawn_27 : decode cX8_drawn 27 = .ok (.ireturn, 1) := by decide +kernel
theorem dX8_drawn_28 : decode cX8_drawn 28 = .ok (.aload_n 0, 1) := by decide +kernel
theorem dX8_drawn_29 : decode cX8_drawn 29 = .ok (.iload_n 1, 1) := by decide +kernel
theorem dX8_drawn_30 : decode cX8_drawn 30 = .ok (.i2l, 1) := by decide +kernel
theorem dX8_drawn_31 : decode cX8_drawn 31 = .ok (.invokevirtual 362, 3) := by decide +kernel
theorem dX8_drawn_34 : decode cX8_drawn 34 = .ok (.istore_n 3, 1) := by decide +kernel
theorem dX8_drawn_35 : decode cX8_drawn 35 = .ok (.iload_n 2, 1) := by decide +kernel
theorem dX8_drawn_36 : decode cX8_drawn 36 = .ok (.ifCond .ne 7, 3) := by decide +kernel
theorem dX8_drawn_39 : decode cX8_drawn 39 = .ok (.iload_n 3, 1) := by decide +kernel
theorem dX8_drawn_40 : decode cX8_drawn 40 = .ok (.goto 8, 3) := by decide +kernel
theorem dX8_drawn_43 : decode cX8_drawn 43 = .ok (.aload_n 0, 1) := by decide +kernel
theorem dX8_drawn_44 : decode cX8_drawn 44 = .ok (.iload_n 3, 1) := by decide +kernel
theorem dX8_drawn_45 : decode cX8_drawn 45 = .ok (.invokevirtual 366, 3) := by decide +kernel
theorem dX8_drawn_48 : decode cX8_drawn 48 = .ok (.ireturn, 1) := by decide +kernel
theorem dX8_end_0 : decode cX8_end 0 = .ok (.iload_n 1, 1) := by decide +kernel
theorem dX8_end_1 : decode cX8_end 1 = .ok (.ifCond .lt 14, 3) := by decide +kernel
theorem dX8_end_4 : decode cX8_end 4 = .ok (.iload_n 1, 1) := by decide +kernel
theorem dX8_end_5 : decode cX8_end 5 = .ok (.aload_n 0, 1) := by decide +kernel
theorem dX8_end_6 : decode cX8_end 6 = .ok (.getfield 12, 3) := by decide +kernel
theorem dX8_end_9 : decode cX8_end 9 = .ok (.getfield 86, 3) := by decide +kernel
theorem dX8_end_12 : decode cX8_end 12 = .ok (.if_icmp .le 5, 3) := by decide +kernel
theorem dX8_end_15 : decode cX8_end 15 = .ok (.iconst (-1), 1) := by decide +kernel
theorem dX8_end_16 : decode cX8_end 16 = .ok (.ireturn, 1) := by decide +kernel
theorem dX8_end_17 : decode cX8_end 17 = .ok (.aload_n 0, 1) := by decide +kernel
theorem dX8_end_18 : decode cX8_end 18 = .ok (.getfield 12, 3) := by decide +kernel
theorem dX8_end_21 : decode cX8_end 21 = .ok (.iload_n 1, 1) := by decide +kernel
theorem dX8_end_22 : decode cX8_end 22 = .ok (.putfield 86, 3) := by decide +kernel
theorem dX8_end_25 : decode cX8_end 25 = .ok (.iload_n 1, 1) := by decide +kernel
theorem dX8_end_26 : decode cX8_end 26 = .ok (.ireturn, 1) := by decide +kernel
theorem dX8_even_0 : decode cX8_even 0 = .ok (.aload_n 0, 1) := by decide +kernel
theorem dX8_even_1 : decode cX8_even 1 = .ok (.iload_n 1, 1) := by decide +kernel
theorem dX8_even_2 : decode cX8_even 2 = .ok (.invokevirtual 132, 3) := by decide +kernel
theorem dX8_even_5 : decode cX8_even 5 = .ok (.ifCond .eq 17, 3) := by decide +kernel
theorem dX8_even_8 : decode cX8_even 8 = .ok (.aload_n 0, 1) := by decide +kernel
theorem dX8_even_9 : decode cX8_even 9 = .ok (.iload_n 1, 1) := by decide +kernel
theorem dX8_even_10 : decode cX8_even 10 = .ok (.invokevirtual 135, 3) := by decide +kernel
theorem dX8_even_13 : decode cX8_even 13 = .ok (.invokevirtual 210, 3) := by decide +kernel
theorem dX8_even_16 : decode cX8_even 16 = .ok (.invokestatic 200, 3) := by decide +kernel
theorem dX8_even_19 : decode cX8_even 19 = .ok (.goto 5, 3) := by decide +kernel
theorem dX8_even_22 : decode cX8_even 22 = .ok (.bipush (-2), 2) := by decide +kernel
theorem dX8_even_24 : decode cX8_even 24 = .ok (.ireturn, 1) := by decide +kernel
theorem dX8_everyOf_0 : decode cX8_everyOf 0 = .ok (.aload_n 0, 1) := by decide +kernel
theorem dX8_everyOf_1 : decode cX8_everyOf 1 = .ok (.getfield 56, 3) := by decide +kernel
theorem dX8_everyOf_4 : decode cX8_everyOf 4 = .ok (.iload_n 1, 1) := by decide +kernel
theorem dX8_everyOf_5 : decode cX8_everyOf 5 = .ok (.aload_n 0, 1) := by decide +kernel
theorem dX8_everyOf_6 : decode cX8_everyOf 6 = .ok (.getfield 19, 3) := by decide +kernel
theorem dX8_everyOf_9 : decode cX8_everyOf 9 = .ok (.getfield 168, 3) := by decide +kernel
theorem dX8_everyOf_12 : decode cX8_everyOf 12 = .ok (.invokevirtual 433, 3) := by decide +kernel
theorem dX8_everyOf_15 : decode cX8_everyOf 15 = .ok (.aload_n 0, 1) := by decide +kernel
theorem dX8_everyOf_16 : decode cX8_everyOf 16 = .ok (.getfield 56, 3) := by decide +kernel
theorem dX8_everyOf_19 : decode cX8_everyOf 19 = .ok (.areturn, 1) := by decide +kernel
theorem dX8_factorial_0 : decode cX8_factorial 0 = .ok (.iconst 1, 1) := by decide +kernel
theorem dX8_factorial_1 : decode cX8_factorial 1 = .ok (.istore_n 1, 1) := by decide +kernel
theorem dX8_factorial_2 : decode cX8_factorial 2 = .ok (.iconst 2, 1) := by decide +kernel
theorem dX8_factorial_3 : decode cX8_factorial 3 = .ok (.istore_n 2, 1) := by decide +kernel
theorem dX8_factorial_4 : decode cX8_factorial 4 = .ok (.iload_n 2, 1) := by decide +kernel
theorem dX8_factorial_5 : decode cX8_factorial 5 = .ok (.iload_n 0, 1) := by decide +kernel
theorem dX8_factorial_6 : decode cX8_factorial 6 = .ok (.if_icmp .gt 13, 3) := by decide +kernel
theorem dX8_factorial_9 : decode cX8_factorial 9 = .ok (.iload_n 1, 1) := by decide +kernel
theorem dX8_factorial_10 : decode cX8_factorial 10 = .ok (.iload_n 2, 1) := by decide +kernel
theorem dX8_factorial_11 : decode cX8_factorial 11 = .ok (.imul, 1) := by decide +kernel
theorem dX8_factorial_12 : decode cX8_factorial 12 = .ok (.istore_n 1, 1) := by decide +kernel
theorem dX8_factorial_13 : decode cX8_factorial 13 = .ok (.iinc 2 1, 3) := by decide +kernel
theorem dX8_factorial_16 : decode cX8_factorial 16 = .ok (.goto (-12), 3) := by decide +kernel
theorem dX8_factorial_19 : decode cX8_factorial 19 = .ok (.iload_n 1, 1) := by decide +kernel
theorem dX8_factorial_20 : decode cX8_factorial 20 = .ok (.ireturn, 1) := by decide +kernel
theorem dX8_fault_0 : decode cX8_fault 0 = .ok (.iload_n 1, 1) := by decide +kernel
theorem dX8_fault_1 : decode cX8_fault 1 = .ok (.ifCond .ne 11, 3) := by decide +kernel
theorem dX8_fault_4 : decode cX8_fault 4 = .ok (.aload_n 0, 1) := by decide +kernel
theorem dX8_fault_5 : decode cX8_fault 5 = .ok (.getfield 12, 3) := by decide +kernel
theorem dX8_fault_8 : decode cX8_fault 8 = .ok (.getfield 107, 3) := by decide +kernel
theorem dX8_fault_11 : decode cX8_fault 11 = .ok (.ireturn, 1) := by decide +kernel
theorem dX8_fault_12 : decode cX8_fault 12 = .ok (.iload_n 1, 1) := by decide +kernel
theorem dX8_fault_13 : decode cX8_fault 13 = .ok (.iconst 1, 1) := by decide +kernel
theorem dX8_fault_14 : decode cX8_fault 14 = .ok (.if_icmp .ne 13, 3) := by decide +kernel
theorem dX8_fault_17 : decode cX8_fault 17 = .ok (.aload_n 0, 1) := by decide +kernel
theorem dX8_fault_18 : decode cX8_fault 18 = .ok (.getfield 12, 3) := by decide +kernel
theorem dX8_fault_21 : decode cX8_fault 21 = .ok (.getfield 110, 3) := by decide +kernel
theorem dX8_fault_24 : decode cX8_fault 24 = .ok (.goto 4, 3) := by decide +kernel
theorem dX8_fault_27 : decode cX8_fault 27 = .ok (.iconst (-1), 1) := by decide +kernel
theorem dX8_fault_28 : decode cX8_fault 28 = .ok (.ireturn, 1) := by decide +kernel
theorem dX8_feed_0 : decode cX8_feed 0 = .ok (.aload_n 0, 1) := by decide +kernel
theorem dX8_feed_1 : decode cX8_feed 1 = .ok (.getfield 12, 3) := by decide +kernel
theorem dX8_feed_4 : decode cX8_feed 4 = .ok (.getfield 86, 3) := by decide +kernel
theorem dX8_feed_7 : decode cX8_feed 7 = .ok (.bipush 20, 2) := by decide +kernel
theorem dX8_feed_9 : decode cX8_feed 9 = .ok (.iadd, 1) := by decide +kernel
theorem dX8_feed_10 : decode cX8_feed 10 = .ok (.sipush 500, 3) := by decide +kernel
theorem dX8_feed_13 : decode cX8_feed 13 = .ok (.if_icmp .le 5, 3) := by decide +kernel
theorem dX8_feed_16 : decode cX8_feed 16 = .ok (.iconst (-1), 1) := by decide +kernel
theorem dX8_feed_17 : decode cX8_feed 17 = .ok (.ireturn, 1) := by decide +kernel
theorem dX8_feed_18 : decode cX8_feed 18 = .ok (.aload_n 0, 1) := by decide +kernel
theorem dX8_feed_19 : decode cX8_feed 19 = .ok (.getfield 12, 3) := by decide +kernel
theorem dX8_feed_22 : decode cX8_feed 22 = .ok (.iload_n 1, 1) := by decide +kernel
theorem dX8_feed_23 : decode cX8_feed 23 = .ok (.invokevirtual 89, 3) := by decide +kernel
theorem dX8_feed_26 : decode cX8_feed 26 = .ok (.aload_n 0, 1) := by decide +kernel
theorem dX8_feed_27 : decode cX8_feed 27 = .ok (.getfield 12, 3) := by decide +kernel
theorem dX8_feed_30 : decode cX8_feed 30 = .ok (.iload_n 2, 1) := by decide +kernel
theorem dX8_feed_31 : decode cX8_feed 31 = .ok (.invokevirtual 89, 3) := by decide +kernel
theorem dX8_feed_34 : decode cX8_feed 34 = .ok (.aload_n 0, 1) := by decide +kernel
theorem dX8_feed_35 : decode cX8_feed 35 = .ok (.getfield 12, 3) := by decide +kernel
theorem dX8_feed_38 : decode cX8_feed 38 = .ok (.iload_n 3, 1) := by decide +kernel
theorem dX8_feed_39 : decode cX8_feed 39 = .ok (.invokevirtual 89, 3) := by decide +kernel
theorem dX8_feed_42 : decode cX8_feed 42 = .ok (.aload_n 0, 1) := by decide +kernel
theorem dX8_feed_43 : decode cX8_feed 43 = .ok (.getfield 12, 3) := by decide +kernel
theorem dX8_feed_46 : decode cX8_feed 46 = .ok (.iload 4, 2) := by decide +kernel
theorem dX8_feed_48 : decode cX8_feed 48 = .ok (.invokevirtual 89, 3) := by decide +kernel
theorem dX8_feed_51 : decode cX8_feed 51 = .ok (.aload_n 0, 1) := by decide +kernel
theorem dX8_feed_52 : decode cX8_feed 52 = .ok (.getfield 12, 3) := by decide +kernel
theorem dX8_feed_55 : decode cX8_feed 55 = .ok (.iload 5, 2) := by decide +kernel
theorem dX8_feed_57 : decode cX8_feed 57 = .ok (.invokevirtual 89, 3) := by decide +kernel
theorem dX8_feed_60 : decode cX8_feed 60 = .ok (.aload_n 0, 1) := by decide +kernel
theorem dX8_feed_61 : decode cX8_feed 61 = .ok (.getfield 12, 3) := by decide +kernel
theorem dX8_feed_64 : decode cX8_feed 64 = .ok (.getfield 86, 3) := by decide +kernel
theorem dX8_feed_67 : decode cX8_feed 67 = .ok (.ireturn, 1) := by decide +kernel
theorem dX8_firstLike_0 : decode cX8_firstLike 0 = .ok (.iconst 0, 1) := by decide +kernel
theorem dX8_firstLike_1 : decode cX8_firstLike 1 = .ok (.istore_n 2, 1) := by decide +kernel
theorem dX8_firstLike_2 : decode cX8_firstLike 2 = .ok (.iload_n 2, 1) := by decide +kernel
theorem dX8_firstLike_3 : decode cX8_firstLike 3 = .ok (.iload_n 1, 1) := by decide +kernel
theorem dX8_firstLike_4 : decode cX8_firstLike 4 = .ok (.if_icmp .ge 25, 3) := by decide +kernel
theorem dX8_firstLike_7 : decode cX8_firstLike 7 = .ok (.aload_n 0, 1) := by decide +kernel
theorem dX8_firstLike_8 : decode cX8_firstLike 8 = .ok (.iload_n 2, 1) := by decide +kernel
theorem dX8_firstLike_9 : decode cX8_firstLike 9 = .ok (.invokevirtual 135, 3) := by decide +kernel
theorem dX8_firstLike_12 : decode cX8_firstLike 12 = .ok (.aload_n 0, 1) := by decide +kernel
theorem dX8_firstLike_13 : decode cX8_firstLike 13 = .ok (.iload_n 1, 1) := by decide +kernel
theorem dX8_firstLike_14 : decode cX8_firstLike 14 = .ok (.invokevirtual 135, 3) := by decide +kernel
theorem dX8_firstLike_17 : decode cX8_firstLike 17 = .ok (.invokevirtual 193, 3) := by decide +kernel
theorem dX8_firstLike_20 : decode cX8_firstLike 20 = .ok (.ifCond .ne 9, 3) := by decide +kernel
theorem dX8_firstLike_23 : decode cX8_firstLike 23 = .ok (.iinc 2 1, 3) := by decide +kernel
theorem dX8_firstLike_26 : decode cX8_firstLike 26 = .ok (.goto (-24), 3) := by decide +kernel
theorem dX8_firstLike_29 : decode cX8_firstLike 29 = .ok (.iload_n 2, 1) := by decide +kernel
theorem dX8_firstLike_30 : decode cX8_firstLike 30 = .ok (.ireturn, 1) := by decide +kernel
theorem dX8_flip_0 : decode cX8_flip 0 = .ok (.aload_n 0, 1) := by decide +kernel
theorem dX8_flip_1 : decode cX8_flip 1 = .ok (.iload_n 1, 1) := by decide +kernel
theorem dX8_flip_2 : decode cX8_flip 2 = .ok (.invokevirtual 132, 3) := by decide +kernel
theorem dX8_flip_5 : decode cX8_flip 5 = .ok (.ifCond .eq 7, 3) := by decide +kernel
theorem dX8_flip_8 : decode cX8_flip 8 = .ok (.iload_n 2, 1) := by decide +kernel
theorem dX8_flip_9 : decode cX8_flip 9 = .ok (.ifCond .ge 6, 3) := by decide +kernel
theorem dX8_flip_12 : decode cX8_flip 12 = .ok (.bipush (-2), 2) := by decide +kernel
theorem dX8_flip_14 : decode cX8_flip 14 = .ok (.ireturn, 1) := by decide +kernel
theorem dX8_flip_15 : decode cX8_flip 15 = .ok (.aload_n 0, 1) := by decide +kernel
theorem dX8_flip_16 : decode cX8_flip 16 = .ok (.iload_n 1, 1) := by decide +kernel
theorem dX8_flip_17 : decode cX8_flip 17 = .ok (.invokevirtual 135, 3) := by decide +kernel
theorem dX8_flip_20 : decode cX8_flip 20 = .ok (.astore_n 3, 1) := by decide +kernel
theorem dX8_flip_21 : decode cX8_flip 21 = .ok (.iload_n 2, 1) := by decide +kernel
theorem dX8_flip_22 : decode cX8_flip 22 = .ok (.aload_n 3, 1) := by decide +kernel
theorem dX8_flip_23 : decode cX8_flip 23 = .ok (.invokevirtual 155, 3) := by decide +kernel
theorem dX8_flip_26 : decode cX8_flip 26 = .ok (.if_icmp .ge 13, 3) := by decide +kernel
theorem dX8_flip_29 : decode cX8_flip 29 = .ok (.aload_n 3, 1) := by decide +kernel
theorem dX8_flip_30 : decode cX8_flip 30 = .ok (.iload_n 2, 1) := by decide +kernel
theorem dX8_flip_31 : decode cX8_flip 31 = .ok (.iconst 1, 1) := by decide +kernel
theorem dX8_flip_32 : decode cX8_flip 32 = .ok (.iadd, 1) := by decide +kernel
theorem dX8_flip_33 : decode cX8_flip 33 = .ok (.invokevirtual 207, 3) := by decide +kernel
theorem dX8_flip_36 : decode cX8_flip 36 = .ok (.goto 4, 3) := by decide +kernel
theorem dX8_flip_39 : decode cX8_flip 39 = .ok (.iconst (-1), 1) := by decide +kernel
theorem dX8_flip_40 : decode cX8_flip 40 = .ok (.ireturn, 1) := by decide +kernel
theorem dX8_forget_0 : decode cX8_forget 0 = .ok (.aload_n 0, 1) := by decide +kernel
theorem dX8_forget_1 : decode cX8_forget 1 = .ok (.iconst 0, 1) := by decide +kernel
theorem dX8_forget_2 : decode cX8_forget 2 = .ok (.putfield 414, 3) := by decide +kernel
theorem dX8_forget_5 : decode cX8_forget 5 = .ok (.aload_n 0, 1) := by decide +kernel
theorem dX8_forget_6 : decode cX8_forget 6 = .ok (.iconst 0, 1) := by decide +kernel
theorem dX8_forget_7 : decode cX8_forget 7 = .ok (.putfield 417, 3) := by decide +kernel
theorem dX8_forget_10 : decode cX8_forget 10 = .ok (.aload_n 0, 1) := by decide +kernel
theorem dX8_forget_11 : decode cX8_forget 11 = .ok (.iconst (-1), 1) := by decide +kernel
theorem dX8_forget_12 : decode cX8_forget 12 = .ok (.putfield 81, 3) := by decide +kernel
theorem dX8_forget_15 : decode cX8_forget 15 = .ok (.return_, 1) := by decide +kernel
theorem dX8_fraction_0 : decode cX8_fraction 0 = .ok (.lload_n 0, 1) := by decide +kernel
theorem dX8_fraction_1 : decode cX8_fraction 1 = .ok (.invokestatic 463, 3) := by decide +kernel
theorem dX8_fraction_4 : decode cX8_fraction 4 = .ok (.lload_n 2, 1) := by decide +kernel
theorem dX8_fraction_5 : decode cX8_fraction 5 = .ok (.invokestatic 467, 3) := by decide +kernel
theorem dX8_fraction_8 : decode cX8_fraction 8 = .ok (.lstore 5, 2) := by decide +kernel
theorem dX8_fraction_10 : decode cX8_fraction 10 = .ok (.lload 5, 2) := by decide +kernel
theorem dX8_fraction_12 : decode cX8_fraction 12 = .ok (.lconst 1, 1) := by decide +kernel
theorem dX8_fraction_13 : decode cX8_fraction 13 = .ok (.lcmp, 1) := by decide +kernel
theorem dX8_fraction_14 : decode cX8_fraction 14 = .ok (.ifCond .ge 14, 3) := by decide +kernel
theorem dX8_fraction_17 : decode cX8_fraction 17 = .ok (.iload 4, 2) := by decide +kernel
theorem dX8_fraction_19 : decode cX8_fraction 19 = .ok (.ifCond .ne 7, 3) := by decide +kernel
theorem dX8_fraction_22 : decode cX8_fraction 22 = .ok (.lload_n 0, 1) := by decide +kernel
theorem dX8_fraction_23 : decode cX8_fraction 23 = .ok (.goto 4, 3) := by decide +kernel
theorem dX8_fraction_26 : decode cX8_fraction 26 = .ok (.lload_n 2, 1) := by decide +kernel
theorem dX8_fraction_27 : decode cX8_fraction 27 = .ok (.lreturn, 1) := by decide +kernel
theorem dX8_fraction_28 : decode cX8_fraction 28 = .ok (.iload 4, 2) := by decide +kernel
theorem dX8_fraction_30 : decode cX8_fraction 30 = .ok (.ifCond .ne 10, 3) := by decide +kernel
theorem dX8_fraction_33 : decode cX8_fraction 33 = .ok (.lload_n 0, 1) := by decide +kernel
theorem dX8_fraction_34 : decode cX8_fraction 34 = .ok (.lload 5, 2) := by decide +kernel
theorem dX8_fraction_36 : decode cX8_fraction 36 = .ok (.ldiv, 1) := by decide +kernel
theorem dX8_fraction_37 : decode cX8_fraction 37 = .ok (.goto 7, 3) := by decide +kernel
theorem dX8_fraction_40 : decode cX8_fraction 40 = .ok (.lload_n 2, 1) := by decide +kernel
theorem dX8_fraction_41 : decode cX8_fraction 41 = .ok (.lload 5, 2) := by decide +kernel
theorem dX8_fraction_43 : decode cX8_fraction 43 = .ok (.ldiv, 1) := by decide +kernel
theorem dX8_fraction_44 : decode cX8_fraction 44 = .ok (.lreturn, 1) := by decide +kernel
theorem dX8_from_0 : decode cX8_from 0 = .ok (.iload_n 2, 1) := by decide +kernel
theorem dX8_from_1 : decode cX8_from 1 = .ok (.ifCond .ge 8, 3) := by decide +kernel
theorem dX8_from_4 : decode cX8_from 4 = .ok (.bipush (-2), 2) := by decide +kernel
theorem dX8_from_6 : decode cX8_from 6 = .ok (.goto 8, 3) := by decide +kernel
theorem dX8_from_9 : decode cX8_from 9 = .ok (.aload_n 0, 1) := by decide +kernel
theorem dX8_from_10 : decode cX8_from 10 = .ok (.iload_n 1, 1) := by decide +kernel
theorem dX8_from_11 : decode cX8_from 11 = .ok (.invokevirtual 259, 3) := by decide +kernel
theorem dX8_from_14 : decode cX8_from 14 = .ok (.istore_n 3, 1) := by decide +kernel
theorem dX8_from_15 : decode cX8_from 15 = .ok (.iload_n 3, 1) := by decide +kernel
theorem dX8_from_16 : decode cX8_from 16 = .ok (.ifCond .eq 5, 3) := by decide +kernel
theorem dX8_from_19 : decode cX8_from 19 = .ok (.iload_n 3, 1) := by decide +kernel
theorem dX8_from_20 : decode cX8_from 20 = .ok (.ireturn, 1) := by decide +kernel
theorem dX8_from_21 : decode cX8_from 21 = .ok (.aload_n 0, 1) := by decide +kernel
theorem dX8_from_22 : decode cX8_from 22 = .ok (.aload_n 0, 1) := by decide +kernel
theorem dX8_from_23 : decode cX8_from 23 = .ok (.getfield 70, 3) := by decide +kernel
theorem dX8_from_26 : decode cX8_from 26 = .ok (.getfield 146, 3) := by decide +kernel
theorem dX8_from_29 : decode cX8_from 29 = .ok (.invokevirtual 242, 3) := by decide +kernel
theorem dX8_from_32 : decode cX8_from 32 = .ok (.aload_n 0, 1) := by decide +kernel
theorem dX8_from_33 : decode cX8_from 33 = .ok (.getfield 70, 3) := by decide +kernel
theorem dX8_from_36 : decode cX8_from 36 = .ok (.iload_n 2, 1) := by decide +kernel
theorem dX8_from_37 : decode cX8_from 37 = .ok (.invokevirtual 265, 3) := by decide +kernel
theorem dX8_from_40 : decode cX8_from 40 = .ok (.ireturn, 1) := by decide +kernel
theorem dX8_gainOverOrders_0 : decode cX8_gainOverOrders 0 = .ok (.iconst 1, 1) := by decide +kernel
theorem dX8_gainOverOrders_1 : decode cX8_gainOverOrders 1 = .ok (.iload_n 1, 1) := by decide +kernel
theorem dX8_gainOverOrders_2 : decode cX8_gainOverOrders 2 = .ok (.ishl, 1) := by decide +kernel
theorem dX8_gainOverOrders_3 : decode cX8_gainOverOrders 3 = .ok (.istore_n 2, 1) := by decide +kernel
theorem dX8_gainOverOrders_4 : decode cX8_gainOverOrders 4 = .ok (.iconst 0, 1) := by decide +kernel
theorem dX8_gainOverOrders_5 : decode cX8_gainOverOrders 5 = .ok (.istore_n 3, 1) := by decide +kernel
theorem dX8_gainOverOrders_6 : decode cX8_gainOverOrders 6 = .ok (.iconst 0, 1) := by decide +kernel
theorem dX8_gainOverOrders_7 : decode cX8_gainOverOrders 7 = .ok (.istore 4, 2) := by decide +kernel
theorem dX8_gainOverOrders_9 : decode cX8_gainOverOrders 9 = .ok (.iload 4, 2) := by decide +kernel
theorem dX8_gainOverOrders_11 : decode cX8_gainOverOrders 11 = .ok (.iconst 1, 1) := by decide +kernel
theorem dX8_gainOverOrders_12 : decode cX8_gainOverOrders 12 = .ok (.aload_n 0, 1) := by decide +kernel
theorem dX8_gainOverOrders_13 : decode cX8_gainOverOrders 13 = .ok (.getfield 19, 3) := by decide +kernel
theorem dX8_gainOverOrders_16 : decode cX8_gainOverOrders 16 = .ok (.getfield 278, 3) := by decide +kernel
theorem dX8_gainOverOrders_19 : decode cX8_gainOverOrders 19 = .ok (.ishl, 1) := by decide +kernel
theorem dX8_gainOverOrders_20 : decode cX8_gainOverOrders 20 = .ok (.if_icmp .ge 69, 3) := by decide +kernel
theorem dX8_gainOverOrders_23 : decode cX8_gainOverOrders 23 = .ok (.iload 4, 2) := by decide +kernel
theorem dX8_gainOverOrders_25 : decode cX8_gainOverOrders 25 = .ok (.iload_n 2, 1) := by decide +kernel
theorem dX8_gainOverOrders_26 : decode cX8_gainOverOrders 26 = .ok (.iand, 1) := by decide +kernel
theorem dX8_gainOverOrders_27 : decode cX8_gainOverOrders 27 = .ok (.ifCond .ne 56, 3) := by decide +kernel
theorem dX8_gainOverOrders_30 : decode cX8_gainOverOrders 30 = .ok (.iload 4, 2) := by decide +kernel
theorem dX8_gainOverOrders_32 : decode cX8_gainOverOrders 32 = .ok (.invokestatic 458, 3) := by decide +kernel
theorem dX8_gainOverOrders_35 : decode cX8_gainOverOrders 35 = .ok (.istore 5, 2) := by decide +kernel
theorem dX8_gainOverOrders_37 : decode cX8_gainOverOrders 37 = .ok (.iload 5, 2) := by decide +kernel
theorem dX8_gainOverOrders_39 : decode cX8_gainOverOrders 39 = .ok (.invokestatic 316, 3) := by decide +kernel
theorem dX8_gainOverOrders_42 : decode cX8_gainOverOrders 42 = .ok (.aload_n 0, 1) := by decide +kernel
theorem dX8_gainOverOrders_43 : decode cX8_gainOverOrders 43 = .ok (.getfield 19, 3) := by decide +kernel
theorem dX8_gainOverOrders_46 : decode cX8_gainOverOrders 46 = .ok (.getfield 278, 3) := by decide +kernel
theorem dX8_gainOverOrders_49 : decode cX8_gainOverOrders 49 = .ok (.iconst 1, 1) := by decide +kernel
theorem dX8_gainOverOrders_50 : decode cX8_gainOverOrders 50 = .ok (.isub, 1) := by decide +kernel
theorem dX8_gainOverOrders_51 : decode cX8_gainOverOrders 51 = .ok (.iload 5, 2) := by decide +kernel
theorem dX8_gainOverOrders_53 : decode cX8_gainOverOrders 53 = .ok (.isub, 1) := by decide +kernel
theorem dX8_gainOverOrders_54 : decode cX8_gainOverOrders 54 = .ok (.invokestatic 316, 3) := by decide +kernel
theorem dX8_gainOverOrders_57 : decode cX8_gainOverOrders 57 = .ok (.imul, 1) := by decide +kernel
theorem dX8_gainOverOrders_58 : decode cX8_gainOverOrders 58 = .ok (.istore 6, 2) := by decide +kernel
theorem dX8_gainOverOrders_60 : decode cX8_gainOverOrders 60 = .ok (.iload_n 3, 1) := by decide +kernel
theorem dX8_gainOverOrders_61 : decode cX8_gainOverOrders 61 = .ok (.iload 6, 2) := by decide +kernel
theorem dX8_gainOverOrders_63 : decode cX8_gainOverOrders 63 = .ok (.aload_n 0, 1) := by decide +kernel
theorem dX8_gainOverOrders_64 : decode cX8_gainOverOrders 64 = .ok (.getfield 74, 3) := by decide +kernel
theorem dX8_gainOverOrders_67 : decode cX8_gainOverOrders 67 = .ok (.iload 4, 2) := by decide +kernel
theorem dX8_gainOverOrders_69 : decode cX8_gainOverOrders 69 = .ok (.iload_n 2, 1) := by decide +kernel
theorem dX8_gainOverOrders_70 : decode cX8_gainOverOrders 70 = .ok (.ior, 1) := by decide +kernel
theorem dX8_gainOverOrders_71 : decode cX8_gainOverOrders 71 = .ok (.iaload, 1) := by decide +kernel
theorem dX8_gainOverOrders_72 : decode cX8_gainOverOrders 72 = .ok (.aload_n 0, 1) := by decide +kernel
theorem dX8_gainOverOrders_73 : decode cX8_gainOverOrders 73 = .ok (.getfield 74, 3) := by decide +kernel
theorem dX8_gainOverOrders_76 : decode cX8_gainOverOrders 76 = .ok (.iload 4, 2) := by decide +kernel
theorem dX8_gainOverOrders_78 : decode cX8_gainOverOrders 78 = .ok (.iaload, 1) := by decide +kernel
theorem dX8_gainOverOrders_79 : decode cX8_gainOverOrders 79 = .ok (.isub, 1) := by decide +kernel
theorem dX8_gainOverOrders_80 : decode cX8_gainOverOrders 80 = .ok (.imul, 1) := by decide +kernel
theorem dX8_gainOverOrders_81 : decode cX8_gainOverOrders 81 = .ok (.iadd, 1) := by decide +kernel
theorem dX8_gainOverOrders_82 : decode cX8_gainOverOrders 82 = .ok (.istore_n 3, 1) := by decide +kernel
theorem dX8_gainOverOrders_83 : decode cX8_gainOverOrders 83 = .ok (.iinc 4 1, 3) := by decide +kernel
theorem dX8_gainOverOrders_86 : decode cX8_gainOverOrders 86 = .ok (.goto (-77), 3) := by decide +kernel
theorem dX8_gainOverOrders_89 : decode cX8_gainOverOrders 89 = .ok (.iload_n 3, 1) := by decide +kernel
theorem dX8_gainOverOrders_90 : decode cX8_gainOverOrders 90 = .ok (.ireturn, 1) := by decide +kernel
theorem dX8_gardens_0 : decode cX8_gardens 0 = .ok (.aload_n 0, 1) := by decide +kernel
theorem dX8_gardens_1 : decode cX8_gardens 1 = .ok (.iload_n 1, 1) := by decide +kernel
theorem dX8_gardens_2 : decode cX8_gardens 2 = .ok (.invokevirtual 239, 3) := by decide +kernel
theorem dX8_gardens_5 : decode cX8_gardens 5 = .ok (.ifCond .eq 14, 3) := by decide +kernel
theorem dX8_gardens_8 : decode cX8_gardens 8 = .ok (.aload_n 0, 1) := by decide +kernel
theorem dX8_gardens_9 : decode cX8_gardens 9 = .ok (.iload_n 1, 1) := by decide +kernel
theorem dX8_gardens_10 : decode cX8_gardens 10 = .ok (.invokevirtual 242, 3) := by decide +kernel
theorem dX8_gardens_13 : decode cX8_gardens 13 = .ok (.getfield 253, 3) := by decide +kernel
theorem dX8_gardens_16 : decode cX8_gardens 16 = .ok (.goto 5, 3) := by decide +kernel
theorem dX8_gardens_19 : decode cX8_gardens 19 = .ok (.bipush (-2), 2) := by decide +kernel
theorem dX8_gardens_21 : decode cX8_gardens 21 = .ok (.ireturn, 1) := by decide +kernel
theorem dX8_gets_0 : decode cX8_gets 0 = .ok (.aload_n 0, 1) := by decide +kernel
theorem dX8_gets_1 : decode cX8_gets 1 = .ok (.iload_n 1, 1) := by decide +kernel
theorem dX8_gets_2 : decode cX8_gets 2 = .ok (.invokevirtual 120, 3) := by decide +kernel
theorem dX8_gets_5 : decode cX8_gets 5 = .ok (.ifCond .eq 20, 3) := by decide +kernel
theorem dX8_gets_8 : decode cX8_gets 8 = .ok (.aload_n 0, 1) := by decide +kernel
theorem dX8_gets_9 : decode cX8_gets 9 = .ok (.iload_n 2, 1) := by decide +kernel
theorem dX8_gets_10 : decode cX8_gets 10 = .ok (.invokevirtual 120, 3) := by decide +kernel
theorem dX8_gets_13 : decode cX8_gets 13 = .ok (.ifCond .eq 12, 3) := by decide +kernel
theorem dX8_gets_16 : decode cX8_gets 16 = .ok (.iload_n 1, 1) := by decide +kernel
theorem dX8_gets_17 : decode cX8_gets 17 = .ok (.iload_n 2, 1) := by decide +kernel
theorem dX8_gets_18 : decode cX8_gets 18 = .ok (.if_icmp .eq 7, 3) := by decide +kernel
theorem dX8_gets_21 : decode cX8_gets 21 = .ok (.iconst 1, 1) := by decide +kernel
theorem dX8_gets_22 : decode cX8_gets 22 = .ok (.goto 4, 3) := by decide +kernel
theorem dX8_gets_25 : decode cX8_gets 25 = .ok (.iconst 0, 1) := by decide +kernel
theorem dX8_gets_26 : decode cX8_gets 26 = .ok (.istore 6, 2) := by decide +kernel
theorem dX8_gets_28 : decode cX8_gets 28 = .ok (.iload 6, 2) := by decide +kernel
theorem dX8_gets_30 : decode cX8_gets 30 = .ok (.ifCond .eq 26, 3) := by decide +kernel
theorem dX8_gets_33 : decode cX8_gets 33 = .ok (.iload_n 3, 1) := by decide +kernel
theorem dX8_gets_34 : decode cX8_gets 34 = .ok (.invokestatic 123, 3) := by decide +kernel
theorem dX8_gets_37 : decode cX8_gets 37 = .ok (.ifCond .eq 19, 3) := by decide +kernel
theorem dX8_gets_40 : decode cX8_gets 40 = .ok (.iload 4, 2) := by decide +kernel
theorem dX8_gets_42 : decode cX8_gets 42 = .ok (.invokestatic 123, 3) := by decide +kernel
theorem dX8_gets_45 : decode cX8_gets 45 = .ok (.ifCond .eq 11, 3) := by decide +kernel
theorem dX8_gets_48 : decode cX8_gets 48 = .ok (.iload 5, 2) := by decide +kernel
theorem dX8_gets_50 : decode cX8_gets 50 = .ok (.invokestatic 123, 3) := by decide +kernel
theorem dX8_gets_53 : decode cX8_gets 53 = .ok (.ifCond .ne 7, 3) := by decide +kernel
theorem dX8_gets_56 : decode cX8_gets 56 = .ok (.sipush (-1000), 3) := by decide +kernel
theorem dX8_gets_59 : decode cX8_gets 59 = .ok (.ireturn, 1) := by decide +kernel
theorem dX8_gets_60 : decode cX8_gets 60 = .ok (.aload_n 0, 1) := by decide +kernel
theorem dX8_gets_61 : decode cX8_gets 61 = .ok (.iload_n 1, 1) := by decide +kernel
theorem dX8_gets_62 : decode cX8_gets 62 = .ok (.iload_n 2, 1) := by decide +kernel
theorem dX8_gets_63 : decode cX8_gets 63 = .ok (.iload_n 3, 1) := by decide +kernel
theorem dX8_gets_64 : decode cX8_gets 64 = .ok (.iload 4, 2) := by decide +kernel
theorem dX8_gets_66 : decode cX8_gets 66 = .ok (.invokevirtual 332, 3) := by decide +kernel
theorem dX8_gets_69 : decode cX8_gets 69 = .ok (.astore 7, 2) := by decide +kernel
theorem dX8_gets_71 : decode cX8_gets 71 = .ok (.iload 5, 2) := by decide +kernel
theorem dX8_gets_73 : decode cX8_gets 73 = .ok (.ifCond .ne 12, 3) := by decide +kernel
theorem dX8_gets_76 : decode cX8_gets 76 = .ok (.aload 7, 2) := by decide +kernel
theorem dX8_gets_78 : decode cX8_gets 78 = .ok (.iload_n 3, 1) := by decide +kernel
theorem dX8_gets_79 : decode cX8_gets 79 = .ok (.invokestatic 336, 3) := by decide +kernel
theorem dX8_gets_82 : decode cX8_gets 82 = .ok (.goto 10, 3) := by decide +kernel
theorem dX8_gets_85 : decode cX8_gets 85 = .ok (.aload 7, 2) := by decide +kernel
theorem dX8_gets_87 : decode cX8_gets 87 = .ok (.iload 4, 2) := by decide +kernel
theorem dX8_gets_89 : decode cX8_gets 89 = .ok (.invokestatic 339, 3) := by decide +kernel
theorem dX8_gets_92 : decode cX8_gets 92 = .ok (.ireturn, 1) := by decide +kernel
theorem dX8_gone_0 : decode cX8_gone 0 = .ok (.aload_n 0, 1) := by decide +kernel
theorem dX8_gone_1 : decode cX8_gone 1 = .ok (.iload_n 1, 1) := by decide +kernel
theorem dX8_gone_2 : decode cX8_gone 2 = .ok (.invokevirtual 165, 3) := by decide +kernel
theorem dX8_gone_5 : decode cX8_gone 5 = .ok (.ifCond .eq 21, 3) := by decide +kernel
theorem dX8_gone_8 : decode cX8_gone 8 = .ok (.aload_n 0, 1) := by decide +kernel
theorem dX8_gone_9 : decode cX8_gone 9 = .ok (.iload_n 1, 1) := by decide +kernel
theorem dX8_gone_10 : decode cX8_gone 10 = .ok (.invokevirtual 135, 3) := by decide +kernel
theorem dX8_gone_13 : decode cX8_gone 13 = .ok (.aload_n 0, 1) := by decide +kernel
theorem dX8_gone_14 : decode cX8_gone 14 = .ok (.getfield 19, 3) := by decide +kernel
theorem dX8_gone_17 : decode cX8_gone 17 = .ok (.getfield 168, 3) := by decide +kernel
theorem dX8_gone_20 : decode cX8_gone 20 = .ok (.invokevirtual 174, 3) := by decide +kernel
theorem dX8_gone_23 : decode cX8_gone 23 = .ok (.goto 5, 3) := by decide +kernel
theorem dX8_gone_26 : decode cX8_gone 26 = .ok (.bipush (-2), 2) := by decide +kernel
theorem dX8_gone_28 : decode cX8_gone 28 = .ok (.ireturn, 1) := by decide +kernel
theorem dX8_greatest_0 : decode cX8_greatest 0 = .ok (.aload_n 0, 1) := by decide +kernel
theorem dX8_greatest_1 : decode cX8_greatest 1 = .ok (.iload_n 1, 1) := by decide +kernel
theorem dX8_greatest_2 : decode cX8_greatest 2 = .ok (.aload_n 0, 1) := by decide +kernel
theorem dX8_greatest_3 : decode cX8_greatest 3 = .ok (.iload_n 2, 1) := by decide +kernel
theorem dX8_greatest_4 : decode cX8_greatest 4 = .ok (.invokevirtual 113, 3) := by decide +kernel
theorem dX8_greatest_7 : decode cX8_greatest 7 = .ok (.invokevirtual 284, 3) := by decide +kernel
theorem dX8_greatest_10 : decode cX8_greatest 10 = .ok (.istore_n 3, 1) := by decide +kernel
theorem dX8_greatest_11 : decode cX8_greatest 11 = .ok (.iload_n 3, 1) := by decide +kernel
theorem dX8_greatest_12 : decode cX8_greatest 12 = .ok (.ifCond .eq 7, 3) := by decide +kernel
theorem dX8_greatest_15 : decode cX8_greatest 15 = .ok (.iload_n 3, 1) := by decide +kernel
theorem dX8_greatest_16 : decode cX8_greatest 16 = .ok (.goto 12, 3) := by decide +kernel
theorem dX8_greatest_19 : decode cX8_greatest 19 = .ok (.aload_n 0, 1) := by decide +kernel
theorem dX8_greatest_20 : decode cX8_greatest 20 = .ok (.iload_n 1, 1) := by decide +kernel
theorem dX8_greatest_21 : decode cX8_greatest 21 = .ok (.iload_n 2, 1) := by decide +kernel
theorem dX8_greatest_22 : decode cX8_greatest 22 = .ok (.invokevirtual 288, 3) := by decide +kernel
theorem dX8_greatest_25 : decode cX8_greatest 25 = .ok (.invokevirtual 296, 3) := by decide +kernel
theorem dX8_greatest_28 : decode cX8_greatest 28 = .ok (.ireturn, 1) := by decide +kernel
theorem dX8_heap_0 : decode cX8_heap 0 = .ok (.aload_n 0, 1) := by decide +kernel
theorem dX8_heap_1 : decode cX8_heap 1 = .ok (.iload_n 1, 1) := by decide +kernel
theorem dX8_heap_2 : decode cX8_heap 2 = .ok (.invokevirtual 132, 3) := by decide +kernel
theorem dX8_heap_5 : decode cX8_heap 5 = .ok (.ifCond .eq 7, 3) := by decide +kernel
theorem dX8_heap_8 : decode cX8_heap 8 = .ok (.iload_n 2, 1) := by decide +kernel
theorem dX8_heap_9 : decode cX8_heap 9 = .ok (.ifCond .ge 6, 3) := by decide +kernel
theorem dX8_heap_12 : decode cX8_heap 12 = .ok (.bipush (-2), 2) := by decide +kernel
theorem dX8_heap_14 : decode cX8_heap 14 = .ok (.ireturn, 1) := by decide +kernel
theorem dX8_heap_15 : decode cX8_heap 15 = .ok (.aload_n 0, 1) := by decide +kernel
theorem dX8_heap_16 : decode cX8_heap 16 = .ok (.iload_n 1, 1) := by decide +kernel
theorem dX8_heap_17 : decode cX8_heap 17 = .ok (.invokevirtual 135, 3) := by decide +kernel
theorem dX8_heap_20 : decode cX8_heap 20 = .ok (.iload_n 2, 1) := by decide +kernel
theorem dX8_heap_21 : decode cX8_heap 21 = .ok (.invokevirtual 142, 3) := by decide +kernel
theorem dX8_heap_24 : decode cX8_heap 24 = .ok (.ireturn, 1) := by decide +kernel
theorem dX8_heaps_0 : decode cX8_heaps 0 = .ok (.aload_n 0, 1) := by decide +kernel
theorem dX8_heaps_1 : decode cX8_heaps 1 = .ok (.iload_n 1, 1) := by decide +kernel
theorem dX8_heaps_2 : decode cX8_heaps 2 = .ok (.invokevirtual 132, 3) := by decide +kernel
theorem dX8_heaps_5 : decode cX8_heaps 5 = .ok (.ifCond .eq 14, 3) := by decide +kernel
theorem dX8_heaps_8 : decode cX8_heaps 8 = .ok (.aload_n 0, 1) := by decide +kernel
theorem dX8_heaps_9 : decode cX8_heaps 9 = .ok (.iload_n 1, 1) := by decide +kernel
theorem dX8_heaps_10 : decode cX8_heaps 10 = .ok (.invokevirtual 135, 3) := by decide +kernel
theorem dX8_heaps_13 : decode cX8_heaps 13 = .ok (.getfield 139, 3) := by decide +kernel
theorem dX8_heaps_16 : decode cX8_heaps 16 = .ok (.goto 5, 3) := by decide +kernel
theorem dX8_heaps_19 : decode cX8_heaps 19 = .ok (.bipush (-2), 2) := by decide +kernel
theorem dX8_heaps_21 : decode cX8_heaps 21 = .ok (.ireturn, 1) := by decide +kernel
theorem dX8_heapsAtLast_0 : decode cX8_heapsAtLast 0 = .ok (.aload_n 0, 1) := by decide +kernel
theorem dX8_heapsAtLast_1 : decode cX8_heapsAtLast 1 = .ok (.aload_n 0, 1) := by decide +kernel
theorem dX8_heapsAtLast_2 : decode cX8_heapsAtLast 2 = .ok (.getfield 19, 3) := by decide +kernel
theorem dX8_heapsAtLast_5 : decode cX8_heapsAtLast 5 = .ok (.getfield 181, 3) := by decide +kernel
theorem dX8_heapsAtLast_8 : decode cX8_heapsAtLast 8 = .ok (.invokevirtual 135, 3) := by decide +kernel
theorem dX8_heapsAtLast_11 : decode cX8_heapsAtLast 11 = .ok (.getfield 139, 3) := by decide +kernel
theorem dX8_heapsAtLast_14 : decode cX8_heapsAtLast 14 = .ok (.ireturn, 1) := by decide +kernel
theorem dX8_heapsWithMore_0 : decode cX8_heapsWithMore 0 = .ok (.aload_n 0, 1) := by decide +kernel
theorem dX8_heapsWithMore_1 : decode cX8_heapsWithMore 1 = .ok (.getfield 43, 3) := by decide +kernel
theorem dX8_heapsWithMore_4 : decode cX8_heapsWithMore 4 = .ok (.aload_n 0, 1) := by decide +kernel
theorem dX8_heapsWithMore_5 : decode cX8_heapsWithMore 5 = .ok (.getfield 19, 3) := by decide +kernel
theorem dX8_heapsWithMore_8 : decode cX8_heapsWithMore 8 = .ok (.invokevirtual 420, 3) := by decide +kernel
theorem dX8_heapsWithMore_11 : decode cX8_heapsWithMore 11 = .ok (.aload_n 0, 1) := by decide +kernel
theorem dX8_heapsWithMore_12 : decode cX8_heapsWithMore 12 = .ok (.getfield 43, 3) := by decide +kernel
theorem dX8_heapsWithMore_15 : decode cX8_heapsWithMore 15 = .ok (.iload_n 1, 1) := by decide +kernel
theorem dX8_heapsWithMore_16 : decode cX8_heapsWithMore 16 = .ok (.putfield 436, 3) := by decide +kernel
theorem dX8_heapsWithMore_19 : decode cX8_heapsWithMore 19 = .ok (.aload_n 0, 1) := by decide +kernel
theorem dX8_heapsWithMore_20 : decode cX8_heapsWithMore 20 = .ok (.getfield 43, 3) := by decide +kernel
theorem dX8_heapsWithMore_23 : decode cX8_heapsWithMore 23 = .ok (.iload_n 2, 1) := by decide +kernel
theorem dX8_heapsWithMore_24 : decode cX8_heapsWithMore 24 = .ok (.putfield 439, 3) := by decide +kernel
theorem dX8_heapsWithMore_27 : decode cX8_heapsWithMore 27 = .ok (.aload_n 0, 1) := by decide +kernel
theorem dX8_heapsWithMore_28 : decode cX8_heapsWithMore 28 = .ok (.getfield 43, 3) := by decide +kernel
theorem dX8_heapsWithMore_31 : decode cX8_heapsWithMore 31 = .ok (.aload_n 0, 1) := by decide +kernel
theorem dX8_heapsWithMore_32 : decode cX8_heapsWithMore 32 = .ok (.getfield 19, 3) := by decide +kernel
theorem dX8_heapsWithMore_35 : decode cX8_heapsWithMore 35 = .ok (.invokevirtual 423, 3) := by decide +kernel
theorem dX8_heapsWithMore_38 : decode cX8_heapsWithMore 38 = .ok (.aload_n 0, 1) := by decide +kernel
theorem dX8_heapsWithMore_39 : decode cX8_heapsWithMore 39 = .ok (.getfield 43, 3) := by decide +kernel
theorem dX8_heapsWithMore_42 : decode cX8_heapsWithMore 42 = .ok (.aload_n 0, 1) := by decide +kernel
theorem dX8_heapsWithMore_43 : decode cX8_heapsWithMore 43 = .ok (.getfield 19, 3) := by decide +kernel
theorem dX8_heapsWithMore_46 : decode cX8_heapsWithMore 46 = .ok (.getfield 181, 3) := by decide +kernel
theorem dX8_heapsWithMore_49 : decode cX8_heapsWithMore 49 = .ok (.invokevirtual 426, 3) := by decide +kernel
theorem dX8_heapsWithMore_52 : decode cX8_heapsWithMore 52 = .ok (.getfield 139, 3) := by decide +kernel
theorem dX8_heapsWithMore_55 : decode cX8_heapsWithMore 55 = .ok (.ireturn, 1) := by decide +kernel
theorem dX8_heapsWithSet_0 : decode cX8_heapsWithSet 0 = .ok (.aload_n 0, 1) := by decide +kernel
theorem dX8_heapsWithSet_1 : decode cX8_heapsWithSet 1 = .ok (.getfield 43, 3) := by decide +kernel
theorem dX8_heapsWithSet_4 : decode cX8_heapsWithSet 4 = .ok (.aload_n 0, 1) := by decide +kernel
theorem dX8_heapsWithSet_5 : decode cX8_heapsWithSet 5 = .ok (.getfield 19, 3) := by decide +kernel
theorem dX8_heapsWithSet_8 : decode cX8_heapsWithSet 8 = .ok (.invokevirtual 420, 3) := by decide +kernel
theorem dX8_heapsWithSet_11 : decode cX8_heapsWithSet 11 = .ok (.aload_n 0, 1) := by decide +kernel
theorem dX8_heapsWithSet_12 : decode cX8_heapsWithSet 12 = .ok (.getfield 43, 3) := by decide +kernel
theorem dX8_heapsWithSet_15 : decode cX8_heapsWithSet 15 = .ok (.iload_n 1, 1) := by decide +kernel
theorem dX8_heapsWithSet_16 : decode cX8_heapsWithSet 16 = .ok (.putfield 442, 3) := by decide +kernel
theorem dX8_heapsWithSet_19 : decode cX8_heapsWithSet 19 = .ok (.aload_n 0, 1) := by decide +kernel
theorem dX8_heapsWithSet_20 : decode cX8_heapsWithSet 20 = .ok (.getfield 43, 3) := by decide +kernel
theorem dX8_heapsWithSet_23 : decode cX8_heapsWithSet 23 = .ok (.aload_n 0, 1) := by decide +kernel
theorem dX8_heapsWithSet_24 : decode cX8_heapsWithSet 24 = .ok (.getfield 19, 3) := by decide +kernel
theorem dX8_heapsWithSet_27 : decode cX8_heapsWithSet 27 = .ok (.invokevirtual 423, 3) := by decide +kernel
theorem dX8_heapsWithSet_30 : decode cX8_heapsWithSet 30 = .ok (.aload_n 0, 1) := by decide +kernel
theorem dX8_heapsWithSet_31 : decode cX8_heapsWithSet 31 = .ok (.getfield 43, 3) := by decide +kernel
theorem dX8_heapsWithSet_34 : decode cX8_heapsWithSet 34 = .ok (.aload_n 0, 1) := by decide +kernel
theorem dX8_heapsWithSet_35 : decode cX8_heapsWithSet 35 = .ok (.getfield 19, 3) := by decide +kernel
theorem dX8_heapsWithSet_38 : decode cX8_heapsWithSet 38 = .ok (.getfield 181, 3) := by decide +kernel
theorem dX8_heapsWithSet_41 : decode cX8_heapsWithSet 41 = .ok (.invokevirtual 426, 3) := by decide +kernel
theorem dX8_heapsWithSet_44 : decode cX8_heapsWithSet 44 = .ok (.getfield 139, 3) := by decide +kernel
theorem dX8_heapsWithSet_47 : decode cX8_heapsWithSet 47 = .ok (.ireturn, 1) := by decide +kernel
theorem dX8_heapsWithWet_0 : decode cX8_heapsWithWet 0 = .ok (.aload_n 0, 1) := by decide +kernel
theorem dX8_heapsWithWet_1 : decode cX8_heapsWithWet 1 = .ok (.getfield 43, 3) := by decide +kernel
theorem dX8_heapsWithWet_4 : decode cX8_heapsWithWet 4 = .ok (.aload_n 0, 1) := by decide +kernel
theorem dX8_heapsWithWet_5 : decode cX8_heapsWithWet 5 = .ok (.getfield 19, 3) := by decide +kernel
theorem dX8_heapsWithWet_8 : decode cX8_heapsWithWet 8 = .ok (.invokevirtual 420, 3) := by decide +kernel
theorem dX8_heapsWithWet_11 : decode cX8_heapsWithWet 11 = .ok (.aload_n 0, 1) := by decide +kernel
theorem dX8_heapsWithWet_12 : decode cX8_heapsWithWet 12 = .ok (.getfield 43, 3) := by decide +kernel
theorem dX8_heapsWithWet_15 : decode cX8_heapsWithWet 15 = .ok (.iload_n 1, 1) := by decide +kernel
theorem dX8_heapsWithWet_16 : decode cX8_heapsWithWet 16 = .ok (.putfield 445, 3) := by decide +kernel
theorem dX8_heapsWithWet_19 : decode cX8_heapsWithWet 19 = .ok (.aload_n 0, 1) := by decide +kernel
theorem dX8_heapsWithWet_20 : decode cX8_heapsWithWet 20 = .ok (.getfield 43, 3) := by decide +kernel
theorem dX8_heapsWithWet_23 : decode cX8_heapsWithWet 23 = .ok (.aload_n 0, 1) := by decide +kernel
theorem dX8_heapsWithWet_24 : decode cX8_heapsWithWet 24 = .ok (.getfield 19, 3) := by decide +kernel
theorem dX8_heapsWithWet_27 : decode cX8_heapsWithWet 27 = .ok (.invokevirtual 423, 3) := by decide +kernel
theorem dX8_heapsWithWet_30 : decode cX8_heapsWithWet 30 = .ok (.aload_n 0, 1) := by decide +kernel
theorem dX8_heapsWithWet_31 : decode cX8_heapsWithWet 31 = .ok (.getfield 43, 3) := by decide +kernel
theorem dX8_heapsWithWet_34 : decode cX8_heapsWithWet 34 = .ok (.aload_n 0, 1) := by decide +kernel
theorem dX8_heapsWithWet_35 : decode cX8_heapsWithWet 35 = .ok (.getfield 19, 3) := by decide +kernel
theorem dX8_heapsWithWet_38 : decode cX8_heapsWithWet 38 = .ok (.getfield 181, 3) := by decide +kernel
theorem dX8_heapsWithWet_41 : decode cX8_heapsWithWet 41 = .ok (.invokevirtual 426, 3) := by decide +kernel
theorem dX8_heapsWithWet_44 : decode cX8_heapsWithWet 44 = .ok (.getfield 139, 3) := by decide +kernel
theorem dX8_heapsWithWet_47 : decode cX8_heapsWithWet 47 = .ok (.ireturn, 1) := by decide +kernel
theorem dX8_heights_0 : decode cX8_heights 0 = .ok (.aload_n 0, 1) := by decide +kernel
theorem dX8_heights_1 : decode cX8_heights 1 = .ok (.iload_n 1, 1) := by decide +kernel
theorem dX8_heights_2 : decode cX8_heights 2 = .ok (.aload_n 0, 1) := by decide +kernel
theorem dX8_heights_3 : decode cX8_heights 3 = .ok (.iload_n 2, 1) := by decide +kernel
theorem dX8_heights_4 : decode cX8_heights 4 = .ok (.invokevirtual 113, 3) := by decide +kernel
theorem dX8_heights_7 : decode cX8_heights 7 = .ok (.invokevirtual 284, 3) := by decide +kernel
theorem dX8_heights_10 : decode cX8_heights 10 = .ok (.istore_n 3, 1) := by decide +kernel
theorem dX8_heights_11 : decode cX8_heights 11 = .ok (.iload_n 3, 1) := by decide +kernel
theorem dX8_heights_12 : decode cX8_heights 12 = .ok (.ifCond .eq 7, 3) := by decide +kernel
theorem dX8_heights_15 : decode cX8_heights 15 = .ok (.iload_n 3, 1) := by decide +kernel
theorem dX8_heights_16 : decode cX8_heights 16 = .ok (.goto 12, 3) := by decide +kernel
theorem dX8_heights_19 : decode cX8_heights 19 = .ok (.aload_n 0, 1) := by decide +kernel
theorem dX8_heights_20 : decode cX8_heights 20 = .ok (.iload_n 1, 1) := by decide +kernel
theorem dX8_heights_21 : decode cX8_heights 21 = .ok (.iload_n 2, 1) := by decide +kernel
theorem dX8_heights_22 : decode cX8_heights 22 = .ok (.invokevirtual 288, 3) := by decide +kernel
theorem dX8_heights_25 : decode cX8_heights 25 = .ok (.getfield 292, 3) := by decide +kernel
theorem dX8_heights_28 : decode cX8_heights 28 = .ok (.ireturn, 1) := by decide +kernel
theorem dX8_image_0 : decode cX8_image 0 = .ok (.iload_n 1, 1) := by decide +kernel
theorem dX8_image_1 : decode cX8_image 1 = .ok (.ifCond .lt 8, 3) := by decide +kernel
theorem dX8_image_4 : decode cX8_image 4 = .ok (.iload_n 1, 1) := by decide +kernel
theorem dX8_image_5 : decode cX8_image 5 = .ok (.iconst 3, 1) := by decide +kernel
theorem dX8_image_6 : decode cX8_image 6 = .ok (.if_icmp .lt 6, 3) := by decide +kernel
theorem dX8_image_9 : decode cX8_image 9 = .ok (.bipush (-2), 2) := by decide +kernel
theorem dX8_image_11 : decode cX8_image 11 = .ok (.ireturn, 1) := by decide +kernel
theorem dX8_image_12 : decode cX8_image 12 = .ok (.aload_n 0, 1) := by decide +kernel
theorem dX8_image_13 : decode cX8_image 13 = .ok (.getfield 26, 3) := by decide +kernel
theorem dX8_image_16 : decode cX8_image 16 = .ok (.iload_n 1, 1) := by decide +kernel
theorem dX8_image_17 : decode cX8_image 17 = .ok (.aaload, 1) := by decide +kernel
theorem dX8_image_18 : decode cX8_image 18 = .ok (.aload_n 0, 1) := by decide +kernel
theorem dX8_image_19 : decode cX8_image 19 = .ok (.getfield 19, 3) := by decide +kernel
theorem dX8_image_22 : decode cX8_image 22 = .ok (.invokevirtual 97, 3) := by decide +kernel
theorem dX8_image_25 : decode cX8_image 25 = .ok (.aload_n 0, 1) := by decide +kernel
theorem dX8_image_26 : decode cX8_image 26 = .ok (.getfield 26, 3) := by decide +kernel
theorem dX8_image_29 : decode cX8_image 29 = .ok (.iload_n 1, 1) := by decide +kernel
theorem dX8_image_30 : decode cX8_image 30 = .ok (.aaload, 1) := by decide +kernel
theorem dX8_image_31 : decode cX8_image 31 = .ok (.iconst 1, 1) := by decide +kernel
theorem dX8_image_32 : decode cX8_image 32 = .ok (.putfield 378, 3) := by decide +kernel
theorem dX8_image_35 : decode cX8_image 35 = .ok (.iconst 0, 1) := by decide +kernel
theorem dX8_image_36 : decode cX8_image 36 = .ok (.ireturn, 1) := by decide +kernel
theorem dX8_isCart_0 : decode cX8_isCart 0 = .ok (.iload_n 1, 1) := by decide +kernel
theorem dX8_isCart_1 : decode cX8_isCart 1 = .ok (.ifCond .lt 18, 3) := by decide +kernel
theorem dX8_isCart_4 : decode cX8_isCart 4 = .ok (.iload_n 1, 1) := by decide +kernel
theorem dX8_isCart_5 : decode cX8_isCart 5 = .ok (.aload_n 0, 1) := by decide +kernel
theorem dX8_isCart_6 : decode cX8_isCart 6 = .ok (.getfield 19, 3) := by decide +kernel
theorem dX8_isCart_9 : decode cX8_isCart 9 = .ok (.getfield 278, 3) := by decide +kernel
theorem dX8_isCart_12 : decode cX8_isCart 12 = .ok (.if_icmp .ge 7, 3) := by decide +kernel
theorem dX8_isCart_15 : decode cX8_isCart 15 = .ok (.iconst 1, 1) := by decide +kernel
theorem dX8_isCart_16 : decode cX8_isCart 16 = .ok (.goto 4, 3) := by decide +kernel
theorem dX8_isCart_19 : decode cX8_isCart 19 = .ok (.iconst 0, 1) := by decide +kernel
theorem dX8_isCart_20 : decode cX8_isCart 20 = .ok (.ireturn, 1) := by decide +kernel
theorem dX8_isChanceDay_0 : decode cX8_isChanceDay 0 = .ok (.aload_n 0, 1) := by decide +kernel
theorem dX8_isChanceDay_1 : decode cX8_isChanceDay 1 = .ok (.iload_n 1, 1) := by decide +kernel
theorem dX8_isChanceDay_2 : decode cX8_isChanceDay 2 = .ok (.invokevirtual 165, 3) := by decide +kernel
theorem dX8_isChanceDay_5 : decode cX8_isChanceDay 5 = .ok (.ifCond .eq 13, 3) := by decide +kernel
theorem dX8_isChanceDay_8 : decode cX8_isChanceDay 8 = .ok (.iload_n 1, 1) := by decide +kernel
theorem dX8_isChanceDay_9 : decode cX8_isChanceDay 9 = .ok (.bipush 7, 2) := by decide +kernel
theorem dX8_isChanceDay_11 : decode cX8_isChanceDay 11 = .ok (.if_icmp .gt 7, 3) := by decide +kernel
theorem dX8_isChanceDay_14 : decode cX8_isChanceDay 14 = .ok (.iconst 1, 1) := by decide +kernel
theorem dX8_isChanceDay_15 : decode cX8_isChanceDay 15 = .ok (.goto 4, 3) := by decide +kernel
theorem dX8_isChanceDay_18 : decode cX8_isChanceDay 18 = .ok (.iconst 0, 1) := by decide +kernel
theorem dX8_isChanceDay_19 : decode cX8_isChanceDay 19 = .ok (.ireturn, 1) := by decide +kernel
theorem dX8_isDay_0 : decode cX8_isDay 0 = .ok (.aload_n 0, 1) := by decide +kernel
theorem dX8_isDay_1 : decode cX8_isDay 1 = .ok (.invokevirtual 177, 3) := by decide +kernel
theorem dX8_isDay_4 : decode cX8_isDay 4 = .ok (.ifCond .ne 22, 3) := by decide +kernel
theorem dX8_isDay_7 : decode cX8_isDay 7 = .ok (.iload_n 1, 1) := by decide +kernel
theorem dX8_isDay_8 : decode cX8_isDay 8 = .ok (.ifCond .lt 18, 3) := by decide +kernel
theorem dX8_isDay_11 : decode cX8_isDay 11 = .ok (.iload_n 1, 1) := by decide +kernel
theorem dX8_isDay_12 : decode cX8_isDay 12 = .ok (.aload_n 0, 1) := by decide +kernel
theorem dX8_isDay_13 : decode cX8_isDay 13 = .ok (.getfield 19, 3) := by decide +kernel
theorem dX8_isDay_16 : decode cX8_isDay 16 = .ok (.getfield 181, 3) := by decide +kernel
theorem dX8_isDay_19 : decode cX8_isDay 19 = .ok (.if_icmp .gt 7, 3) := by decide +kernel
theorem dX8_isDay_22 : decode cX8_isDay 22 = .ok (.iconst 1, 1) := by decide +kernel
theorem dX8_isDay_23 : decode cX8_isDay 23 = .ok (.goto 4, 3) := by decide +kernel
theorem dX8_isDay_26 : decode cX8_isDay 26 = .ok (.iconst 0, 1) := by decide +kernel
theorem dX8_isDay_27 : decode cX8_isDay 27 = .ok (.ireturn, 1) := by decide +kernel
theorem dX8_isDayAheadOfLast_0 : decode cX8_isDayAheadOfLast 0 = .ok (.aload_n 0, 1) := by decide +kernel
theorem dX8_isDayAheadOfLast_1 : decode cX8_isDayAheadOfLast 1 = .ok (.iload_n 1, 1) := by decide +kernel
theorem dX8_isDayAheadOfLast_2 : decode cX8_isDayAheadOfLast 2 = .ok (.invokevirtual 132, 3) := by decide +kernel
theorem dX8_isDayAheadOfLast_5 : decode cX8_isDayAheadOfLast 5 = .ok (.ifCond .eq 18, 3) := by decide +kernel
theorem dX8_isDayAheadOfLast_8 : decode cX8_isDayAheadOfLast 8 = .ok (.iload_n 1, 1) := by decide +kernel
theorem dX8_isDayAheadOfLast_9 : decode cX8_isDayAheadOfLast 9 = .ok (.aload_n 0, 1) := by decide +kernel
theorem dX8_isDayAheadOfLast_10 : decode cX8_isDayAheadOfLast 10 = .ok (.getfield 19, 3) := by decide +kernel
theorem dX8_isDayAheadOfLast_13 : decode cX8_isDayAheadOfLast 13 = .ok (.getfield 181, 3) := by decide +kernel
theorem dX8_isDayAheadOfLast_16 : decode cX8_isDayAheadOfLast 16 = .ok (.if_icmp .ge 7, 3) := by decide +kernel
theorem dX8_isDayAheadOfLast_19 : decode cX8_isDayAheadOfLast 19 = .ok (.iconst 1, 1) := by decide +kernel
theorem dX8_isDayAheadOfLast_20 : decode cX8_isDayAheadOfLast 20 = .ok (.goto 4, 3) := by decide +kernel
theorem dX8_isDayAheadOfLast_23 : decode cX8_isDayAheadOfLast 23 = .ok (.iconst 0, 1) := by decide +kernel
theorem dX8_isDayAheadOfLast_24 : decode cX8_isDayAheadOfLast 24 = .ok (.ireturn, 1) := by decide +kernel
theorem dX8_isOfAll_0 : decode cX8_isOfAll 0 = .ok (.aload_n 0, 1) := by decide +kernel
theorem dX8_isOfAll_1 : decode cX8_isOfAll 1 = .ok (.invokevirtual 177, 3) := by decide +kernel
theorem dX8_isOfAll_4 : decode cX8_isOfAll 4 = .ok (.ifCond .ne 18, 3) := by decide +kernel
theorem dX8_isOfAll_7 : decode cX8_isOfAll 7 = .ok (.iload_n 1, 1) := by decide +kernel
theorem dX8_isOfAll_8 : decode cX8_isOfAll 8 = .ok (.iconst 1, 1) := by decide +kernel
theorem dX8_isOfAll_9 : decode cX8_isOfAll 9 = .ok (.if_icmp .lt 13, 3) := by decide +kernel
theorem dX8_isOfAll_12 : decode cX8_isOfAll 12 = .ok (.iload_n 1, 1) := by decide +kernel
theorem dX8_isOfAll_13 : decode cX8_isOfAll 13 = .ok (.bipush 14, 2) := by decide +kernel
theorem dX8_isOfAll_15 : decode cX8_isOfAll 15 = .ok (.if_icmp .gt 7, 3) := by decide +kernel
theorem dX8_isOfAll_18 : decode cX8_isOfAll 18 = .ok (.iconst 1, 1) := by decide +kernel
theorem dX8_isOfAll_19 : decode cX8_isOfAll 19 = .ok (.goto 4, 3) := by decide +kernel
theorem dX8_isOfAll_22 : decode cX8_isOfAll 22 = .ok (.iconst 0, 1) := by decide +kernel
theorem dX8_isOfAll_23 : decode cX8_isOfAll 23 = .ok (.ireturn, 1) := by decide +kernel
theorem dX8_isSlot_0 : decode cX8_isSlot 0 = .ok (.iload_n 0, 1) := by decide +kernel
theorem dX8_isSlot_1 : decode cX8_isSlot 1 = .ok (.ifCond .lt 12, 3) := by decide +kernel
theorem dX8_isSlot_4 : decode cX8_isSlot 4 = .ok (.iload_n 0, 1) := by decide +kernel
theorem dX8_isSlot_5 : decode cX8_isSlot 5 = .ok (.iconst 4, 1) := by decide +kernel
theorem dX8_isSlot_6 : decode cX8_isSlot 6 = .ok (.if_icmp .ge 7, 3) := by decide +kernel
theorem dX8_isSlot_9 : decode cX8_isSlot 9 = .ok (.iconst 1, 1) := by decide +kernel
theorem dX8_isSlot_10 : decode cX8_isSlot 10 = .ok (.goto 4, 3) := by decide +kernel
theorem dX8_isSlot_13 : decode cX8_isSlot 13 = .ok (.iconst 0, 1) := by decide +kernel
theorem dX8_isSlot_14 : decode cX8_isSlot 14 = .ok (.ireturn, 1) := by decide +kernel
theorem dX8_isTold_0 : decode cX8_isTold 0 = .ok (.iload_n 1, 1) := by decide +kernel
theorem dX8_isTold_1 : decode cX8_isTold 1 = .ok (.ifCond .lt 18, 3) := by decide +kernel
theorem dX8_isTold_4 : decode cX8_isTold 4 = .ok (.iload_n 1, 1) := by decide +kernel
theorem dX8_isTold_5 : decode cX8_isTold 5 = .ok (.aload_n 0, 1) := by decide +kernel
theorem dX8_isTold_6 : decode cX8_isTold 6 = .ok (.getfield 19, 3) := by decide +kernel
theorem dX8_isTold_9 : decode cX8_isTold 9 = .ok (.getfield 372, 3) := by decide +kernel
theorem dX8_isTold_12 : decode cX8_isTold 12 = .ok (.if_icmp .ge 7, 3) := by decide +kernel
theorem dX8_isTold_15 : decode cX8_isTold 15 = .ok (.iconst 1, 1) := by decide +kernel
theorem dX8_isTold_16 : decode cX8_isTold 16 = .ok (.goto 4, 3) := by decide +kernel
theorem dX8_isTold_19 : decode cX8_isTold 19 = .ok (.iconst 0, 1) := by decide +kernel
theorem dX8_isTold_20 : decode cX8_isTold 20 = .ok (.ireturn, 1) := by decide +kernel
theorem dX8_isWhat_0 : decode cX8_isWhat 0 = .ok (.iload_n 0, 1) := by decide +kernel
theorem dX8_isWhat_1 : decode cX8_isWhat 1 = .ok (.ifCond .eq 8, 3) := by decide +kernel
theorem dX8_isWhat_4 : decode cX8_isWhat 4 = .ok (.iload_n 0, 1) := by decide +kernel
theorem dX8_isWhat_5 : decode cX8_isWhat 5 = .ok (.iconst 1, 1) := by decide +kernel
theorem dX8_isWhat_6 : decode cX8_isWhat 6 = .ok (.if_icmp .ne 7, 3) := by decide +kernel
theorem dX8_isWhat_9 : decode cX8_isWhat 9 = .ok (.iconst 1, 1) := by decide +kernel
theorem dX8_isWhat_10 : decode cX8_isWhat 10 = .ok (.goto 4, 3) := by decide +kernel
theorem dX8_isWhat_13 : decode cX8_isWhat 13 = .ok (.iconst 0, 1) := by decide +kernel
theorem dX8_isWhat_14 : decode cX8_isWhat 14 = .ok (.ireturn, 1) := by decide +kernel
theorem dX8_knowWorths_0 : decode cX8_knowWorths 0 = .ok (.aload_n 0, 1) := by decide +kernel
theorem dX8_knowWorths_1 : decode cX8_knowWorths 1 = .ok (.getfield 417, 3) := by decide +kernel
theorem dX8_knowWorths_4 : decode cX8_knowWorths 4 = .ok (.ifCond .eq 4, 3) := by decide +kernel
theorem dX8_knowWorths_7 : decode cX8_knowWorths 7 = .ok (.return_, 1) := by decide +kernel
theorem dX8_knowWorths_8 : decode cX8_knowWorths 8 = .ok (.iconst 0, 1) := by decide +kernel
theorem dX8_knowWorths_9 : decode cX8_knowWorths 9 = .ok (.istore_n 1, 1) := by decide +kernel
theorem dX8_knowWorths_10 : decode cX8_knowWorths 10 = .ok (.iload_n 1, 1) := by decide +kernel
theorem dX8_knowWorths_11 : decode cX8_knowWorths 11 = .ok (.iconst 1, 1) := by decide +kernel
theorem dX8_knowWorths_12 : decode cX8_knowWorths 12 = .ok (.aload_n 0, 1) := by decide +kernel
theorem dX8_knowWorths_13 : decode cX8_knowWorths 13 = .ok (.getfield 19, 3) := by decide +kernel
theorem dX8_knowWorths_16 : decode cX8_knowWorths 16 = .ok (.getfield 278, 3) := by decide +kernel
theorem dX8_knowWorths_19 : decode cX8_knowWorths 19 = .ok (.ishl, 1) := by decide +kernel
theorem dX8_knowWorths_20 : decode cX8_knowWorths 20 = .ok (.if_icmp .ge 20, 3) := by decide +kernel
theorem dX8_knowWorths_23 : decode cX8_knowWorths 23 = .ok (.aload_n 0, 1) := by decide +kernel
theorem dX8_knowWorths_24 : decode cX8_knowWorths 24 = .ok (.getfield 74, 3) := by decide +kernel
theorem dX8_knowWorths_27 : decode cX8_knowWorths 27 = .ok (.iload_n 1, 1) := by decide +kernel
theorem dX8_knowWorths_28 : decode cX8_knowWorths 28 = .ok (.aload_n 0, 1) := by decide +kernel
theorem dX8_knowWorths_29 : decode cX8_knowWorths 29 = .ok (.iload_n 1, 1) := by decide +kernel
theorem dX8_knowWorths_30 : decode cX8_knowWorths 30 = .ok (.invokevirtual 281, 3) := by decide +kernel
theorem dX8_knowWorths_33 : decode cX8_knowWorths 33 = .ok (.iastore, 1) := by decide +kernel
theorem dX8_knowWorths_34 : decode cX8_knowWorths 34 = .ok (.iinc 1 1, 3) := by decide +kernel
theorem dX8_knowWorths_37 : decode cX8_knowWorths 37 = .ok (.goto (-27), 3) := by decide +kernel
theorem dX8_knowWorths_40 : decode cX8_knowWorths 40 = .ok (.aload_n 0, 1) := by decide +kernel
theorem dX8_knowWorths_41 : decode cX8_knowWorths 41 = .ok (.iconst 1, 1) := by decide +kernel
theorem dX8_knowWorths_42 : decode cX8_knowWorths 42 = .ok (.putfield 417, 3) := by decide +kernel
theorem dX8_knowWorths_45 : decode cX8_knowWorths 45 = .ok (.return_, 1) := by decide +kernel
theorem dX8_later_0 : decode cX8_later 0 = .ok (.aload_n 0, 1) := by decide +kernel
theorem dX8_later_1 : decode cX8_later 1 = .ok (.iload_n 1, 1) := by decide +kernel
theorem dX8_later_2 : decode cX8_later 2 = .ok (.invokevirtual 132, 3) := by decide +kernel
theorem dX8_later_5 : decode cX8_later 5 = .ok (.ifCond .eq 18, 3) := by decide +kernel
theorem dX8_later_8 : decode cX8_later 8 = .ok (.iload_n 2, 1) := by decide +kernel
theorem dX8_later_9 : decode cX8_later 9 = .ok (.ifCond .lt 14, 3) := by decide +kernel
theorem dX8_later_12 : decode cX8_later 12 = .ok (.iload_n 2, 1) := by decide +kernel
theorem dX8_later_13 : decode cX8_later 13 = .ok (.sipush 500, 3) := by decide +kernel
theorem dX8_later_16 : decode cX8_later 16 = .ok (.if_icmp .gt 7, 3) := by decide +kernel
theorem dX8_later_19 : decode cX8_later 19 = .ok (.iload_n 3, 1) := by decide +kernel
theorem dX8_later_20 : decode cX8_later 20 = .ok (.ifCond .ge 6, 3) := by decide +kernel
theorem dX8_later_23 : decode cX8_later 23 = .ok (.bipush (-2), 2) := by decide +kernel
theorem dX8_later_25 : decode cX8_later 25 = .ok (.ireturn, 1) := by decide +kernel
theorem dX8_later_26 : decode cX8_later 26 = .ok (.aload_n 0, 1) := by decide +kernel
theorem dX8_later_27 : decode cX8_later 27 = .ok (.getfield 70, 3) := by decide +kernel
theorem dX8_later_30 : decode cX8_later 30 = .ok (.aload_n 0, 1) := by decide +kernel
theorem dX8_later_31 : decode cX8_later 31 = .ok (.iload_n 1, 1) := by decide +kernel
theorem dX8_later_32 : decode cX8_later 32 = .ok (.invokevirtual 135, 3) := by decide +kernel
theorem dX8_later_35 : decode cX8_later 35 = .ok (.invokevirtual 230, 3) := by decide +kernel
theorem dX8_later_38 : decode cX8_later 38 = .ok (.iconst 0, 1) := by decide +kernel
theorem dX8_later_39 : decode cX8_later 39 = .ok (.istore 4, 2) := by decide +kernel
theorem dX8_later_41 : decode cX8_later 41 = .ok (.iload 4, 2) := by decide +kernel
theorem dX8_later_43 : decode cX8_later 43 = .ok (.iload_n 2, 1) := by decide +kernel
theorem dX8_later_44 : decode cX8_later 44 = .ok (.if_icmp .ge 23, 3) := by decide +kernel
theorem dX8_later_47 : decode cX8_later 47 = .ok (.aload_n 0, 1) := by decide +kernel
theorem dX8_later_48 : decode cX8_later 48 = .ok (.getfield 70, 3) := by decide +kernel
theorem dX8_later_51 : decode cX8_later 51 = .ok (.aload_n 0, 1) := by decide +kernel
theorem dX8_later_52 : decode cX8_later 52 = .ok (.getfield 19, 3) := by decide +kernel
theorem dX8_later_55 : decode cX8_later 55 = .ok (.getfield 168, 3) := by decide +kernel
theorem dX8_later_58 : decode cX8_later 58 = .ok (.invokevirtual 233, 3) := by decide +kernel
theorem dX8_later_61 : decode cX8_later 61 = .ok (.iinc 4 1, 3) := by decide +kernel
theorem dX8_later_64 : decode cX8_later 64 = .ok (.goto (-23), 3) := by decide +kernel
theorem dX8_later_67 : decode cX8_later 67 = .ok (.aload_n 0, 1) := by decide +kernel
theorem dX8_later_68 : decode cX8_later 68 = .ok (.getfield 70, 3) := by decide +kernel
theorem dX8_later_71 : decode cX8_later 71 = .ok (.iload_n 3, 1) := by decide +kernel
theorem dX8_later_72 : decode cX8_later 72 = .ok (.invokevirtual 142, 3) := by decide +kernel
theorem dX8_later_75 : decode cX8_later 75 = .ok (.ireturn, 1) := by decide +kernel
theorem dX8_latest_0 : decode cX8_latest 0 = .ok (.aload_n 0, 1) := by decide +kernel
theorem dX8_latest_1 : decode cX8_latest 1 = .ok (.invokevirtual 177, 3) := by decide +kernel
theorem dX8_latest_4 : decode cX8_latest 4 = .ok (.ifCond .ne 13, 3) := by decide +kernel
theorem dX8_latest_7 : decode cX8_latest 7 = .ok (.iload_n 1, 1) := by decide +kernel
theorem dX8_latest_8 : decode cX8_latest 8 = .ok (.ifCond .lt 9, 3) := by decide +kernel
theorem dX8_latest_11 : decode cX8_latest 11 = .ok (.iload_n 1, 1) := by decide +kernel
theorem dX8_latest_12 : decode cX8_latest 12 = .ok (.bipush 30, 2) := by decide +kernel
theorem dX8_latest_14 : decode cX8_latest 14 = .ok (.if_icmp .le 6, 3) := by decide +kernel
theorem dX8_latest_17 : decode cX8_latest 17 = .ok (.bipush (-2), 2) := by decide +kernel
theorem dX8_latest_19 : decode cX8_latest 19 = .ok (.ireturn, 1) := by decide +kernel
theorem dX8_latest_20 : decode cX8_latest 20 = .ok (.aload_n 0, 1) := by decide +kernel
theorem dX8_latest_21 : decode cX8_latest 21 = .ok (.invokevirtual 272, 3) := by decide +kernel
theorem dX8_latest_24 : decode cX8_latest 24 = .ok (.iload_n 1, 1) := by decide +kernel
theorem dX8_latest_25 : decode cX8_latest 25 = .ok (.if_icmp .lt 5, 3) := by decide +kernel
theorem dX8_latest_28 : decode cX8_latest 28 = .ok (.iconst (-1), 1) := by decide +kernel
theorem dX8_latest_29 : decode cX8_latest 29 = .ok (.ireturn, 1) := by decide +kernel
theorem dX8_latest_30 : decode cX8_latest 30 = .ok (.aload_n 0, 1) := by decide +kernel
theorem dX8_latest_31 : decode cX8_latest 31 = .ok (.getfield 19, 3) := by decide +kernel
theorem dX8_latest_34 : decode cX8_latest 34 = .ok (.getfield 181, 3) := by decide +kernel
theorem dX8_latest_37 : decode cX8_latest 37 = .ok (.iconst 1, 1) := by decide +kernel
theorem dX8_latest_38 : decode cX8_latest 38 = .ok (.isub, 1) := by decide +kernel
theorem dX8_latest_39 : decode cX8_latest 39 = .ok (.istore_n 2, 1) := by decide +kernel
theorem dX8_latest_40 : decode cX8_latest 40 = .ok (.iload_n 2, 1) := by decide +kernel
theorem dX8_latest_41 : decode cX8_latest 41 = .ok (.ifCond .lt 22, 3) := by decide +kernel
theorem dX8_latest_44 : decode cX8_latest 44 = .ok (.aload_n 0, 1) := by decide +kernel
theorem dX8_latest_45 : decode cX8_latest 45 = .ok (.iload_n 2, 1) := by decide +kernel
theorem dX8_latest_46 : decode cX8_latest 46 = .ok (.bipush 20, 2) := by decide +kernel
theorem dX8_latest_48 : decode cX8_latest 48 = .ok (.invokevirtual 275, 3) := by decide +kernel
theorem dX8_latest_51 : decode cX8_latest 51 = .ok (.iload_n 1, 1) := by decide +kernel
theorem dX8_latest_52 : decode cX8_latest 52 = .ok (.if_icmp .lt 5, 3) := by decide +kernel
theorem dX8_latest_55 : decode cX8_latest 55 = .ok (.iload_n 2, 1) := by decide +kernel
theorem dX8_latest_56 : decode cX8_latest 56 = .ok (.ireturn, 1) := by decide +kernel
theorem dX8_latest_57 : decode cX8_latest 57 = .ok (.iinc 2 (-1), 3) := by decide +kernel
theorem dX8_latest_60 : decode cX8_latest 60 = .ok (.goto (-20), 3) := by decide +kernel
theorem dX8_latest_63 : decode cX8_latest 63 = .ok (.iconst (-1), 1) := by decide +kernel
theorem dX8_latest_64 : decode cX8_latest 64 = .ok (.ireturn, 1) := by decide +kernel
theorem dX8_law_0 : decode cX8_law 0 = .ok (.aload_n 0, 1) := by decide +kernel
theorem dX8_law_1 : decode cX8_law 1 = .ok (.invokevirtual 177, 3) := by decide +kernel
theorem dX8_law_4 : decode cX8_law 4 = .ok (.ifCond .eq 6, 3) := by decide +kernel
theorem dX8_law_7 : decode cX8_law 7 = .ok (.bipush (-2), 2) := by decide +kernel
theorem dX8_law_9 : decode cX8_law 9 = .ok (.ireturn, 1) := by decide +kernel
theorem dX8_law_10 : decode cX8_law 10 = .ok (.iconst 0, 1) := by decide +kernel
theorem dX8_law_11 : decode cX8_law 11 = .ok (.istore_n 1, 1) := by decide +kernel
theorem dX8_law_12 : decode cX8_law 12 = .ok (.iconst (-1), 1) := by decide +kernel
theorem dX8_law_13 : decode cX8_law 13 = .ok (.istore_n 2, 1) := by decide +kernel
theorem dX8_law_14 : decode cX8_law 14 = .ok (.iconst 0, 1) := by decide +kernel
theorem dX8_law_15 : decode cX8_law 15 = .ok (.istore_n 3, 1) := by decide +kernel
theorem dX8_law_16 : decode cX8_law 16 = .ok (.iload_n 3, 1) := by decide +kernel
theorem dX8_law_17 : decode cX8_law 17 = .ok (.iconst 4, 1) := by decide +kernel
theorem dX8_law_18 : decode cX8_law 18 = .ok (.if_icmp .ge 30, 3) := by decide +kernel
theorem dX8_law_21 : decode cX8_law 21 = .ok (.aload_n 0, 1) := by decide +kernel
theorem dX8_law_22 : decode cX8_law 22 = .ok (.iload_n 3, 1) := by decide +kernel
theorem dX8_law_23 : decode cX8_law 23 = .ok (.invokevirtual 303, 3) := by decide +kernel
theorem dX8_law_26 : decode cX8_law 26 = .ok (.getfield 139, 3) := by decide +kernel
theorem dX8_law_29 : decode cX8_law 29 = .ok (.istore 4, 2) := by decide +kernel
theorem dX8_law_31 : decode cX8_law 31 = .ok (.iload 4, 2) := by decide +kernel
theorem dX8_law_33 : decode cX8_law 33 = .ok (.iload_n 2, 1) := by decide +kernel
theorem dX8_law_34 : decode cX8_law 34 = .ok (.if_icmp .le 8, 3) := by decide +kernel
theorem dX8_law_37 : decode cX8_law 37 = .ok (.iload_n 3, 1) := by decide +kernel
theorem dX8_law_38 : decode cX8_law 38 = .ok (.istore_n 1, 1) := by decide +kernel
theorem dX8_law_39 : decode cX8_law 39 = .ok (.iload 4, 2) := by decide +kernel
theorem dX8_law_41 : decode cX8_law 41 = .ok (.istore_n 2, 1) := by decide +kernel
theorem dX8_law_42 : decode cX8_law 42 = .ok (.iinc 3 1, 3) := by decide +kernel
theorem dX8_law_45 : decode cX8_law 45 = .ok (.goto (-29), 3) := by decide +kernel
theorem dX8_law_48 : decode cX8_law 48 = .ok (.iload_n 1, 1) := by decide +kernel
theorem dX8_law_49 : decode cX8_law 49 = .ok (.ireturn, 1) := by decide +kernel
theorem dX8_laws_0 : decode cX8_laws 0 = .ok (.aload_n 0, 1) := by decide +kernel
theorem dX8_laws_1 : decode cX8_laws 1 = .ok (.iload_n 1, 1) := by decide +kernel
theorem dX8_laws_2 : decode cX8_laws 2 = .ok (.aload_n 0, 1) := by decide +kernel
theorem dX8_laws_3 : decode cX8_laws 3 = .ok (.invokevirtual 177, 3) := by decide +kernel
theorem dX8_laws_6 : decode cX8_laws 6 = .ok (.ifCond .ne 7, 3) := by decide +kernel
theorem dX8_laws_9 : decode cX8_laws 9 = .ok (.iconst 1, 1) := by decide +kernel
theorem dX8_laws_10 : decode cX8_laws 10 = .ok (.goto 4, 3) := by decide +kernel
theorem dX8_laws_13 : decode cX8_laws 13 = .ok (.iconst 0, 1) := by decide +kernel
theorem dX8_laws_14 : decode cX8_laws 14 = .ok (.invokevirtual 284, 3) := by decide +kernel
theorem dX8_laws_17 : decode cX8_laws 17 = .ok (.istore_n 2, 1) := by decide +kernel
theorem dX8_laws_18 : decode cX8_laws 18 = .ok (.iload_n 2, 1) := by decide +kernel
theorem dX8_laws_19 : decode cX8_laws 19 = .ok (.ifCond .eq 5, 3) := by decide +kernel
theorem dX8_laws_22 : decode cX8_laws 22 = .ok (.iload_n 2, 1) := by decide +kernel
theorem dX8_laws_23 : decode cX8_laws 23 = .ok (.ireturn, 1) := by decide +kernel
theorem dX8_laws_24 : decode cX8_laws 24 = .ok (.iconst 0, 1) := by decide +kernel
theorem dX8_laws_25 : decode cX8_laws 25 = .ok (.istore_n 3, 1) := by decide +kernel
theorem dX8_laws_26 : decode cX8_laws 26 = .ok (.iconst 0, 1) := by decide +kernel
theorem dX8_laws_27 : decode cX8_laws 27 = .ok (.istore 4, 2) := by decide +kernel
theorem dX8_laws_29 : decode cX8_laws 29 = .ok (.iload 4, 2) := by decide +kernel
theorem dX8_laws_31 : decode cX8_laws 31 = .ok (.iconst 4, 1) := by decide +kernel
theorem dX8_laws_32 : decode cX8_laws 32 = .ok (.if_icmp .ge 39, 3) := by decide +kernel
theorem dX8_laws_35 : decode cX8_laws 35 = .ok (.aload_n 0, 1) := by decide +kernel
theorem dX8_laws_36 : decode cX8_laws 36 = .ok (.iload 4, 2) := by decide +kernel
theorem dX8_laws_38 : decode cX8_laws 38 = .ok (.invokevirtual 303, 3) := by decide +kernel
theorem dX8_laws_41 : decode cX8_laws 41 = .ok (.pop, 1) := by decide +kernel
theorem dX8_laws_42 : decode cX8_laws 42 = .ok (.aload_n 0, 1) := by decide +kernel
theorem dX8_laws_43 : decode cX8_laws 43 = .ok (.getfield 32, 3) := by decide +kernel
theorem dX8_laws_46 : decode cX8_laws 46 = .ok (.iload_n 1, 1) := by decide +kernel
theorem dX8_laws_47 : decode cX8_laws 47 = .ok (.aaload, 1) := by decide +kernel
theorem dX8_laws_48 : decode cX8_laws 48 = .ok (.aload_n 0, 1) := by decide +kernel
theorem dX8_laws_49 : decode cX8_laws 49 = .ok (.getfield 43, 3) := by decide +kernel
theorem dX8_laws_52 : decode cX8_laws 52 = .ok (.invokevirtual 306, 3) := by decide +kernel
theorem dX8_laws_55 : decode cX8_laws 55 = .ok (.ifCond .eq 10, 3) := by decide +kernel
theorem dX8_laws_58 : decode cX8_laws 58 = .ok (.iload_n 3, 1) := by decide +kernel
theorem dX8_laws_59 : decode cX8_laws 59 = .ok (.iconst 1, 1) := by decide +kernel
theorem dX8_laws_60 : decode cX8_laws 60 = .ok (.iload 4, 2) := by decide +kernel
theorem dX8_laws_62 : decode cX8_laws 62 = .ok (.ishl, 1) := by decide +kernel
theorem dX8_laws_63 : decode cX8_laws 63 = .ok (.ior, 1) := by decide +kernel
theorem dX8_laws_64 : decode cX8_laws 64 = .ok (.istore_n 3, 1) := by decide +kernel
theorem dX8_laws_65 : decode cX8_laws 65 = .ok (.iinc 4 1, 3) := by decide +kernel
theorem dX8_laws_68 : decode cX8_laws 68 = .ok (.goto (-39), 3) := by decide +kernel
theorem dX8_laws_71 : decode cX8_laws 71 = .ok (.iload_n 3, 1) := by decide +kernel
theorem dX8_laws_72 : decode cX8_laws 72 = .ok (.ireturn, 1) := by decide +kernel
theorem dX8_least_0 : decode cX8_least 0 = .ok (.aload_n 0, 1) := by decide +kernel
theorem dX8_least_1 : decode cX8_least 1 = .ok (.iload_n 1, 1) := by decide +kernel
theorem dX8_least_2 : decode cX8_least 2 = .ok (.aload_n 0, 1) := by decide +kernel
theorem dX8_least_3 : decode cX8_least 3 = .ok (.iload_n 2, 1) := by decide +kernel
theorem dX8_least_4 : decode cX8_least 4 = .ok (.invokevirtual 113, 3) := by decide +kernel
theorem dX8_least_7 : decode cX8_least 7 = .ok (.invokevirtual 284, 3) := by decide +kernel
theorem dX8_least_10 : decode cX8_least 10 = .ok (.istore_n 3, 1) := by decide +kernel
theorem dX8_least_11 : decode cX8_least 11 = .ok (.iload_n 3, 1) := by decide +kernel
theorem dX8_least_12 : decode cX8_least 12 = .ok (.ifCond .eq 7, 3) := by decide +kernel
theorem dX8_least_15 : decode cX8_least 15 = .ok (.iload_n 3, 1) := by decide +kernel
theorem dX8_least_16 : decode cX8_least 16 = .ok (.goto 12, 3) := by decide +kernel
theorem dX8_least_19 : decode cX8_least 19 = .ok (.aload_n 0, 1) := by decide +kernel
theorem dX8_least_20 : decode cX8_least 20 = .ok (.iload_n 1, 1) := by decide +kernel
theorem dX8_least_21 : decode cX8_least 21 = .ok (.iload_n 2, 1) := by decide +kernel
theorem dX8_least_22 : decode cX8_least 22 = .ok (.invokevirtual 288, 3) := by decide +kernel
theorem dX8_least_25 : decode cX8_least 25 = .ok (.invokevirtual 295, 3) := by decide +kernel
theorem dX8_least_28 : decode cX8_least 28 = .ok (.ireturn, 1) := by decide +kernel
theorem dX8_leaves_0 : decode cX8_leaves 0 = .ok (.aload_n 0, 1) := by decide +kernel
theorem dX8_leaves_1 : decode cX8_leaves 1 = .ok (.iload_n 1, 1) := by decide +kernel
theorem dX8_leaves_2 : decode cX8_leaves 2 = .ok (.aload_n 0, 1) := by decide +kernel
theorem dX8_leaves_3 : decode cX8_leaves 3 = .ok (.iload_n 2, 1) := by decide +kernel
theorem dX8_leaves_4 : decode cX8_leaves 4 = .ok (.invokevirtual 113, 3) := by decide +kernel
theorem dX8_leaves_7 : decode cX8_leaves 7 = .ok (.invokevirtual 284, 3) := by decide +kernel
theorem dX8_leaves_10 : decode cX8_leaves 10 = .ok (.istore_n 3, 1) := by decide +kernel
theorem dX8_leaves_11 : decode cX8_leaves 11 = .ok (.iload_n 3, 1) := by decide +kernel
theorem dX8_leaves_12 : decode cX8_leaves 12 = .ok (.ifCond .eq 7, 3) := by decide +kernel
theorem dX8_leaves_15 : decode cX8_leaves 15 = .ok (.iload_n 3, 1) := by decide +kernel
theorem dX8_leaves_16 : decode cX8_leaves 16 = .ok (.goto 19, 3) := by decide +kernel
theorem dX8_leaves_19 : decode cX8_leaves 19 = .ok (.aload_n 0, 1) := by decide +kernel
theorem dX8_leaves_20 : decode cX8_leaves 20 = .ok (.iload_n 1, 1) := by decide +kernel
theorem dX8_leaves_21 : decode cX8_leaves 21 = .ok (.iload_n 2, 1) := by decide +kernel
theorem dX8_leaves_22 : decode cX8_leaves 22 = .ok (.invokevirtual 288, 3) := by decide +kernel
theorem dX8_leaves_25 : decode cX8_leaves 25 = .ok (.aload_n 0, 1) := by decide +kernel
theorem dX8_leaves_26 : decode cX8_leaves 26 = .ok (.getfield 19, 3) := by decide +kernel
theorem dX8_leaves_29 : decode cX8_leaves 29 = .ok (.getfield 181, 3) := by decide +kernel
theorem dX8_leaves_32 : decode cX8_leaves 32 = .ok (.invokevirtual 300, 3) := by decide +kernel
theorem dX8_leaves_35 : decode cX8_leaves 35 = .ok (.ireturn, 1) := by decide +kernel
theorem dX8_length_0 : decode cX8_length 0 = .ok (.aload_n 0, 1) := by decide +kernel
theorem dX8_length_1 : decode cX8_length 1 = .ok (.iload_n 1, 1) := by decide +kernel
theorem dX8_length_2 : decode cX8_length 2 = .ok (.invokevirtual 132, 3) := by decide +kernel
theorem dX8_length_5 : decode cX8_length 5 = .ok (.ifCond .eq 14, 3) := by decide +kernel
theorem dX8_length_8 : decode cX8_length 8 = .ok (.aload_n 0, 1) := by decide +kernel
theorem dX8_length_9 : decode cX8_length 9 = .ok (.iload_n 1, 1) := by decide +kernel
theorem dX8_length_10 : decode cX8_length 10 = .ok (.invokevirtual 217, 3) := by decide +kernel
theorem dX8_length_13 : decode cX8_length 13 = .ok (.getfield 224, 3) := by decide +kernel
theorem dX8_length_16 : decode cX8_length 16 = .ok (.goto 5, 3) := by decide +kernel
theorem dX8_length_19 : decode cX8_length 19 = .ok (.bipush (-2), 2) := by decide +kernel
theorem dX8_length_21 : decode cX8_length 21 = .ok (.ireturn, 1) := by decide +kernel
theorem dX8_longest_0 : decode cX8_longest 0 = .ok (.aload_n 0, 1) := by decide +kernel
theorem dX8_longest_1 : decode cX8_longest 1 = .ok (.iload_n 1, 1) := by decide +kernel
theorem dX8_longest_2 : decode cX8_longest 2 = .ok (.invokevirtual 239, 3) := by decide +kernel
theorem dX8_longest_5 : decode cX8_longest 5 = .ok (.ifCond .eq 14, 3) := by decide +kernel
theorem dX8_longest_8 : decode cX8_longest 8 = .ok (.aload_n 0, 1) := by decide +kernel
theorem dX8_longest_9 : decode cX8_longest 9 = .ok (.iload_n 1, 1) := by decide +kernel
theorem dX8_longest_10 : decode cX8_longest 10 = .ok (.invokevirtual 242, 3) := by decide +kernel
theorem dX8_longest_13 : decode cX8_longest 13 = .ok (.getfield 256, 3) := by decide +kernel
theorem dX8_longest_16 : decode cX8_longest 16 = .ok (.goto 5, 3) := by decide +kernel
theorem dX8_longest_19 : decode cX8_longest 19 = .ok (.bipush (-2), 2) := by decide +kernel
theorem dX8_longest_21 : decode cX8_longest 21 = .ok (.ireturn, 1) := by decide +kernel
theorem dX8_lookAt_0 : decode cX8_lookAt 0 = .ok (.aload_n 0, 1) := by decide +kernel
theorem dX8_lookAt_1 : decode cX8_lookAt 1 = .ok (.getfield 63, 3) := by decide +kernel
theorem dX8_lookAt_4 : decode cX8_lookAt 4 = .ok (.invokevirtual 507, 3) := by decide +kernel
theorem dX8_lookAt_7 : decode cX8_lookAt 7 = .ok (.iconst 1, 1) := by decide +kernel
theorem dX8_lookAt_8 : decode cX8_lookAt 8 = .ok (.istore_n 3, 1) := by decide +kernel
theorem dX8_lookAt_9 : decode cX8_lookAt 9 = .ok (.iload_n 3, 1) := by decide +kernel
theorem dX8_lookAt_10 : decode cX8_lookAt 10 = .ok (.bipush 20, 2) := by decide +kernel
theorem dX8_lookAt_12 : decode cX8_lookAt 12 = .ok (.if_icmp .gt 75, 3) := by decide +kernel
theorem dX8_lookAt_15 : decode cX8_lookAt 15 = .ok (.aload_n 0, 1) := by decide +kernel
theorem dX8_lookAt_16 : decode cX8_lookAt 16 = .ok (.getfield 43, 3) := by decide +kernel
theorem dX8_lookAt_19 : decode cX8_lookAt 19 = .ok (.aload_n 0, 1) := by decide +kernel
theorem dX8_lookAt_20 : decode cX8_lookAt 20 = .ok (.getfield 19, 3) := by decide +kernel
theorem dX8_lookAt_23 : decode cX8_lookAt 23 = .ok (.invokevirtual 420, 3) := by decide +kernel
theorem dX8_lookAt_26 : decode cX8_lookAt 26 = .ok (.aload_n 0, 1) := by decide +kernel
theorem dX8_lookAt_27 : decode cX8_lookAt 27 = .ok (.getfield 43, 3) := by decide +kernel
theorem dX8_lookAt_30 : decode cX8_lookAt 30 = .ok (.iload_n 2, 1) := by decide +kernel
theorem dX8_lookAt_31 : decode cX8_lookAt 31 = .ok (.putfield 510, 3) := by decide +kernel
theorem dX8_lookAt_34 : decode cX8_lookAt 34 = .ok (.aload_n 0, 1) := by decide +kernel
theorem dX8_lookAt_35 : decode cX8_lookAt 35 = .ok (.getfield 43, 3) := by decide +kernel
theorem dX8_lookAt_38 : decode cX8_lookAt 38 = .ok (.iload_n 3, 1) := by decide +kernel
theorem dX8_lookAt_39 : decode cX8_lookAt 39 = .ok (.putfield 513, 3) := by decide +kernel
theorem dX8_lookAt_42 : decode cX8_lookAt 42 = .ok (.aload_n 0, 1) := by decide +kernel
theorem dX8_lookAt_43 : decode cX8_lookAt 43 = .ok (.getfield 43, 3) := by decide +kernel
theorem dX8_lookAt_46 : decode cX8_lookAt 46 = .ok (.aload_n 0, 1) := by decide +kernel
theorem dX8_lookAt_47 : decode cX8_lookAt 47 = .ok (.getfield 19, 3) := by decide +kernel
theorem dX8_lookAt_50 : decode cX8_lookAt 50 = .ok (.invokevirtual 423, 3) := by decide +kernel
theorem dX8_lookAt_53 : decode cX8_lookAt 53 = .ok (.aload_n 0, 1) := by decide +kernel
theorem dX8_lookAt_54 : decode cX8_lookAt 54 = .ok (.getfield 32, 3) := by decide +kernel
theorem dX8_lookAt_57 : decode cX8_lookAt 57 = .ok (.iload_n 1, 1) := by decide +kernel
theorem dX8_lookAt_58 : decode cX8_lookAt 58 = .ok (.aaload, 1) := by decide +kernel
theorem dX8_lookAt_59 : decode cX8_lookAt 59 = .ok (.aload_n 0, 1) := by decide +kernel
theorem dX8_lookAt_60 : decode cX8_lookAt 60 = .ok (.getfield 43, 3) := by decide +kernel
theorem dX8_lookAt_63 : decode cX8_lookAt 63 = .ok (.invokevirtual 306, 3) := by decide +kernel
theorem dX8_lookAt_66 : decode cX8_lookAt 66 = .ok (.ifCond .eq 15, 3) := by decide +kernel
theorem dX8_lookAt_69 : decode cX8_lookAt 69 = .ok (.aload_n 0, 1) := by decide +kernel
theorem dX8_lookAt_70 : decode cX8_lookAt 70 = .ok (.getfield 63, 3) := by decide +kernel
theorem dX8_lookAt_73 : decode cX8_lookAt 73 = .ok (.iload_n 3, 1) := by decide +kernel
theorem dX8_lookAt_74 : decode cX8_lookAt 74 = .ok (.aload_n 0, 1) := by decide +kernel
theorem dX8_lookAt_75 : decode cX8_lookAt 75 = .ok (.getfield 43, 3) := by decide +kernel
theorem dX8_lookAt_78 : decode cX8_lookAt 78 = .ok (.invokevirtual 516, 3) := by decide +kernel
theorem dX8_lookAt_81 : decode cX8_lookAt 81 = .ok (.iinc 3 1, 3) := by decide +kernel
theorem dX8_lookAt_84 : decode cX8_lookAt 84 = .ok (.goto (-75), 3) := by decide +kernel
theorem dX8_lookAt_87 : decode cX8_lookAt 87 = .ok (.aload_n 0, 1) := by decide +kernel
theorem dX8_lookAt_88 : decode cX8_lookAt 88 = .ok (.getfield 63, 3) := by decide +kernel
theorem dX8_lookAt_91 : decode cX8_lookAt 91 = .ok (.areturn, 1) := by decide +kernel
theorem dX8_luck_0 : decode cX8_luck 0 = .ok (.iload_n 1, 1) := by decide +kernel
theorem dX8_luck_1 : decode cX8_luck 1 = .ok (.ifCond .lt 25, 3) := by decide +kernel
theorem dX8_luck_4 : decode cX8_luck 4 = .ok (.iload_n 1, 1) := by decide +kernel
theorem dX8_luck_5 : decode cX8_luck 5 = .ok (.ldc_w 361, 3) := by decide +kernel
theorem dX8_luck_8 : decode cX8_luck 8 = .ok (.if_icmp .gt 18, 3) := by decide +kernel
theorem dX8_luck_11 : decode cX8_luck 11 = .ok (.iload_n 2, 1) := by decide +kernel
theorem dX8_luck_12 : decode cX8_luck 12 = .ok (.iconst 1, 1) := by decide +kernel
theorem dX8_luck_13 : decode cX8_luck 13 = .ok (.if_icmp .lt 13, 3) := by decide +kernel
theorem dX8_luck_16 : decode cX8_luck 16 = .ok (.iload_n 2, 1) := by decide +kernel
theorem dX8_luck_17 : decode cX8_luck 17 = .ok (.bipush 20, 2) := by decide +kernel
theorem dX8_luck_19 : decode cX8_luck 19 = .ok (.if_icmp .gt 7, 3) := by decide +kernel
theorem dX8_luck_22 : decode cX8_luck 22 = .ok (.iconst 1, 1) := by decide +kernel
theorem dX8_luck_23 : decode cX8_luck 23 = .ok (.goto 4, 3) := by decide +kernel
theorem dX8_luck_26 : decode cX8_luck 26 = .ok (.iconst 0, 1) := by decide +kernel
theorem dX8_luck_27 : decode cX8_luck 27 = .ok (.istore 4, 2) := by decide +kernel
theorem dX8_luck_29 : decode cX8_luck 29 = .ok (.aload_n 0, 1) := by decide +kernel
theorem dX8_luck_30 : decode cX8_luck 30 = .ok (.invokevirtual 177, 3) := by decide +kernel
theorem dX8_luck_33 : decode cX8_luck 33 = .ok (.ifCond .ne 19, 3) := by decide +kernel
theorem dX8_luck_36 : decode cX8_luck 36 = .ok (.iload 4, 2) := by decide +kernel
theorem dX8_luck_38 : decode cX8_luck 38 = .ok (.ifCond .eq 14, 3) := by decide +kernel
theorem dX8_luck_41 : decode cX8_luck 41 = .ok (.iload_n 3, 1) := by decide +kernel
theorem dX8_luck_42 : decode cX8_luck 42 = .ok (.ifCond .lt 10, 3) := by decide +kernel
theorem dX8_luck_45 : decode cX8_luck 45 = .ok (.iload_n 3, 1) := by decide +kernel
theorem dX8_luck_46 : decode cX8_luck 46 = .ok (.sipush 700, 3) := by decide +kernel
theorem dX8_luck_49 : decode cX8_luck 49 = .ok (.if_icmp .le 6, 3) := by decide +kernel
theorem dX8_luck_52 : decode cX8_luck 52 = .ok (.bipush (-2), 2) := by decide +kernel
theorem dX8_luck_54 : decode cX8_luck 54 = .ok (.ireturn, 1) := by decide +kernel
theorem dX8_luck_55 : decode cX8_luck 55 = .ok (.iconst 0, 1) := by decide +kernel
theorem dX8_luck_56 : decode cX8_luck 56 = .ok (.istore 5, 2) := by decide +kernel
theorem dX8_luck_58 : decode cX8_luck 58 = .ok (.iconst 0, 1) := by decide +kernel
theorem dX8_luck_59 : decode cX8_luck 59 = .ok (.istore 6, 2) := by decide +kernel
theorem dX8_luck_61 : decode cX8_luck 61 = .ok (.iload 6, 2) := by decide +kernel
theorem dX8_luck_63 : decode cX8_luck 63 = .ok (.iload_n 2, 1) := by decide +kernel
theorem dX8_luck_64 : decode cX8_luck 64 = .ok (.if_icmp .ge 30, 3) := by decide +kernel
theorem dX8_luck_67 : decode cX8_luck 67 = .ok (.aload_n 0, 1) := by decide +kernel
theorem dX8_luck_68 : decode cX8_luck 68 = .ok (.aload_n 0, 1) := by decide +kernel
theorem dX8_luck_69 : decode cX8_luck 69 = .ok (.iload_n 1, 1) := by decide +kernel
theorem dX8_luck_70 : decode cX8_luck 70 = .ok (.i2l, 1) := by decide +kernel
theorem dX8_luck_71 : decode cX8_luck 71 = .ok (.iload 6, 2) := by decide +kernel
theorem dX8_luck_73 : decode cX8_luck 73 = .ok (.i2l, 1) := by decide +kernel
theorem dX8_luck_74 : decode cX8_luck 74 = .ok (.ladd, 1) := by decide +kernel
theorem dX8_luck_75 : decode cX8_luck 75 = .ok (.invokevirtual 362, 3) := by decide +kernel
theorem dX8_luck_78 : decode cX8_luck 78 = .ok (.invokevirtual 366, 3) := by decide +kernel
theorem dX8_luck_81 : decode cX8_luck 81 = .ok (.iload_n 3, 1) := by decide +kernel
theorem dX8_luck_82 : decode cX8_luck 82 = .ok (.if_icmp .lt 6, 3) := by decide +kernel
theorem dX8_luck_85 : decode cX8_luck 85 = .ok (.iinc 5 1, 3) := by decide +kernel
theorem dX8_luck_88 : decode cX8_luck 88 = .ok (.iinc 6 1, 3) := by decide +kernel
theorem dX8_luck_91 : decode cX8_luck 91 = .ok (.goto (-30), 3) := by decide +kernel
theorem dX8_luck_94 : decode cX8_luck 94 = .ok (.iload 5, 2) := by decide +kernel
theorem dX8_luck_96 : decode cX8_luck 96 = .ok (.ireturn, 1) := by decide +kernel
theorem dX8_many_0 : decode cX8_many 0 = .ok (.aload_n 0, 1) := by decide +kernel
theorem dX8_many_1 : decode cX8_many 1 = .ok (.iload_n 1, 1) := by decide +kernel
theorem dX8_many_2 : decode cX8_many 2 = .ok (.invokevirtual 132, 3) := by decide +kernel
theorem dX8_many_5 : decode cX8_many 5 = .ok (.ifCond .eq 15, 3) := by decide +kernel
theorem dX8_many_8 : decode cX8_many 8 = .ok (.iload_n 2, 1) := by decide +kernel
theorem dX8_many_9 : decode cX8_many 9 = .ok (.iconst 1, 1) := by decide +kernel
theorem dX8_many_10 : decode cX8_many 10 = .ok (.if_icmp .lt 10, 3) := by decide +kernel
theorem dX8_many_13 : decode cX8_many 13 = .ok (.iload_n 2, 1) := by decide +kernel
theorem dX8_many_14 : decode cX8_many 14 = .ok (.sipush 700, 3) := by decide +kernel
theorem dX8_many_17 : decode cX8_many 17 = .ok (.if_icmp .le 6, 3) := by decide +kernel
theorem dX8_many_20 : decode cX8_many 20 = .ok (.bipush (-2), 2) := by decide +kernel
theorem dX8_many_22 : decode cX8_many 22 = .ok (.ireturn, 1) := by decide +kernel
theorem dX8_many_23 : decode cX8_many 23 = .ok (.aload_n 0, 1) := by decide +kernel
theorem dX8_many_24 : decode cX8_many 24 = .ok (.iload_n 1, 1) := by decide +kernel
theorem dX8_many_25 : decode cX8_many 25 = .ok (.invokevirtual 135, 3) := by decide +kernel
theorem dX8_many_28 : decode cX8_many 28 = .ok (.iload_n 2, 1) := by decide +kernel
theorem dX8_many_29 : decode cX8_many 29 = .ok (.invokevirtual 149, 3) := by decide +kernel
theorem dX8_many_32 : decode cX8_many 32 = .ok (.ireturn, 1) := by decide +kernel
theorem dX8_mean_0 : decode cX8_mean 0 = .ok (.aload_n 0, 1) := by decide +kernel
theorem dX8_mean_1 : decode cX8_mean 1 = .ok (.iload_n 1, 1) := by decide +kernel
theorem dX8_mean_2 : decode cX8_mean 2 = .ok (.invokevirtual 342, 3) := by decide +kernel
theorem dX8_mean_5 : decode cX8_mean 5 = .ok (.ifCond .eq 10, 3) := by decide +kernel
theorem dX8_mean_8 : decode cX8_mean 8 = .ok (.iload_n 2, 1) := by decide +kernel
theorem dX8_mean_9 : decode cX8_mean 9 = .ok (.invokestatic 123, 3) := by decide +kernel
theorem dX8_mean_12 : decode cX8_mean 12 = .ok (.ifCond .ne 7, 3) := by decide +kernel
theorem dX8_mean_15 : decode cX8_mean 15 = .ok (.ldc2_w 345, 3) := by decide +kernel
theorem dX8_mean_18 : decode cX8_mean 18 = .ok (.lreturn, 1) := by decide +kernel
theorem dX8_mean_19 : decode cX8_mean 19 = .ok (.aload_n 0, 1) := by decide +kernel
theorem dX8_mean_20 : decode cX8_mean 20 = .ok (.iload_n 1, 1) := by decide +kernel
theorem dX8_mean_21 : decode cX8_mean 21 = .ok (.iconst (-1), 1) := by decide +kernel
theorem dX8_mean_22 : decode cX8_mean 22 = .ok (.invokevirtual 347, 3) := by decide +kernel
theorem dX8_mean_25 : decode cX8_mean 25 = .ok (.iload_n 1, 1) := by decide +kernel
theorem dX8_mean_26 : decode cX8_mean 26 = .ok (.iconst 1, 1) := by decide +kernel
theorem dX8_mean_27 : decode cX8_mean 27 = .ok (.iadd, 1) := by decide +kernel
theorem dX8_mean_28 : decode cX8_mean 28 = .ok (.invokestatic 351, 3) := by decide +kernel
theorem dX8_mean_31 : decode cX8_mean 31 = .ok (.iload_n 2, 1) := by decide +kernel
theorem dX8_mean_32 : decode cX8_mean 32 = .ok (.invokestatic 319, 3) := by decide +kernel
theorem dX8_mean_35 : decode cX8_mean 35 = .ok (.lreturn, 1) := by decide +kernel
theorem dX8_moor_0 : decode cX8_moor 0 = .ok (.aload_n 0, 1) := by decide +kernel
theorem dX8_moor_1 : decode cX8_moor 1 = .ok (.getfield 12, 3) := by decide +kernel
theorem dX8_moor_4 : decode cX8_moor 4 = .ok (.aload_n 0, 1) := by decide +kernel
theorem dX8_moor_5 : decode cX8_moor 5 = .ok (.getfield 23, 3) := by decide +kernel
theorem dX8_moor_8 : decode cX8_moor 8 = .ok (.invokevirtual 93, 3) := by decide +kernel
theorem dX8_moor_11 : decode cX8_moor 11 = .ok (.ifCond .ne 6, 3) := by decide +kernel
theorem dX8_moor_14 : decode cX8_moor 14 = .ok (.bipush (-4), 2) := by decide +kernel
theorem dX8_moor_16 : decode cX8_moor 16 = .ok (.ireturn, 1) := by decide +kernel
theorem dX8_moor_17 : decode cX8_moor 17 = .ok (.aload_n 0, 1) := by decide +kernel
theorem dX8_moor_18 : decode cX8_moor 18 = .ok (.getfield 12, 3) := by decide +kernel
theorem dX8_moor_21 : decode cX8_moor 21 = .ok (.iconst 0, 1) := by decide +kernel
theorem dX8_moor_22 : decode cX8_moor 22 = .ok (.putfield 86, 3) := by decide +kernel
theorem dX8_moor_25 : decode cX8_moor 25 = .ok (.aload_n 0, 1) := by decide +kernel
theorem dX8_moor_26 : decode cX8_moor 26 = .ok (.getfield 19, 3) := by decide +kernel
theorem dX8_moor_29 : decode cX8_moor 29 = .ok (.aload_n 0, 1) := by decide +kernel
theorem dX8_moor_30 : decode cX8_moor 30 = .ok (.getfield 23, 3) := by decide +kernel
theorem dX8_moor_33 : decode cX8_moor 33 = .ok (.invokevirtual 97, 3) := by decide +kernel
theorem dX8_moor_36 : decode cX8_moor 36 = .ok (.aload_n 0, 1) := by decide +kernel
theorem dX8_moor_37 : decode cX8_moor 37 = .ok (.invokevirtual 101, 3) := by decide +kernel
theorem dX8_moor_40 : decode cX8_moor 40 = .ok (.aload_n 0, 1) := by decide +kernel
theorem dX8_moor_41 : decode cX8_moor 41 = .ok (.getfield 19, 3) := by decide +kernel
theorem dX8_moor_44 : decode cX8_moor 44 = .ok (.getfield 104, 3) := by decide +kernel
theorem dX8_moor_47 : decode cX8_moor 47 = .ok (.ireturn, 1) := by decide +kernel
theorem dX8_most_0 : decode cX8_most 0 = .ok (.aload_n 0, 1) := by decide +kernel
theorem dX8_most_1 : decode cX8_most 1 = .ok (.invokevirtual 177, 3) := by decide +kernel
theorem dX8_most_4 : decode cX8_most 4 = .ok (.ifCond .eq 6, 3) := by decide +kernel
theorem dX8_most_7 : decode cX8_most 7 = .ok (.bipush (-2), 2) := by decide +kernel
theorem dX8_most_9 : decode cX8_most 9 = .ok (.ireturn, 1) := by decide +kernel
theorem dX8_most_10 : decode cX8_most 10 = .ok (.iconst 0, 1) := by decide +kernel
theorem dX8_most_11 : decode cX8_most 11 = .ok (.istore_n 1, 1) := by decide +kernel
theorem dX8_most_12 : decode cX8_most 12 = .ok (.iconst 0, 1) := by decide +kernel
theorem dX8_most_13 : decode cX8_most 13 = .ok (.istore_n 2, 1) := by decide +kernel
theorem dX8_most_14 : decode cX8_most 14 = .ok (.iload_n 2, 1) := by decide +kernel
theorem dX8_most_15 : decode cX8_most 15 = .ok (.aload_n 0, 1) := by decide +kernel
theorem dX8_most_16 : decode cX8_most 16 = .ok (.getfield 19, 3) := by decide +kernel
theorem dX8_most_19 : decode cX8_most 19 = .ok (.getfield 181, 3) := by decide +kernel
theorem dX8_most_22 : decode cX8_most 22 = .ok (.if_icmp .gt 22, 3) := by decide +kernel
theorem dX8_most_25 : decode cX8_most 25 = .ok (.iload_n 1, 1) := by decide +kernel
theorem dX8_most_26 : decode cX8_most 26 = .ok (.aload_n 0, 1) := by decide +kernel
theorem dX8_most_27 : decode cX8_most 27 = .ok (.iload_n 2, 1) := by decide +kernel
theorem dX8_most_28 : decode cX8_most 28 = .ok (.invokevirtual 135, 3) := by decide +kernel
theorem dX8_most_31 : decode cX8_most 31 = .ok (.getfield 139, 3) := by decide +kernel
theorem dX8_most_34 : decode cX8_most 34 = .ok (.invokestatic 184, 3) := by decide +kernel
theorem dX8_most_37 : decode cX8_most 37 = .ok (.istore_n 1, 1) := by decide +kernel
theorem dX8_most_38 : decode cX8_most 38 = .ok (.iinc 2 1, 3) := by decide +kernel
theorem dX8_most_41 : decode cX8_most 41 = .ok (.goto (-27), 3) := by decide +kernel
theorem dX8_most_44 : decode cX8_most 44 = .ok (.iload_n 1, 1) := by decide +kernel
theorem dX8_most_45 : decode cX8_most 45 = .ok (.ireturn, 1) := by decide +kernel
theorem dX8_move_0 : decode cX8_move 0 = .ok (.aload_n 0, 1) := by decide +kernel
theorem dX8_move_1 : decode cX8_move 1 = .ok (.iload_n 1, 1) := by decide +kernel
theorem dX8_move_2 : decode cX8_move 2 = .ok (.invokevirtual 132, 3) := by decide +kernel
theorem dX8_move_5 : decode cX8_move 5 = .ok (.ifCond .eq 15, 3) := by decide +kernel
theorem dX8_move_8 : decode cX8_move 8 = .ok (.iload_n 2, 1) := by decide +kernel
theorem dX8_move_9 : decode cX8_move 9 = .ok (.iconst 1, 1) := by decide +kernel
theorem dX8_move_10 : decode cX8_move 10 = .ok (.if_icmp .lt 10, 3) := by decide +kernel
theorem dX8_move_13 : decode cX8_move 13 = .ok (.iload_n 2, 1) := by decide +kernel
theorem dX8_move_14 : decode cX8_move 14 = .ok (.sipush 700, 3) := by decide +kernel
theorem dX8_move_17 : decode cX8_move 17 = .ok (.if_icmp .le 6, 3) := by decide +kernel
theorem dX8_move_20 : decode cX8_move 20 = .ok (.bipush (-2), 2) := by decide +kernel
theorem dX8_move_22 : decode cX8_move 22 = .ok (.ireturn, 1) := by decide +kernel
theorem dX8_move_23 : decode cX8_move 23 = .ok (.aload_n 0, 1) := by decide +kernel
theorem dX8_move_24 : decode cX8_move 24 = .ok (.iload_n 1, 1) := by decide +kernel
theorem dX8_move_25 : decode cX8_move 25 = .ok (.invokevirtual 135, 3) := by decide +kernel
theorem dX8_move_28 : decode cX8_move 28 = .ok (.astore_n 3, 1) := by decide +kernel
theorem dX8_move_29 : decode cX8_move 29 = .ok (.iconst 0, 1) := by decide +kernel
theorem dX8_move_30 : decode cX8_move 30 = .ok (.istore 4, 2) := by decide +kernel
theorem dX8_move_32 : decode cX8_move 32 = .ok (.iload 4, 2) := by decide +kernel
theorem dX8_move_34 : decode cX8_move 34 = .ok (.aload_n 3, 1) := by decide +kernel
theorem dX8_move_35 : decode cX8_move 35 = .ok (.getfield 152, 3) := by decide +kernel
theorem dX8_move_38 : decode cX8_move 38 = .ok (.if_icmp .ge 40, 3) := by decide +kernel
theorem dX8_move_41 : decode cX8_move 41 = .ok (.aload_n 3, 1) := by decide +kernel
theorem dX8_move_42 : decode cX8_move 42 = .ok (.iload 4, 2) := by decide +kernel
theorem dX8_move_44 : decode cX8_move 44 = .ok (.iload_n 2, 1) := by decide +kernel
theorem dX8_move_45 : decode cX8_move 45 = .ok (.iconst 1, 1) := by decide +kernel
theorem dX8_move_46 : decode cX8_move 46 = .ok (.iadd, 1) := by decide +kernel
theorem dX8_move_47 : decode cX8_move 47 = .ok (.invokevirtual 326, 3) := by decide +kernel
theorem dX8_move_50 : decode cX8_move 50 = .ok (.istore 5, 2) := by decide +kernel
theorem dX8_move_52 : decode cX8_move 52 = .ok (.iload 5, 2) := by decide +kernel
theorem dX8_move_54 : decode cX8_move 54 = .ok (.ifCond .le 18, 3) := by decide +kernel
theorem dX8_move_57 : decode cX8_move 57 = .ok (.sipush 1000, 3) := by decide +kernel
theorem dX8_move_60 : decode cX8_move 60 = .ok (.aload_n 3, 1) := by decide +kernel
theorem dX8_move_61 : decode cX8_move 61 = .ok (.getfield 329, 3) := by decide +kernel
theorem dX8_move_64 : decode cX8_move 64 = .ok (.iload 4, 2) := by decide +kernel
theorem dX8_move_66 : decode cX8_move 66 = .ok (.iaload, 1) := by decide +kernel
theorem dX8_move_67 : decode cX8_move 67 = .ok (.imul, 1) := by decide +kernel
theorem dX8_move_68 : decode cX8_move 68 = .ok (.iload 5, 2) := by decide +kernel
theorem dX8_move_70 : decode cX8_move 70 = .ok (.iadd, 1) := by decide +kernel
theorem dX8_move_71 : decode cX8_move 71 = .ok (.ireturn, 1) := by decide +kernel
theorem dX8_move_72 : decode cX8_move 72 = .ok (.iinc 4 1, 3) := by decide +kernel
theorem dX8_move_75 : decode cX8_move 75 = .ok (.goto (-43), 3) := by decide +kernel
theorem dX8_move_78 : decode cX8_move 78 = .ok (.iconst (-1), 1) := by decide +kernel
theorem dX8_move_79 : decode cX8_move 79 = .ok (.ireturn, 1) := by decide +kernel
theorem dX8_moves_0 : decode cX8_moves 0 = .ok (.aload_n 0, 1) := by decide +kernel
theorem dX8_moves_1 : decode cX8_moves 1 = .ok (.iload_n 1, 1) := by decide +kernel
theorem dX8_moves_2 : decode cX8_moves 2 = .ok (.invokevirtual 132, 3) := by decide +kernel
theorem dX8_moves_5 : decode cX8_moves 5 = .ok (.ifCond .eq 15, 3) := by decide +kernel
theorem dX8_moves_8 : decode cX8_moves 8 = .ok (.iload_n 2, 1) := by decide +kernel
theorem dX8_moves_9 : decode cX8_moves 9 = .ok (.iconst 1, 1) := by decide +kernel
theorem dX8_moves_10 : decode cX8_moves 10 = .ok (.if_icmp .lt 10, 3) := by decide +kernel
theorem dX8_moves_13 : decode cX8_moves 13 = .ok (.iload_n 2, 1) := by decide +kernel
theorem dX8_moves_14 : decode cX8_moves 14 = .ok (.sipush 700, 3) := by decide +kernel
theorem dX8_moves_17 : decode cX8_moves 17 = .ok (.if_icmp .le 6, 3) := by decide +kernel
theorem dX8_moves_20 : decode cX8_moves 20 = .ok (.bipush (-2), 2) := by decide +kernel
theorem dX8_moves_22 : decode cX8_moves 22 = .ok (.ireturn, 1) := by decide +kernel
theorem dX8_moves_23 : decode cX8_moves 23 = .ok (.aload_n 0, 1) := by decide +kernel
theorem dX8_moves_24 : decode cX8_moves 24 = .ok (.iload_n 1, 1) := by decide +kernel
theorem dX8_moves_25 : decode cX8_moves 25 = .ok (.invokevirtual 135, 3) := by decide +kernel
theorem dX8_moves_28 : decode cX8_moves 28 = .ok (.astore_n 3, 1) := by decide +kernel
theorem dX8_moves_29 : decode cX8_moves 29 = .ok (.iconst 0, 1) := by decide +kernel
theorem dX8_moves_30 : decode cX8_moves 30 = .ok (.istore 4, 2) := by decide +kernel
theorem dX8_moves_32 : decode cX8_moves 32 = .ok (.iconst 0, 1) := by decide +kernel
theorem dX8_moves_33 : decode cX8_moves 33 = .ok (.istore 5, 2) := by decide +kernel
theorem dX8_moves_35 : decode cX8_moves 35 = .ok (.iload 5, 2) := by decide +kernel
theorem dX8_moves_37 : decode cX8_moves 37 = .ok (.aload_n 3, 1) := by decide +kernel
theorem dX8_moves_38 : decode cX8_moves 38 = .ok (.getfield 152, 3) := by decide +kernel
theorem dX8_moves_41 : decode cX8_moves 41 = .ok (.if_icmp .ge 24, 3) := by decide +kernel
theorem dX8_moves_44 : decode cX8_moves 44 = .ok (.aload_n 3, 1) := by decide +kernel
theorem dX8_moves_45 : decode cX8_moves 45 = .ok (.iload 5, 2) := by decide +kernel
theorem dX8_moves_47 : decode cX8_moves 47 = .ok (.iload_n 2, 1) := by decide +kernel
theorem dX8_moves_48 : decode cX8_moves 48 = .ok (.iconst 1, 1) := by decide +kernel
theorem dX8_moves_49 : decode cX8_moves 49 = .ok (.iadd, 1) := by decide +kernel
theorem dX8_moves_50 : decode cX8_moves 50 = .ok (.invokevirtual 326, 3) := by decide +kernel
theorem dX8_moves_53 : decode cX8_moves 53 = .ok (.ifCond .le 6, 3) := by decide +kernel
theorem dX8_moves_56 : decode cX8_moves 56 = .ok (.iinc 4 1, 3) := by decide +kernel
theorem dX8_moves_59 : decode cX8_moves 59 = .ok (.iinc 5 1, 3) := by decide +kernel
theorem dX8_moves_62 : decode cX8_moves 62 = .ok (.goto (-27), 3) := by decide +kernel
theorem dX8_moves_65 : decode cX8_moves 65 = .ok (.iload 4, 2) := by decide +kernel
theorem dX8_moves_67 : decode cX8_moves 67 = .ok (.ireturn, 1) := by decide +kernel
theorem dX8_noMoor_0 : decode cX8_noMoor 0 = .ok (.aload_n 0, 1) := by decide +kernel
theorem dX8_noMoor_1 : decode cX8_noMoor 1 = .ok (.getfield 19, 3) := by decide +kernel
theorem dX8_noMoor_4 : decode cX8_noMoor 4 = .ok (.getfield 104, 3) := by decide +kernel
theorem dX8_noMoor_7 : decode cX8_noMoor 7 = .ok (.ifCond .ne 7, 3) := by decide +kernel
theorem dX8_noMoor_10 : decode cX8_noMoor 10 = .ok (.iconst 1, 1) := by decide +kernel
theorem dX8_noMoor_11 : decode cX8_noMoor 11 = .ok (.goto 4, 3) := by decide +kernel
theorem dX8_noMoor_14 : decode cX8_noMoor 14 = .ok (.iconst 0, 1) := by decide +kernel
theorem dX8_noMoor_15 : decode cX8_noMoor 15 = .ok (.ireturn, 1) := by decide +kernel
theorem dX8_odd_0 : decode cX8_odd 0 = .ok (.aload_n 0, 1) := by decide +kernel
theorem dX8_odd_1 : decode cX8_odd 1 = .ok (.iload_n 1, 1) := by decide +kernel
theorem dX8_odd_2 : decode cX8_odd 2 = .ok (.invokevirtual 132, 3) := by decide +kernel
theorem dX8_odd_5 : decode cX8_odd 5 = .ok (.ifCond .eq 14, 3) := by decide +kernel
theorem dX8_odd_8 : decode cX8_odd 8 = .ok (.aload_n 0, 1) := by decide +kernel
theorem dX8_odd_9 : decode cX8_odd 9 = .ok (.iload_n 1, 1) := by decide +kernel
theorem dX8_odd_10 : decode cX8_odd 10 = .ok (.invokevirtual 135, 3) := by decide +kernel
theorem dX8_odd_13 : decode cX8_odd 13 = .ok (.invokevirtual 162, 3) := by decide +kernel
theorem dX8_odd_16 : decode cX8_odd 16 = .ok (.goto 5, 3) := by decide +kernel
theorem dX8_odd_19 : decode cX8_odd 19 = .ok (.bipush (-2), 2) := by decide +kernel
theorem dX8_odd_21 : decode cX8_odd 21 = .ok (.ireturn, 1) := by decide +kernel
theorem dX8_passByLaw_0 : decode cX8_passByLaw 0 = .ok (.aload_n 0, 1) := by decide +kernel
theorem dX8_passByLaw_1 : decode cX8_passByLaw 1 = .ok (.getfield 43, 3) := by decide +kernel
theorem dX8_passByLaw_4 : decode cX8_passByLaw 4 = .ok (.aload_n 0, 1) := by decide +kernel
theorem dX8_passByLaw_5 : decode cX8_passByLaw 5 = .ok (.getfield 19, 3) := by decide +kernel
theorem dX8_passByLaw_8 : decode cX8_passByLaw 8 = .ok (.invokevirtual 420, 3) := by decide +kernel
theorem dX8_passByLaw_11 : decode cX8_passByLaw 11 = .ok (.aload_n 0, 1) := by decide +kernel
theorem dX8_passByLaw_12 : decode cX8_passByLaw 12 = .ok (.getfield 43, 3) := by decide +kernel
theorem dX8_passByLaw_15 : decode cX8_passByLaw 15 = .ok (.iload_n 1, 1) := by decide +kernel
theorem dX8_passByLaw_16 : decode cX8_passByLaw 16 = .ok (.putfield 448, 3) := by decide +kernel
theorem dX8_passByLaw_19 : decode cX8_passByLaw 19 = .ok (.aload_n 0, 1) := by decide +kernel
theorem dX8_passByLaw_20 : decode cX8_passByLaw 20 = .ok (.getfield 43, 3) := by decide +kernel
theorem dX8_passByLaw_23 : decode cX8_passByLaw 23 = .ok (.aload_n 0, 1) := by decide +kernel
theorem dX8_passByLaw_24 : decode cX8_passByLaw 24 = .ok (.getfield 19, 3) := by decide +kernel
theorem dX8_passByLaw_27 : decode cX8_passByLaw 27 = .ok (.invokevirtual 423, 3) := by decide +kernel
theorem dX8_passByLaw_30 : decode cX8_passByLaw 30 = .ok (.aload_n 0, 1) := by decide +kernel
theorem dX8_passByLaw_31 : decode cX8_passByLaw 31 = .ok (.getfield 43, 3) := by decide +kernel
theorem dX8_passByLaw_34 : decode cX8_passByLaw 34 = .ok (.aload_n 0, 1) := by decide +kernel
theorem dX8_passByLaw_35 : decode cX8_passByLaw 35 = .ok (.getfield 19, 3) := by decide +kernel
theorem dX8_passByLaw_38 : decode cX8_passByLaw 38 = .ok (.getfield 181, 3) := by decide +kernel
theorem dX8_passByLaw_41 : decode cX8_passByLaw 41 = .ok (.invokevirtual 426, 3) := by decide +kernel
theorem dX8_passByLaw_44 : decode cX8_passByLaw 44 = .ok (.areturn, 1) := by decide +kernel
theorem dX8_passChoice_0 : decode cX8_passChoice 0 = .ok (.iload_n 2, 1) := by decide +kernel
theorem dX8_passChoice_1 : decode cX8_passChoice 1 = .ok (.istore 4, 2) := by decide +kernel
theorem dX8_passChoice_3 : decode cX8_passChoice 3 = .ok (.iload 4, 2) := by decide +kernel
theorem dX8_passChoice_5 : decode cX8_passChoice 5 = .ok (.iload_n 3, 1) := by decide +kernel
theorem dX8_passChoice_6 : decode cX8_passChoice 6 = .ok (.if_icmp .gt 40, 3) := by decide +kernel
theorem dX8_passChoice_9 : decode cX8_passChoice 9 = .ok (.aload_n 0, 1) := by decide +kernel
theorem dX8_passChoice_10 : decode cX8_passChoice 10 = .ok (.getfield 43, 3) := by decide +kernel
theorem dX8_passChoice_13 : decode cX8_passChoice 13 = .ok (.iload_n 1, 1) := by decide +kernel
theorem dX8_passChoice_14 : decode cX8_passChoice 14 = .ok (.iload_n 3, 1) := by decide +kernel
theorem dX8_passChoice_15 : decode cX8_passChoice 15 = .ok (.iload 4, 2) := by decide +kernel
theorem dX8_passChoice_17 : decode cX8_passChoice 17 = .ok (.isub, 1) := by decide +kernel
theorem dX8_passChoice_18 : decode cX8_passChoice 18 = .ok (.ishr, 1) := by decide +kernel
theorem dX8_passChoice_19 : decode cX8_passChoice 19 = .ok (.iconst 1, 1) := by decide +kernel
theorem dX8_passChoice_20 : decode cX8_passChoice 20 = .ok (.iand, 1) := by decide +kernel
theorem dX8_passChoice_21 : decode cX8_passChoice 21 = .ok (.iload 4, 2) := by decide +kernel
theorem dX8_passChoice_23 : decode cX8_passChoice 23 = .ok (.ishl, 1) := by decide +kernel
theorem dX8_passChoice_24 : decode cX8_passChoice 24 = .ok (.putfield 445, 3) := by decide +kernel
theorem dX8_passChoice_27 : decode cX8_passChoice 27 = .ok (.aload_n 0, 1) := by decide +kernel
theorem dX8_passChoice_28 : decode cX8_passChoice 28 = .ok (.getfield 43, 3) := by decide +kernel
theorem dX8_passChoice_31 : decode cX8_passChoice 31 = .ok (.aload_n 0, 1) := by decide +kernel
theorem dX8_passChoice_32 : decode cX8_passChoice 32 = .ok (.getfield 19, 3) := by decide +kernel
theorem dX8_passChoice_35 : decode cX8_passChoice 35 = .ok (.iload 4, 2) := by decide +kernel
theorem dX8_passChoice_37 : decode cX8_passChoice 37 = .ok (.invokevirtual 487, 3) := by decide +kernel
theorem dX8_passChoice_40 : decode cX8_passChoice 40 = .ok (.iinc 4 1, 3) := by decide +kernel
theorem dX8_passChoice_43 : decode cX8_passChoice 43 = .ok (.goto (-40), 3) := by decide +kernel
theorem dX8_passChoice_46 : decode cX8_passChoice 46 = .ok (.return_, 1) := by decide +kernel
theorem dX8_passLate_0 : decode cX8_passLate 0 = .ok (.aload_n 0, 1) := by decide +kernel
theorem dX8_passLate_1 : decode cX8_passLate 1 = .ok (.getfield 43, 3) := by decide +kernel
theorem dX8_passLate_4 : decode cX8_passLate 4 = .ok (.aload_n 0, 1) := by decide +kernel
theorem dX8_passLate_5 : decode cX8_passLate 5 = .ok (.getfield 19, 3) := by decide +kernel
theorem dX8_passLate_8 : decode cX8_passLate 8 = .ok (.invokevirtual 420, 3) := by decide +kernel
theorem dX8_passLate_11 : decode cX8_passLate 11 = .ok (.aload_n 0, 1) := by decide +kernel
theorem dX8_passLate_12 : decode cX8_passLate 12 = .ok (.getfield 43, 3) := by decide +kernel
theorem dX8_passLate_15 : decode cX8_passLate 15 = .ok (.iload_n 3, 1) := by decide +kernel
theorem dX8_passLate_16 : decode cX8_passLate 16 = .ok (.iload_n 1, 1) := by decide +kernel
theorem dX8_passLate_17 : decode cX8_passLate 17 = .ok (.ishl, 1) := by decide +kernel
theorem dX8_passLate_18 : decode cX8_passLate 18 = .ok (.iload 4, 2) := by decide +kernel
theorem dX8_passLate_20 : decode cX8_passLate 20 = .ok (.iload_n 2, 1) := by decide +kernel
theorem dX8_passLate_21 : decode cX8_passLate 21 = .ok (.ishl, 1) := by decide +kernel
theorem dX8_passLate_22 : decode cX8_passLate 22 = .ok (.ior, 1) := by decide +kernel
theorem dX8_passLate_23 : decode cX8_passLate 23 = .ok (.putfield 449, 3) := by decide +kernel
theorem dX8_passLate_26 : decode cX8_passLate 26 = .ok (.aload_n 0, 1) := by decide +kernel
theorem dX8_passLate_27 : decode cX8_passLate 27 = .ok (.getfield 43, 3) := by decide +kernel
theorem dX8_passLate_30 : decode cX8_passLate 30 = .ok (.aload_n 0, 1) := by decide +kernel
theorem dX8_passLate_31 : decode cX8_passLate 31 = .ok (.getfield 19, 3) := by decide +kernel
theorem dX8_passLate_34 : decode cX8_passLate 34 = .ok (.invokevirtual 423, 3) := by decide +kernel
theorem dX8_passLate_37 : decode cX8_passLate 37 = .ok (.aload_n 0, 1) := by decide +kernel
theorem dX8_passLate_38 : decode cX8_passLate 38 = .ok (.getfield 43, 3) := by decide +kernel
theorem dX8_passLate_41 : decode cX8_passLate 41 = .ok (.aload_n 0, 1) := by decide +kernel
theorem dX8_passLate_42 : decode cX8_passLate 42 = .ok (.getfield 19, 3) := by decide +kernel
theorem dX8_passLate_45 : decode cX8_passLate 45 = .ok (.getfield 181, 3) := by decide +kernel
theorem dX8_passLate_48 : decode cX8_passLate 48 = .ok (.invokevirtual 426, 3) := by decide +kernel
theorem dX8_passLate_51 : decode cX8_passLate 51 = .ok (.areturn, 1) := by decide +kernel
theorem dX8_paste_0 : decode cX8_paste 0 = .ok (.iload_n 1, 1) := by decide +kernel
theorem dX8_paste_1 : decode cX8_paste 1 = .ok (.invokestatic 382, 3) := by decide +kernel
theorem dX8_paste_4 : decode cX8_paste 4 = .ok (.ifCond .eq 10, 3) := by decide +kernel
theorem dX8_paste_7 : decode cX8_paste 7 = .ok (.iload_n 3, 1) := by decide +kernel
theorem dX8_paste_8 : decode cX8_paste 8 = .ok (.invokestatic 382, 3) := by decide +kernel
theorem dX8_paste_11 : decode cX8_paste 11 = .ok (.ifCond .ne 6, 3) := by decide +kernel
theorem dX8_paste_14 : decode cX8_paste 14 = .ok (.bipush (-2), 2) := by decide +kernel
theorem dX8_paste_16 : decode cX8_paste 16 = .ok (.ireturn, 1) := by decide +kernel
theorem dX8_paste_17 : decode cX8_paste 17 = .ok (.aload_n 0, 1) := by decide +kernel
theorem dX8_paste_18 : decode cX8_paste 18 = .ok (.getfield 32, 3) := by decide +kernel
theorem dX8_paste_21 : decode cX8_paste 21 = .ok (.iload_n 1, 1) := by decide +kernel
theorem dX8_paste_22 : decode cX8_paste 22 = .ok (.aaload, 1) := by decide +kernel
theorem dX8_paste_23 : decode cX8_paste 23 = .ok (.astore 6, 2) := by decide +kernel
theorem dX8_paste_25 : decode cX8_paste 25 = .ok (.aload_n 0, 1) := by decide +kernel
theorem dX8_paste_26 : decode cX8_paste 26 = .ok (.getfield 32, 3) := by decide +kernel
theorem dX8_paste_29 : decode cX8_paste 29 = .ok (.iload_n 3, 1) := by decide +kernel
theorem dX8_paste_30 : decode cX8_paste 30 = .ok (.aaload, 1) := by decide +kernel
theorem dX8_paste_31 : decode cX8_paste 31 = .ok (.astore 7, 2) := by decide +kernel
theorem dX8_paste_33 : decode cX8_paste 33 = .ok (.aload 6, 2) := by decide +kernel
theorem dX8_paste_35 : decode cX8_paste 35 = .ok (.getfield 389, 3) := by decide +kernel
theorem dX8_paste_38 : decode cX8_paste 38 = .ok (.ifCond .eq 11, 3) := by decide +kernel
theorem dX8_paste_41 : decode cX8_paste 41 = .ok (.aload 7, 2) := by decide +kernel
theorem dX8_paste_43 : decode cX8_paste 43 = .ok (.getfield 389, 3) := by decide +kernel
theorem dX8_paste_46 : decode cX8_paste 46 = .ok (.ifCond .ne 6, 3) := by decide +kernel
theorem dX8_paste_49 : decode cX8_paste 49 = .ok (.bipush (-6), 2) := by decide +kernel
theorem dX8_paste_51 : decode cX8_paste 51 = .ok (.ireturn, 1) := by decide +kernel
theorem dX8_paste_52 : decode cX8_paste 52 = .ok (.aload 6, 2) := by decide +kernel
theorem dX8_paste_54 : decode cX8_paste 54 = .ok (.getfield 397, 3) := by decide +kernel
theorem dX8_paste_57 : decode cX8_paste 57 = .ok (.aload 7, 2) := by decide +kernel
theorem dX8_paste_59 : decode cX8_paste 59 = .ok (.getfield 397, 3) := by decide +kernel
theorem dX8_paste_62 : decode cX8_paste 62 = .ok (.if_icmp .eq 6, 3) := by decide +kernel
theorem dX8_paste_65 : decode cX8_paste 65 = .ok (.bipush (-8), 2) := by decide +kernel
theorem dX8_paste_67 : decode cX8_paste 67 = .ok (.ireturn, 1) := by decide +kernel
theorem dX8_paste_68 : decode cX8_paste 68 = .ok (.aload 6, 2) := by decide +kernel
theorem dX8_paste_70 : decode cX8_paste 70 = .ok (.iload_n 2, 1) := by decide +kernel
theorem dX8_paste_71 : decode cX8_paste 71 = .ok (.iload 5, 2) := by decide +kernel
theorem dX8_paste_73 : decode cX8_paste 73 = .ok (.invokevirtual 404, 3) := by decide +kernel
theorem dX8_paste_76 : decode cX8_paste 76 = .ok (.ifCond .eq 15, 3) := by decide +kernel
theorem dX8_paste_79 : decode cX8_paste 79 = .ok (.aload 7, 2) := by decide +kernel
theorem dX8_paste_81 : decode cX8_paste 81 = .ok (.iload 4, 2) := by decide +kernel
theorem dX8_paste_83 : decode cX8_paste 83 = .ok (.iload 5, 2) := by decide +kernel
theorem dX8_paste_85 : decode cX8_paste 85 = .ok (.invokevirtual 404, 3) := by decide +kernel
theorem dX8_paste_88 : decode cX8_paste 88 = .ok (.ifCond .ne 6, 3) := by decide +kernel
theorem dX8_paste_91 : decode cX8_paste 91 = .ok (.bipush (-7), 2) := by decide +kernel
theorem dX8_paste_93 : decode cX8_paste 93 = .ok (.ireturn, 1) := by decide +kernel
theorem dX8_paste_94 : decode cX8_paste 94 = .ok (.aload 6, 2) := by decide +kernel
theorem dX8_paste_96 : decode cX8_paste 96 = .ok (.getfield 393, 3) := by decide +kernel
theorem dX8_paste_99 : decode cX8_paste 99 = .ok (.iload_n 2, 1) := by decide +kernel
theorem dX8_paste_100 : decode cX8_paste 100 = .ok (.aload 7, 2) := by decide +kernel
theorem dX8_paste_102 : decode cX8_paste 102 = .ok (.getfield 393, 3) := by decide +kernel
theorem dX8_paste_105 : decode cX8_paste 105 = .ok (.iload 4, 2) := by decide +kernel
theorem dX8_paste_107 : decode cX8_paste 107 = .ok (.iload 5, 2) := by decide +kernel
theorem dX8_paste_109 : decode cX8_paste 109 = .ok (.invokestatic 408, 3) := by decide +kernel
theorem dX8_paste_112 : decode cX8_paste 112 = .ok (.iconst 0, 1) := by decide +kernel
theorem dX8_paste_113 : decode cX8_paste 113 = .ok (.ireturn, 1) := by decide +kernel
theorem dX8_payOfFirst_0 : decode cX8_payOfFirst 0 = .ok (.iconst 2, 1) := by decide +kernel
theorem dX8_payOfFirst_1 : decode cX8_payOfFirst 1 = .ok (.aload_n 0, 1) := by decide +kernel
theorem dX8_payOfFirst_2 : decode cX8_payOfFirst 2 = .ok (.getfield 139, 3) := by decide +kernel
theorem dX8_payOfFirst_5 : decode cX8_payOfFirst 5 = .ok (.imul, 1) := by decide +kernel
theorem dX8_payOfFirst_6 : decode cX8_payOfFirst 6 = .ok (.aload_n 0, 1) := by decide +kernel
theorem dX8_payOfFirst_7 : decode cX8_payOfFirst 7 = .ok (.invokevirtual 155, 3) := by decide +kernel
theorem dX8_payOfFirst_10 : decode cX8_payOfFirst 10 = .ok (.iadd, 1) := by decide +kernel
theorem dX8_payOfFirst_11 : decode cX8_payOfFirst 11 = .ok (.iload_n 1, 1) := by decide +kernel
theorem dX8_payOfFirst_12 : decode cX8_payOfFirst 12 = .ok (.isub, 1) := by decide +kernel
theorem dX8_payOfFirst_13 : decode cX8_payOfFirst 13 = .ok (.ireturn, 1) := by decide +kernel
theorem dX8_payOfSecond_0 : decode cX8_payOfSecond 0 = .ok (.aload_n 0, 1) := by decide +kernel
theorem dX8_payOfSecond_1 : decode cX8_payOfSecond 1 = .ok (.getfield 139, 3) := by decide +kernel
theorem dX8_payOfSecond_4 : decode cX8_payOfSecond 4 = .ok (.iconst 2, 1) := by decide +kernel
theorem dX8_payOfSecond_5 : decode cX8_payOfSecond 5 = .ok (.aload_n 0, 1) := by decide +kernel
theorem dX8_payOfSecond_6 : decode cX8_payOfSecond 6 = .ok (.invokevirtual 155, 3) := by decide +kernel
theorem dX8_payOfSecond_9 : decode cX8_payOfSecond 9 = .ok (.imul, 1) := by decide +kernel
theorem dX8_payOfSecond_10 : decode cX8_payOfSecond 10 = .ok (.iadd, 1) := by decide +kernel
theorem dX8_payOfSecond_11 : decode cX8_payOfSecond 11 = .ok (.iload_n 1, 1) := by decide +kernel
theorem dX8_payOfSecond_12 : decode cX8_payOfSecond 12 = .ok (.isub, 1) := by decide +kernel
theorem dX8_payOfSecond_13 : decode cX8_payOfSecond 13 = .ok (.ireturn, 1) := by decide +kernel
theorem dX8_peak_0 : decode cX8_peak 0 = .ok (.aload_n 0, 1) := by decide +kernel
theorem dX8_peak_1 : decode cX8_peak 1 = .ok (.invokevirtual 177, 3) := by decide +kernel
theorem dX8_peak_4 : decode cX8_peak 4 = .ok (.ifCond .eq 6, 3) := by decide +kernel
theorem dX8_peak_7 : decode cX8_peak 7 = .ok (.bipush (-2), 2) := by decide +kernel
theorem dX8_peak_9 : decode cX8_peak 9 = .ok (.ireturn, 1) := by decide +kernel
theorem dX8_peak_10 : decode cX8_peak 10 = .ok (.iconst 0, 1) := by decide +kernel
theorem dX8_peak_11 : decode cX8_peak 11 = .ok (.istore_n 1, 1) := by decide +kernel
theorem dX8_peak_12 : decode cX8_peak 12 = .ok (.iconst 1, 1) := by decide +kernel
theorem dX8_peak_13 : decode cX8_peak 13 = .ok (.istore_n 2, 1) := by decide +kernel
theorem dX8_peak_14 : decode cX8_peak 14 = .ok (.iload_n 2, 1) := by decide +kernel
theorem dX8_peak_15 : decode cX8_peak 15 = .ok (.aload_n 0, 1) := by decide +kernel
theorem dX8_peak_16 : decode cX8_peak 16 = .ok (.getfield 19, 3) := by decide +kernel
theorem dX8_peak_19 : decode cX8_peak 19 = .ok (.getfield 181, 3) := by decide +kernel
theorem dX8_peak_22 : decode cX8_peak 22 = .ok (.if_icmp .gt 30, 3) := by decide +kernel
theorem dX8_peak_25 : decode cX8_peak 25 = .ok (.aload_n 0, 1) := by decide +kernel
theorem dX8_peak_26 : decode cX8_peak 26 = .ok (.iload_n 2, 1) := by decide +kernel
theorem dX8_peak_27 : decode cX8_peak 27 = .ok (.invokevirtual 135, 3) := by decide +kernel
theorem dX8_peak_30 : decode cX8_peak 30 = .ok (.invokevirtual 155, 3) := by decide +kernel
theorem dX8_peak_33 : decode cX8_peak 33 = .ok (.aload_n 0, 1) := by decide +kernel
theorem dX8_peak_34 : decode cX8_peak 34 = .ok (.iload_n 1, 1) := by decide +kernel
theorem dX8_peak_35 : decode cX8_peak 35 = .ok (.invokevirtual 135, 3) := by decide +kernel
theorem dX8_peak_38 : decode cX8_peak 38 = .ok (.invokevirtual 155, 3) := by decide +kernel
theorem dX8_peak_41 : decode cX8_peak 41 = .ok (.if_icmp .le 5, 3) := by decide +kernel
theorem dX8_peak_44 : decode cX8_peak 44 = .ok (.iload_n 2, 1) := by decide +kernel
theorem dX8_peak_45 : decode cX8_peak 45 = .ok (.istore_n 1, 1) := by decide +kernel
theorem dX8_peak_46 : decode cX8_peak 46 = .ok (.iinc 2 1, 3) := by decide +kernel
theorem dX8_peak_49 : decode cX8_peak 49 = .ok (.goto (-35), 3) := by decide +kernel
theorem dX8_peak_52 : decode cX8_peak 52 = .ok (.iload_n 1, 1) := by decide +kernel
theorem dX8_peak_53 : decode cX8_peak 53 = .ok (.ireturn, 1) := by decide +kernel
theorem dX8_powerOfTen_0 : decode cX8_powerOfTen 0 = .ok (.lconst 1, 1) := by decide +kernel
theorem dX8_powerOfTen_1 : decode cX8_powerOfTen 1 = .ok (.lstore_n 1, 1) := by decide +kernel
theorem dX8_powerOfTen_2 : decode cX8_powerOfTen 2 = .ok (.iconst 0, 1) := by decide +kernel
theorem dX8_powerOfTen_3 : decode cX8_powerOfTen 3 = .ok (.istore_n 3, 1) := by decide +kernel
theorem dX8_powerOfTen_4 : decode cX8_powerOfTen 4 = .ok (.iload_n 3, 1) := by decide +kernel
theorem dX8_powerOfTen_5 : decode cX8_powerOfTen 5 = .ok (.iload_n 0, 1) := by decide +kernel
theorem dX8_powerOfTen_6 : decode cX8_powerOfTen 6 = .ok (.if_icmp .ge 15, 3) := by decide +kernel
theorem dX8_powerOfTen_9 : decode cX8_powerOfTen 9 = .ok (.lload_n 1, 1) := by decide +kernel
theorem dX8_powerOfTen_10 : decode cX8_powerOfTen 10 = .ok (.ldc2_w 491, 3) := by decide +kernel
theorem dX8_powerOfTen_13 : decode cX8_powerOfTen 13 = .ok (.lmul, 1) := by decide +kernel
theorem dX8_powerOfTen_14 : decode cX8_powerOfTen 14 = .ok (.lstore_n 1, 1) := by decide +kernel
theorem dX8_powerOfTen_15 : decode cX8_powerOfTen 15 = .ok (.iinc 3 1, 3) := by decide +kernel
theorem dX8_powerOfTen_18 : decode cX8_powerOfTen 18 = .ok (.goto (-14), 3) := by decide +kernel
theorem dX8_powerOfTen_21 : decode cX8_powerOfTen 21 = .ok (.lload_n 1, 1) := by decide +kernel
theorem dX8_powerOfTen_22 : decode cX8_powerOfTen 22 = .ok (.lreturn, 1) := by decide +kernel
theorem dX8_rate_0 : decode cX8_rate 0 = .ok (.aload_n 0, 1) := by decide +kernel
theorem dX8_rate_1 : decode cX8_rate 1 = .ok (.iload_n 1, 1) := by decide +kernel
theorem dX8_rate_2 : decode cX8_rate 2 = .ok (.invokevirtual 113, 3) := by decide +kernel
theorem dX8_rate_5 : decode cX8_rate 5 = .ok (.ifCond .eq 14, 3) := by decide +kernel
theorem dX8_rate_8 : decode cX8_rate 8 = .ok (.iload_n 2, 1) := by decide +kernel
theorem dX8_rate_9 : decode cX8_rate 9 = .ok (.iconst 1, 1) := by decide +kernel
theorem dX8_rate_10 : decode cX8_rate 10 = .ok (.if_icmp .lt 9, 3) := by decide +kernel
theorem dX8_rate_13 : decode cX8_rate 13 = .ok (.iload_n 2, 1) := by decide +kernel
theorem dX8_rate_14 : decode cX8_rate 14 = .ok (.bipush 20, 2) := by decide +kernel
theorem dX8_rate_16 : decode cX8_rate 16 = .ok (.if_icmp .le 6, 3) := by decide +kernel
theorem dX8_rate_19 : decode cX8_rate 19 = .ok (.bipush (-2), 2) := by decide +kernel
theorem dX8_rate_21 : decode cX8_rate 21 = .ok (.ireturn, 1) := by decide +kernel
theorem dX8_rate_22 : decode cX8_rate 22 = .ok (.aload_n 0, 1) := by decide +kernel
theorem dX8_rate_23 : decode cX8_rate 23 = .ok (.getfield 19, 3) := by decide +kernel
theorem dX8_rate_26 : decode cX8_rate 26 = .ok (.getfield 358, 3) := by decide +kernel
theorem dX8_rate_29 : decode cX8_rate 29 = .ok (.ifCond .le 6, 3) := by decide +kernel
theorem dX8_rate_32 : decode cX8_rate 32 = .ok (.bipush (-5), 2) := by decide +kernel
theorem dX8_rate_34 : decode cX8_rate 34 = .ok (.ireturn, 1) := by decide +kernel
theorem dX8_rate_35 : decode cX8_rate 35 = .ok (.aload_n 0, 1) := by decide +kernel
theorem dX8_rate_36 : decode cX8_rate 36 = .ok (.getfield 19, 3) := by decide +kernel
theorem dX8_rate_39 : decode cX8_rate 39 = .ok (.getfield 117, 3) := by decide +kernel
theorem dX8_rate_42 : decode cX8_rate 42 = .ok (.iload_n 1, 1) := by decide +kernel
theorem dX8_rate_43 : decode cX8_rate 43 = .ok (.iaload, 1) := by decide +kernel
theorem dX8_rate_44 : decode cX8_rate 44 = .ok (.istore_n 3, 1) := by decide +kernel
theorem dX8_rate_45 : decode cX8_rate 45 = .ok (.aload_n 0, 1) := by decide +kernel
theorem dX8_rate_46 : decode cX8_rate 46 = .ok (.getfield 19, 3) := by decide +kernel
theorem dX8_rate_49 : decode cX8_rate 49 = .ok (.getfield 117, 3) := by decide +kernel
theorem dX8_rate_52 : decode cX8_rate 52 = .ok (.iload_n 1, 1) := by decide +kernel
theorem dX8_rate_53 : decode cX8_rate 53 = .ok (.iload_n 2, 1) := by decide +kernel
theorem dX8_rate_54 : decode cX8_rate 54 = .ok (.iastore, 1) := by decide +kernel
theorem dX8_rate_55 : decode cX8_rate 55 = .ok (.aload_n 0, 1) := by decide +kernel
theorem dX8_rate_56 : decode cX8_rate 56 = .ok (.invokevirtual 101, 3) := by decide +kernel
theorem dX8_rate_59 : decode cX8_rate 59 = .ok (.iload_n 3, 1) := by decide +kernel
theorem dX8_rate_60 : decode cX8_rate 60 = .ok (.ireturn, 1) := by decide +kernel
theorem dX8_rests_0 : decode cX8_rests 0 = .ok (.aload_n 0, 1) := by decide +kernel
theorem dX8_rests_1 : decode cX8_rests 1 = .ok (.iload_n 1, 1) := by decide +kernel
theorem dX8_rests_2 : decode cX8_rests 2 = .ok (.invokevirtual 120, 3) := by decide +kernel
theorem dX8_rests_5 : decode cX8_rests 5 = .ok (.ifCond .eq 16, 3) := by decide +kernel
theorem dX8_rests_8 : decode cX8_rests 8 = .ok (.aload_n 0, 1) := by decide +kernel
theorem dX8_rests_9 : decode cX8_rests 9 = .ok (.iload_n 2, 1) := by decide +kernel
theorem dX8_rests_10 : decode cX8_rests 10 = .ok (.invokevirtual 120, 3) := by decide +kernel
theorem dX8_rests_13 : decode cX8_rests 13 = .ok (.ifCond .eq 8, 3) := by decide +kernel
theorem dX8_rests_16 : decode cX8_rests 16 = .ok (.iload_n 1, 1) := by decide +kernel
theorem dX8_rests_17 : decode cX8_rests 17 = .ok (.iload_n 2, 1) := by decide +kernel
theorem dX8_rests_18 : decode cX8_rests 18 = .ok (.if_icmp .ne 6, 3) := by decide +kernel
theorem dX8_rests_21 : decode cX8_rests 21 = .ok (.bipush (-2), 2) := by decide +kernel
theorem dX8_rests_23 : decode cX8_rests 23 = .ok (.ireturn, 1) := by decide +kernel
theorem dX8_rests_24 : decode cX8_rests 24 = .ok (.iconst 0, 1) := by decide +kernel
theorem dX8_rests_25 : decode cX8_rests 25 = .ok (.istore_n 3, 1) := by decide +kernel
theorem dX8_rests_26 : decode cX8_rests 26 = .ok (.iload_n 3, 1) := by decide +kernel
theorem dX8_rests_27 : decode cX8_rests 27 = .ok (.iconst 4, 1) := by decide +kernel
theorem dX8_rests_28 : decode cX8_rests 28 = .ok (.if_icmp .ge 53, 3) := by decide +kernel
theorem dX8_rests_31 : decode cX8_rests 31 = .ok (.aload_n 0, 1) := by decide +kernel
theorem dX8_rests_32 : decode cX8_rests 32 = .ok (.iload_n 1, 1) := by decide +kernel
theorem dX8_rests_33 : decode cX8_rests 33 = .ok (.iload_n 2, 1) := by decide +kernel
theorem dX8_rests_34 : decode cX8_rests 34 = .ok (.iload_n 3, 1) := by decide +kernel
theorem dX8_rests_35 : decode cX8_rests 35 = .ok (.iconst 1, 1) := by decide +kernel
theorem dX8_rests_36 : decode cX8_rests 36 = .ok (.iand, 1) := by decide +kernel
theorem dX8_rests_37 : decode cX8_rests 37 = .ok (.iload_n 3, 1) := by decide +kernel
theorem dX8_rests_38 : decode cX8_rests 38 = .ok (.iconst 1, 1) := by decide +kernel
theorem dX8_rests_39 : decode cX8_rests 39 = .ok (.ishr, 1) := by decide +kernel
theorem dX8_rests_40 : decode cX8_rests 40 = .ok (.invokevirtual 332, 3) := by decide +kernel
theorem dX8_rests_43 : decode cX8_rests 43 = .ok (.astore 4, 2) := by decide +kernel
theorem dX8_rests_45 : decode cX8_rests 45 = .ok (.aload_n 0, 1) := by decide +kernel
theorem dX8_rests_46 : decode cX8_rests 46 = .ok (.getfield 78, 3) := by decide +kernel
theorem dX8_rests_49 : decode cX8_rests 49 = .ok (.iload_n 3, 1) := by decide +kernel
theorem dX8_rests_50 : decode cX8_rests 50 = .ok (.aload 4, 2) := by decide +kernel
theorem dX8_rests_52 : decode cX8_rests 52 = .ok (.iload_n 3, 1) := by decide +kernel
theorem dX8_rests_53 : decode cX8_rests 53 = .ok (.iconst 1, 1) := by decide +kernel
theorem dX8_rests_54 : decode cX8_rests 54 = .ok (.iand, 1) := by decide +kernel
theorem dX8_rests_55 : decode cX8_rests 55 = .ok (.invokestatic 336, 3) := by decide +kernel
theorem dX8_rests_58 : decode cX8_rests 58 = .ok (.iastore, 1) := by decide +kernel
theorem dX8_rests_59 : decode cX8_rests 59 = .ok (.aload_n 0, 1) := by decide +kernel
theorem dX8_rests_60 : decode cX8_rests 60 = .ok (.getfield 78, 3) := by decide +kernel
theorem dX8_rests_63 : decode cX8_rests 63 = .ok (.iconst 4, 1) := by decide +kernel
theorem dX8_rests_64 : decode cX8_rests 64 = .ok (.iload_n 3, 1) := by decide +kernel
theorem dX8_rests_65 : decode cX8_rests 65 = .ok (.iadd, 1) := by decide +kernel
theorem dX8_rests_66 : decode cX8_rests 66 = .ok (.aload 4, 2) := by decide +kernel
theorem dX8_rests_68 : decode cX8_rests 68 = .ok (.iload_n 3, 1) := by decide +kernel
theorem dX8_rests_69 : decode cX8_rests 69 = .ok (.iconst 1, 1) := by decide +kernel
theorem dX8_rests_70 : decode cX8_rests 70 = .ok (.ishr, 1) := by decide +kernel
theorem dX8_rests_71 : decode cX8_rests 71 = .ok (.invokestatic 339, 3) := by decide +kernel
theorem dX8_rests_74 : decode cX8_rests 74 = .ok (.iastore, 1) := by decide +kernel
theorem dX8_rests_75 : decode cX8_rests 75 = .ok (.iinc 3 1, 3) := by decide +kernel
theorem dX8_rests_78 : decode cX8_rests 78 = .ok (.goto (-52), 3) := by decide +kernel
theorem dX8_rests_81 : decode cX8_rests 81 = .ok (.iconst 0, 1) := by decide +kernel
theorem dX8_rests_82 : decode cX8_rests 82 = .ok (.istore_n 3, 1) := by decide +kernel
theorem dX8_rests_83 : decode cX8_rests 83 = .ok (.iconst 0, 1) := by decide +kernel
theorem dX8_rests_84 : decode cX8_rests 84 = .ok (.istore 4, 2) := by decide +kernel
theorem dX8_rests_86 : decode cX8_rests 86 = .ok (.iload 4, 2) := by decide +kernel
theorem dX8_rests_88 : decode cX8_rests 88 = .ok (.iconst 4, 1) := by decide +kernel
theorem dX8_rests_89 : decode cX8_rests 89 = .ok (.if_icmp .ge 58, 3) := by decide +kernel
theorem dX8_rests_92 : decode cX8_rests 92 = .ok (.aload_n 0, 1) := by decide +kernel
theorem dX8_rests_93 : decode cX8_rests 93 = .ok (.getfield 78, 3) := by decide +kernel
theorem dX8_rests_96 : decode cX8_rests 96 = .ok (.iload 4, 2) := by decide +kernel
theorem dX8_rests_98 : decode cX8_rests 98 = .ok (.iaload, 1) := by decide +kernel
theorem dX8_rests_99 : decode cX8_rests 99 = .ok (.aload_n 0, 1) := by decide +kernel
theorem dX8_rests_100 : decode cX8_rests 100 = .ok (.getfield 78, 3) := by decide +kernel
theorem dX8_rests_103 : decode cX8_rests 103 = .ok (.iload 4, 2) := by decide +kernel
theorem dX8_rests_105 : decode cX8_rests 105 = .ok (.iconst 1, 1) := by decide +kernel
theorem dX8_rests_106 : decode cX8_rests 106 = .ok (.ixor, 1) := by decide +kernel
theorem dX8_rests_107 : decode cX8_rests 107 = .ok (.iaload, 1) := by decide +kernel
theorem dX8_rests_108 : decode cX8_rests 108 = .ok (.if_icmp .lt 33, 3) := by decide +kernel
theorem dX8_rests_111 : decode cX8_rests 111 = .ok (.aload_n 0, 1) := by decide +kernel
theorem dX8_rests_112 : decode cX8_rests 112 = .ok (.getfield 78, 3) := by decide +kernel
theorem dX8_rests_115 : decode cX8_rests 115 = .ok (.iconst 4, 1) := by decide +kernel
theorem dX8_rests_116 : decode cX8_rests 116 = .ok (.iload 4, 2) := by decide +kernel
theorem dX8_rests_118 : decode cX8_rests 118 = .ok (.iadd, 1) := by decide +kernel
theorem dX8_rests_119 : decode cX8_rests 119 = .ok (.iaload, 1) := by decide +kernel
theorem dX8_rests_120 : decode cX8_rests 120 = .ok (.aload_n 0, 1) := by decide +kernel
theorem dX8_rests_121 : decode cX8_rests 121 = .ok (.getfield 78, 3) := by decide +kernel
theorem dX8_rests_124 : decode cX8_rests 124 = .ok (.iconst 4, 1) := by decide +kernel
theorem dX8_rests_125 : decode cX8_rests 125 = .ok (.iload 4, 2) := by decide +kernel
theorem dX8_rests_127 : decode cX8_rests 127 = .ok (.iconst 2, 1) := by decide +kernel
theorem dX8_rests_128 : decode cX8_rests 128 = .ok (.ixor, 1) := by decide +kernel
theorem dX8_rests_129 : decode cX8_rests 129 = .ok (.iadd, 1) := by decide +kernel
theorem dX8_rests_130 : decode cX8_rests 130 = .ok (.iaload, 1) := by decide +kernel
theorem dX8_rests_131 : decode cX8_rests 131 = .ok (.if_icmp .lt 10, 3) := by decide +kernel
theorem dX8_rests_134 : decode cX8_rests 134 = .ok (.iload_n 3, 1) := by decide +kernel
theorem dX8_rests_135 : decode cX8_rests 135 = .ok (.iconst 1, 1) := by decide +kernel
theorem dX8_rests_136 : decode cX8_rests 136 = .ok (.iload 4, 2) := by decide +kernel
theorem dX8_rests_138 : decode cX8_rests 138 = .ok (.ishl, 1) := by decide +kernel
theorem dX8_rests_139 : decode cX8_rests 139 = .ok (.ior, 1) := by decide +kernel
theorem dX8_rests_140 : decode cX8_rests 140 = .ok (.istore_n 3, 1) := by decide +kernel
theorem dX8_rests_141 : decode cX8_rests 141 = .ok (.iinc 4 1, 3) := by decide +kernel
theorem dX8_rests_144 : decode cX8_rests 144 = .ok (.goto (-58), 3) := by decide +kernel
theorem dX8_rests_147 : decode cX8_rests 147 = .ok (.iload_n 3, 1) := by decide +kernel
theorem dX8_rests_148 : decode cX8_rests 148 = .ok (.ireturn, 1) := by decide +kernel
theorem dX8_ring_0 : decode cX8_ring 0 = .ok (.aload_n 0, 1) := by decide +kernel
theorem dX8_ring_1 : decode cX8_ring 1 = .ok (.iload_n 1, 1) := by decide +kernel
theorem dX8_ring_2 : decode cX8_ring 2 = .ok (.invokevirtual 132, 3) := by decide +kernel
theorem dX8_ring_5 : decode cX8_ring 5 = .ok (.ifCond .eq 14, 3) := by decide +kernel
theorem dX8_ring_8 : decode cX8_ring 8 = .ok (.aload_n 0, 1) := by decide +kernel
theorem dX8_ring_9 : decode cX8_ring 9 = .ok (.iload_n 1, 1) := by decide +kernel
theorem dX8_ring_10 : decode cX8_ring 10 = .ok (.invokevirtual 217, 3) := by decide +kernel
theorem dX8_ring_13 : decode cX8_ring 13 = .ok (.getfield 227, 3) := by decide +kernel
theorem dX8_ring_16 : decode cX8_ring 16 = .ok (.goto 5, 3) := by decide +kernel
theorem dX8_ring_19 : decode cX8_ring 19 = .ok (.bipush (-2), 2) := by decide +kernel
theorem dX8_ring_21 : decode cX8_ring 21 = .ok (.ireturn, 1) := by decide +kernel
theorem dX8_ringed_0 : decode cX8_ringed 0 = .ok (.aload_n 0, 1) := by decide +kernel
theorem dX8_ringed_1 : decode cX8_ringed 1 = .ok (.iload_n 1, 1) := by decide +kernel
theorem dX8_ringed_2 : decode cX8_ringed 2 = .ok (.invokevirtual 239, 3) := by decide +kernel
theorem dX8_ringed_5 : decode cX8_ringed 5 = .ok (.ifCond .eq 14, 3) := by decide +kernel
theorem dX8_ringed_8 : decode cX8_ringed 8 = .ok (.aload_n 0, 1) := by decide +kernel
theorem dX8_ringed_9 : decode cX8_ringed 9 = .ok (.iload_n 1, 1) := by decide +kernel
theorem dX8_ringed_10 : decode cX8_ringed 10 = .ok (.invokevirtual 242, 3) := by decide +kernel
theorem dX8_ringed_13 : decode cX8_ringed 13 = .ok (.getfield 247, 3) := by decide +kernel
theorem dX8_ringed_16 : decode cX8_ringed 16 = .ok (.goto 5, 3) := by decide +kernel
theorem dX8_ringed_19 : decode cX8_ringed 19 = .ok (.bipush (-2), 2) := by decide +kernel
theorem dX8_ringed_21 : decode cX8_ringed 21 = .ok (.ireturn, 1) := by decide +kernel
theorem dX8_rings_0 : decode cX8_rings 0 = .ok (.aload_n 0, 1) := by decide +kernel
theorem dX8_rings_1 : decode cX8_rings 1 = .ok (.iload_n 1, 1) := by decide +kernel
theorem dX8_rings_2 : decode cX8_rings 2 = .ok (.invokevirtual 239, 3) := by decide +kernel
theorem dX8_rings_5 : decode cX8_rings 5 = .ok (.ifCond .eq 14, 3) := by decide +kernel
theorem dX8_rings_8 : decode cX8_rings 8 = .ok (.aload_n 0, 1) := by decide +kernel
theorem dX8_rings_9 : decode cX8_rings 9 = .ok (.iload_n 1, 1) := by decide +kernel
theorem dX8_rings_10 : decode cX8_rings 10 = .ok (.invokevirtual 242, 3) := by decide +kernel
theorem dX8_rings_13 : decode cX8_rings 13 = .ok (.getfield 250, 3) := by decide +kernel
theorem dX8_rings_16 : decode cX8_rings 16 = .ok (.goto 5, 3) := by decide +kernel
theorem dX8_rings_19 : decode cX8_rings 19 = .ok (.bipush (-2), 2) := by decide +kernel
theorem dX8_rings_21 : decode cX8_rings 21 = .ok (.ireturn, 1) := by decide +kernel
theorem dX8_roundOf_0 : decode cX8_roundOf 0 = .ok (.aload_n 0, 1) := by decide +kernel
theorem dX8_roundOf_1 : decode cX8_roundOf 1 = .ok (.getfield 81, 3) := by decide +kernel
theorem dX8_roundOf_4 : decode cX8_roundOf 4 = .ok (.iload_n 1, 1) := by decide +kernel
theorem dX8_roundOf_5 : decode cX8_roundOf 5 = .ok (.if_icmp .eq 27, 3) := by decide +kernel
theorem dX8_roundOf_8 : decode cX8_roundOf 8 = .ok (.aload_n 0, 1) := by decide +kernel
theorem dX8_roundOf_9 : decode cX8_roundOf 9 = .ok (.getfield 49, 3) := by decide +kernel
theorem dX8_roundOf_12 : decode cX8_roundOf 12 = .ok (.aload_n 0, 1) := by decide +kernel
theorem dX8_roundOf_13 : decode cX8_roundOf 13 = .ok (.iload_n 1, 1) := by decide +kernel
theorem dX8_roundOf_14 : decode cX8_roundOf 14 = .ok (.invokevirtual 135, 3) := by decide +kernel
theorem dX8_roundOf_17 : decode cX8_roundOf 17 = .ok (.aload_n 0, 1) := by decide +kernel
theorem dX8_roundOf_18 : decode cX8_roundOf 18 = .ok (.getfield 19, 3) := by decide +kernel
theorem dX8_roundOf_21 : decode cX8_roundOf 21 = .ok (.getfield 168, 3) := by decide +kernel
theorem dX8_roundOf_24 : decode cX8_roundOf 24 = .ok (.invokevirtual 429, 3) := by decide +kernel
theorem dX8_roundOf_27 : decode cX8_roundOf 27 = .ok (.aload_n 0, 1) := by decide +kernel
theorem dX8_roundOf_28 : decode cX8_roundOf 28 = .ok (.iload_n 1, 1) := by decide +kernel
theorem dX8_roundOf_29 : decode cX8_roundOf 29 = .ok (.putfield 81, 3) := by decide +kernel
theorem dX8_roundOf_32 : decode cX8_roundOf 32 = .ok (.aload_n 0, 1) := by decide +kernel
theorem dX8_roundOf_33 : decode cX8_roundOf 33 = .ok (.getfield 49, 3) := by decide +kernel
theorem dX8_roundOf_36 : decode cX8_roundOf 36 = .ok (.areturn, 1) := by decide +kernel
theorem dX8_row_0 : decode cX8_row 0 = .ok (.iload_n 1, 1) := by decide +kernel
theorem dX8_row_1 : decode cX8_row 1 = .ok (.invokestatic 382, 3) := by decide +kernel
theorem dX8_row_4 : decode cX8_row 4 = .ok (.ifCond .eq 18, 3) := by decide +kernel
theorem dX8_row_7 : decode cX8_row 7 = .ok (.iload_n 2, 1) := by decide +kernel
theorem dX8_row_8 : decode cX8_row 8 = .ok (.ifCond .lt 14, 3) := by decide +kernel
theorem dX8_row_11 : decode cX8_row 11 = .ok (.iload_n 2, 1) := by decide +kernel
theorem dX8_row_12 : decode cX8_row 12 = .ok (.iconst 4, 1) := by decide +kernel
theorem dX8_row_13 : decode cX8_row 13 = .ok (.if_icmp .ge 9, 3) := by decide +kernel
theorem dX8_row_16 : decode cX8_row 16 = .ok (.iload_n 3, 1) := by decide +kernel
theorem dX8_row_17 : decode cX8_row 17 = .ok (.bipush 60, 2) := by decide +kernel
theorem dX8_row_19 : decode cX8_row 19 = .ok (.if_icmp .le 6, 3) := by decide +kernel
theorem dX8_row_22 : decode cX8_row 22 = .ok (.bipush (-2), 2) := by decide +kernel
theorem dX8_row_24 : decode cX8_row 24 = .ok (.ireturn, 1) := by decide +kernel
theorem dX8_row_25 : decode cX8_row 25 = .ok (.iload_n 3, 1) := by decide +kernel
theorem dX8_row_26 : decode cX8_row 26 = .ok (.ifCond .ge 6, 3) := by decide +kernel
theorem dX8_row_29 : decode cX8_row 29 = .ok (.bipush (-3), 2) := by decide +kernel
theorem dX8_row_31 : decode cX8_row 31 = .ok (.ireturn, 1) := by decide +kernel
theorem dX8_row_32 : decode cX8_row 32 = .ok (.aload_n 0, 1) := by decide +kernel
theorem dX8_row_33 : decode cX8_row 33 = .ok (.getfield 32, 3) := by decide +kernel
theorem dX8_row_36 : decode cX8_row 36 = .ok (.iload_n 1, 1) := by decide +kernel
theorem dX8_row_37 : decode cX8_row 37 = .ok (.aaload, 1) := by decide +kernel
theorem dX8_row_38 : decode cX8_row 38 = .ok (.iload_n 2, 1) := by decide +kernel
theorem dX8_row_39 : decode cX8_row 39 = .ok (.iload_n 3, 1) := by decide +kernel
theorem dX8_row_40 : decode cX8_row 40 = .ok (.invokevirtual 385, 3) := by decide +kernel
theorem dX8_row_43 : decode cX8_row 43 = .ok (.iconst 0, 1) := by decide +kernel
theorem dX8_row_44 : decode cX8_row 44 = .ok (.ireturn, 1) := by decide +kernel
theorem dX8_rowOfDay_0 : decode cX8_rowOfDay 0 = .ok (.aload_n 0, 1) := by decide +kernel
theorem dX8_rowOfDay_1 : decode cX8_rowOfDay 1 = .ok (.getfield 414, 3) := by decide +kernel
theorem dX8_rowOfDay_4 : decode cX8_rowOfDay 4 = .ok (.ifCond .ne 30, 3) := by decide +kernel
theorem dX8_rowOfDay_7 : decode cX8_rowOfDay 7 = .ok (.aload_n 0, 1) := by decide +kernel
theorem dX8_rowOfDay_8 : decode cX8_rowOfDay 8 = .ok (.getfield 39, 3) := by decide +kernel
theorem dX8_rowOfDay_11 : decode cX8_rowOfDay 11 = .ok (.aload_n 0, 1) := by decide +kernel
theorem dX8_rowOfDay_12 : decode cX8_rowOfDay 12 = .ok (.getfield 19, 3) := by decide +kernel
theorem dX8_rowOfDay_15 : decode cX8_rowOfDay 15 = .ok (.invokevirtual 420, 3) := by decide +kernel
theorem dX8_rowOfDay_18 : decode cX8_rowOfDay 18 = .ok (.aload_n 0, 1) := by decide +kernel
theorem dX8_rowOfDay_19 : decode cX8_rowOfDay 19 = .ok (.getfield 39, 3) := by decide +kernel
theorem dX8_rowOfDay_22 : decode cX8_rowOfDay 22 = .ok (.aload_n 0, 1) := by decide +kernel
theorem dX8_rowOfDay_23 : decode cX8_rowOfDay 23 = .ok (.getfield 19, 3) := by decide +kernel
theorem dX8_rowOfDay_26 : decode cX8_rowOfDay 26 = .ok (.invokevirtual 423, 3) := by decide +kernel
theorem dX8_rowOfDay_29 : decode cX8_rowOfDay 29 = .ok (.aload_n 0, 1) := by decide +kernel
theorem dX8_rowOfDay_30 : decode cX8_rowOfDay 30 = .ok (.iconst 1, 1) := by decide +kernel
theorem dX8_rowOfDay_31 : decode cX8_rowOfDay 31 = .ok (.putfield 414, 3) := by decide +kernel
theorem dX8_rowOfDay_34 : decode cX8_rowOfDay 34 = .ok (.aload_n 0, 1) := by decide +kernel
theorem dX8_rowOfDay_35 : decode cX8_rowOfDay 35 = .ok (.getfield 39, 3) := by decide +kernel
theorem dX8_rowOfDay_38 : decode cX8_rowOfDay 38 = .ok (.iload_n 1, 1) := by decide +kernel
theorem dX8_rowOfDay_39 : decode cX8_rowOfDay 39 = .ok (.invokevirtual 426, 3) := by decide +kernel
theorem dX8_rowOfDay_42 : decode cX8_rowOfDay 42 = .ok (.areturn, 1) := by decide +kernel
theorem dX8_rows_0 : decode cX8_rows 0 = .ok (.aload_n 0, 1) := by decide +kernel
theorem dX8_rows_1 : decode cX8_rows 1 = .ok (.invokevirtual 177, 3) := by decide +kernel
theorem dX8_rows_4 : decode cX8_rows 4 = .ok (.ifCond .eq 6, 3) := by decide +kernel
theorem dX8_rows_7 : decode cX8_rows 7 = .ok (.bipush (-2), 2) := by decide +kernel
theorem dX8_rows_9 : decode cX8_rows 9 = .ok (.ireturn, 1) := by decide +kernel
theorem dX8_rows_10 : decode cX8_rows 10 = .ok (.iconst 0, 1) := by decide +kernel
theorem dX8_rows_11 : decode cX8_rows 11 = .ok (.istore_n 1, 1) := by decide +kernel
theorem dX8_rows_12 : decode cX8_rows 12 = .ok (.iconst 0, 1) := by decide +kernel
theorem dX8_rows_13 : decode cX8_rows 13 = .ok (.istore_n 2, 1) := by decide +kernel
theorem dX8_rows_14 : decode cX8_rows 14 = .ok (.iload_n 2, 1) := by decide +kernel
theorem dX8_rows_15 : decode cX8_rows 15 = .ok (.aload_n 0, 1) := by decide +kernel
theorem dX8_rows_16 : decode cX8_rows 16 = .ok (.getfield 19, 3) := by decide +kernel
theorem dX8_rows_19 : decode cX8_rows 19 = .ok (.getfield 181, 3) := by decide +kernel
theorem dX8_rows_22 : decode cX8_rows 22 = .ok (.if_icmp .gt 21, 3) := by decide +kernel
theorem dX8_rows_25 : decode cX8_rows 25 = .ok (.aload_n 0, 1) := by decide +kernel
theorem dX8_rows_26 : decode cX8_rows 26 = .ok (.iload_n 2, 1) := by decide +kernel
theorem dX8_rows_27 : decode cX8_rows 27 = .ok (.invokevirtual 190, 3) := by decide +kernel
theorem dX8_rows_30 : decode cX8_rows 30 = .ok (.iload_n 2, 1) := by decide +kernel
theorem dX8_rows_31 : decode cX8_rows 31 = .ok (.if_icmp .ne 6, 3) := by decide +kernel
theorem dX8_rows_34 : decode cX8_rows 34 = .ok (.iinc 1 1, 3) := by decide +kernel
theorem dX8_rows_37 : decode cX8_rows 37 = .ok (.iinc 2 1, 3) := by decide +kernel
theorem dX8_rows_40 : decode cX8_rows 40 = .ok (.goto (-26), 3) := by decide +kernel
theorem dX8_rows_43 : decode cX8_rows 43 = .ok (.iload_n 1, 1) := by decide +kernel
theorem dX8_rows_44 : decode cX8_rows 44 = .ok (.ireturn, 1) := by decide +kernel
theorem dX8_rowsOf_0 : decode cX8_rowsOf 0 = .ok (.aload_n 0, 1) := by decide +kernel
theorem dX8_rowsOf_1 : decode cX8_rowsOf 1 = .ok (.iload_n 1, 1) := by decide +kernel
theorem dX8_rowsOf_2 : decode cX8_rowsOf 2 = .ok (.invokevirtual 239, 3) := by decide +kernel
theorem dX8_rowsOf_5 : decode cX8_rowsOf 5 = .ok (.ifCond .eq 14, 3) := by decide +kernel
theorem dX8_rowsOf_8 : decode cX8_rowsOf 8 = .ok (.aload_n 0, 1) := by decide +kernel
theorem dX8_rowsOf_9 : decode cX8_rowsOf 9 = .ok (.iload_n 1, 1) := by decide +kernel
theorem dX8_rowsOf_10 : decode cX8_rowsOf 10 = .ok (.invokevirtual 242, 3) := by decide +kernel
theorem dX8_rowsOf_13 : decode cX8_rowsOf 13 = .ok (.getfield 246, 3) := by decide +kernel
theorem dX8_rowsOf_16 : decode cX8_rowsOf 16 = .ok (.goto 5, 3) := by decide +kernel
theorem dX8_rowsOf_19 : decode cX8_rowsOf 19 = .ok (.bipush (-2), 2) := by decide +kernel
theorem dX8_rowsOf_21 : decode cX8_rowsOf 21 = .ok (.ireturn, 1) := by decide +kernel
theorem dX8_same_0 : decode cX8_same 0 = .ok (.aload_n 0, 1) := by decide +kernel
theorem dX8_same_1 : decode cX8_same 1 = .ok (.iload_n 1, 1) := by decide +kernel
theorem dX8_same_2 : decode cX8_same 2 = .ok (.invokevirtual 132, 3) := by decide +kernel
theorem dX8_same_5 : decode cX8_same 5 = .ok (.ifCond .eq 11, 3) := by decide +kernel
theorem dX8_same_8 : decode cX8_same 8 = .ok (.aload_n 0, 1) := by decide +kernel
theorem dX8_same_9 : decode cX8_same 9 = .ok (.iload_n 1, 1) := by decide +kernel
theorem dX8_same_10 : decode cX8_same 10 = .ok (.invokevirtual 190, 3) := by decide +kernel
theorem dX8_same_13 : decode cX8_same 13 = .ok (.goto 5, 3) := by decide +kernel
theorem dX8_same_16 : decode cX8_same 16 = .ok (.bipush (-2), 2) := by decide +kernel
theorem dX8_same_18 : decode cX8_same 18 = .ok (.ireturn, 1) := by decide +kernel
theorem dX8_seenFault_0 : decode cX8_seenFault 0 = .ok (.iload_n 1, 1) := by decide +kernel
theorem dX8_seenFault_1 : decode cX8_seenFault 1 = .ok (.invokestatic 382, 3) := by decide +kernel
theorem dX8_seenFault_4 : decode cX8_seenFault 4 = .ok (.ifCond .eq 7, 3) := by decide +kernel
theorem dX8_seenFault_7 : decode cX8_seenFault 7 = .ok (.iload_n 2, 1) := by decide +kernel
theorem dX8_seenFault_8 : decode cX8_seenFault 8 = .ok (.ifCond .ne 6, 3) := by decide +kernel
theorem dX8_seenFault_11 : decode cX8_seenFault 11 = .ok (.bipush (-2), 2) := by decide +kernel
theorem dX8_seenFault_13 : decode cX8_seenFault 13 = .ok (.ireturn, 1) := by decide +kernel
theorem dX8_seenFault_14 : decode cX8_seenFault 14 = .ok (.aload_n 0, 1) := by decide +kernel
theorem dX8_seenFault_15 : decode cX8_seenFault 15 = .ok (.getfield 32, 3) := by decide +kernel
theorem dX8_seenFault_18 : decode cX8_seenFault 18 = .ok (.iload_n 1, 1) := by decide +kernel
theorem dX8_seenFault_19 : decode cX8_seenFault 19 = .ok (.aaload, 1) := by decide +kernel
theorem dX8_seenFault_20 : decode cX8_seenFault 20 = .ok (.getfield 389, 3) := by decide +kernel
theorem dX8_seenFault_23 : decode cX8_seenFault 23 = .ok (.ifCond .ne 6, 3) := by decide +kernel
theorem dX8_seenFault_26 : decode cX8_seenFault 26 = .ok (.bipush (-6), 2) := by decide +kernel
theorem dX8_seenFault_28 : decode cX8_seenFault 28 = .ok (.ireturn, 1) := by decide +kernel
theorem dX8_seenFault_29 : decode cX8_seenFault 29 = .ok (.aload_n 0, 1) := by decide +kernel
theorem dX8_seenFault_30 : decode cX8_seenFault 30 = .ok (.getfield 32, 3) := by decide +kernel
theorem dX8_seenFault_33 : decode cX8_seenFault 33 = .ok (.iload_n 1, 1) := by decide +kernel
theorem dX8_seenFault_34 : decode cX8_seenFault 34 = .ok (.aaload, 1) := by decide +kernel
theorem dX8_seenFault_35 : decode cX8_seenFault 35 = .ok (.aload_n 0, 1) := by decide +kernel
theorem dX8_seenFault_36 : decode cX8_seenFault 36 = .ok (.getfield 19, 3) := by decide +kernel
theorem dX8_seenFault_39 : decode cX8_seenFault 39 = .ok (.getfield 181, 3) := by decide +kernel
theorem dX8_seenFault_42 : decode cX8_seenFault 42 = .ok (.invokevirtual 504, 3) := by decide +kernel
theorem dX8_seenFault_45 : decode cX8_seenFault 45 = .ok (.ifCond .eq 7, 3) := by decide +kernel
theorem dX8_seenFault_48 : decode cX8_seenFault 48 = .ok (.iconst 0, 1) := by decide +kernel
theorem dX8_seenFault_49 : decode cX8_seenFault 49 = .ok (.goto 5, 3) := by decide +kernel
theorem dX8_seenFault_52 : decode cX8_seenFault 52 = .ok (.bipush (-2), 2) := by decide +kernel
theorem dX8_seenFault_54 : decode cX8_seenFault 54 = .ok (.ireturn, 1) := by decide +kernel
theorem dX8_share_0 : decode cX8_share 0 = .ok (.aload_n 0, 1) := by decide +kernel
theorem dX8_share_1 : decode cX8_share 1 = .ok (.iload_n 1, 1) := by decide +kernel
theorem dX8_share_2 : decode cX8_share 2 = .ok (.invokevirtual 120, 3) := by decide +kernel
theorem dX8_share_5 : decode cX8_share 5 = .ok (.ifCond .eq 10, 3) := by decide +kernel
theorem dX8_share_8 : decode cX8_share 8 = .ok (.iload_n 2, 1) := by decide +kernel
theorem dX8_share_9 : decode cX8_share 9 = .ok (.invokestatic 123, 3) := by decide +kernel
theorem dX8_share_12 : decode cX8_share 12 = .ok (.ifCond .ne 7, 3) := by decide +kernel
theorem dX8_share_15 : decode cX8_share 15 = .ok (.sipush (-1000), 3) := by decide +kernel
theorem dX8_share_18 : decode cX8_share 18 = .ok (.ireturn, 1) := by decide +kernel
theorem dX8_share_19 : decode cX8_share 19 = .ok (.aload_n 0, 1) := by decide +kernel
theorem dX8_share_20 : decode cX8_share 20 = .ok (.invokevirtual 310, 3) := by decide +kernel
theorem dX8_share_23 : decode cX8_share 23 = .ok (.aload_n 0, 1) := by decide +kernel
theorem dX8_share_24 : decode cX8_share 24 = .ok (.iload_n 1, 1) := by decide +kernel
theorem dX8_share_25 : decode cX8_share 25 = .ok (.invokevirtual 313, 3) := by decide +kernel
theorem dX8_share_28 : decode cX8_share 28 = .ok (.i2l, 1) := by decide +kernel
theorem dX8_share_29 : decode cX8_share 29 = .ok (.aload_n 0, 1) := by decide +kernel
theorem dX8_share_30 : decode cX8_share 30 = .ok (.getfield 19, 3) := by decide +kernel
theorem dX8_share_33 : decode cX8_share 33 = .ok (.getfield 278, 3) := by decide +kernel
theorem dX8_share_36 : decode cX8_share 36 = .ok (.invokestatic 316, 3) := by decide +kernel
theorem dX8_share_39 : decode cX8_share 39 = .ok (.i2l, 1) := by decide +kernel
theorem dX8_share_40 : decode cX8_share 40 = .ok (.iload_n 2, 1) := by decide +kernel
theorem dX8_share_41 : decode cX8_share 41 = .ok (.invokestatic 319, 3) := by decide +kernel
theorem dX8_share_44 : decode cX8_share 44 = .ok (.l2i, 1) := by decide +kernel
theorem dX8_share_45 : decode cX8_share 45 = .ok (.ireturn, 1) := by decide +kernel
theorem dX8_slotsWithRow_0 : decode cX8_slotsWithRow 0 = .ok (.iconst 0, 1) := by decide +kernel
theorem dX8_slotsWithRow_1 : decode cX8_slotsWithRow 1 = .ok (.istore_n 1, 1) := by decide +kernel
theorem dX8_slotsWithRow_2 : decode cX8_slotsWithRow 2 = .ok (.iconst 0, 1) := by decide +kernel
theorem dX8_slotsWithRow_3 : decode cX8_slotsWithRow 3 = .ok (.istore_n 2, 1) := by decide +kernel
theorem dX8_slotsWithRow_4 : decode cX8_slotsWithRow 4 = .ok (.iload_n 2, 1) := by decide +kernel
theorem dX8_slotsWithRow_5 : decode cX8_slotsWithRow 5 = .ok (.iconst 4, 1) := by decide +kernel
theorem dX8_slotsWithRow_6 : decode cX8_slotsWithRow 6 = .ok (.if_icmp .ge 24, 3) := by decide +kernel
theorem dX8_slotsWithRow_9 : decode cX8_slotsWithRow 9 = .ok (.iload_n 1, 1) := by decide +kernel
theorem dX8_slotsWithRow_10 : decode cX8_slotsWithRow 10 = .ok (.aload_n 0, 1) := by decide +kernel
theorem dX8_slotsWithRow_11 : decode cX8_slotsWithRow 11 = .ok (.getfield 32, 3) := by decide +kernel
theorem dX8_slotsWithRow_14 : decode cX8_slotsWithRow 14 = .ok (.iload_n 2, 1) := by decide +kernel
theorem dX8_slotsWithRow_15 : decode cX8_slotsWithRow 15 = .ok (.aaload, 1) := by decide +kernel
theorem dX8_slotsWithRow_16 : decode cX8_slotsWithRow 16 = .ok (.getfield 389, 3) := by decide +kernel
theorem dX8_slotsWithRow_19 : decode cX8_slotsWithRow 19 = .ok (.invokestatic 200, 3) := by decide +kernel
theorem dX8_slotsWithRow_22 : decode cX8_slotsWithRow 22 = .ok (.iadd, 1) := by decide +kernel
theorem dX8_slotsWithRow_23 : decode cX8_slotsWithRow 23 = .ok (.istore_n 1, 1) := by decide +kernel
theorem dX8_slotsWithRow_24 : decode cX8_slotsWithRow 24 = .ok (.iinc 2 1, 3) := by decide +kernel
theorem dX8_slotsWithRow_27 : decode cX8_slotsWithRow 27 = .ok (.goto (-23), 3) := by decide +kernel
theorem dX8_slotsWithRow_30 : decode cX8_slotsWithRow 30 = .ok (.iload_n 1, 1) := by decide +kernel
theorem dX8_slotsWithRow_31 : decode cX8_slotsWithRow 31 = .ok (.ireturn, 1) := by decide +kernel
theorem dX8_smallRowFault_0 : decode cX8_smallRowFault 0 = .ok (.iload_n 1, 1) := by decide +kernel
theorem dX8_smallRowFault_1 : decode cX8_smallRowFault 1 = .ok (.invokestatic 382, 3) := by decide +kernel
theorem dX8_smallRowFault_4 : decode cX8_smallRowFault 4 = .ok (.ifCond .eq 10, 3) := by decide +kernel
theorem dX8_smallRowFault_7 : decode cX8_smallRowFault 7 = .ok (.aload_n 0, 1) := by decide +kernel
theorem dX8_smallRowFault_8 : decode cX8_smallRowFault 8 = .ok (.invokevirtual 177, 3) := by decide +kernel
theorem dX8_smallRowFault_11 : decode cX8_smallRowFault 11 = .ok (.ifCond .eq 6, 3) := by decide +kernel
theorem dX8_smallRowFault_14 : decode cX8_smallRowFault 14 = .ok (.bipush (-2), 2) := by decide +kernel
theorem dX8_smallRowFault_16 : decode cX8_smallRowFault 16 = .ok (.ireturn, 1) := by decide +kernel
theorem dX8_smallRowFault_17 : decode cX8_smallRowFault 17 = .ok (.aload_n 0, 1) := by decide +kernel
theorem dX8_smallRowFault_18 : decode cX8_smallRowFault 18 = .ok (.getfield 32, 3) := by decide +kernel
theorem dX8_smallRowFault_21 : decode cX8_smallRowFault 21 = .ok (.iload_n 1, 1) := by decide +kernel
theorem dX8_smallRowFault_22 : decode cX8_smallRowFault 22 = .ok (.aaload, 1) := by decide +kernel
theorem dX8_smallRowFault_23 : decode cX8_smallRowFault 23 = .ok (.getfield 389, 3) := by decide +kernel
theorem dX8_smallRowFault_26 : decode cX8_smallRowFault 26 = .ok (.ifCond .ne 6, 3) := by decide +kernel
theorem dX8_smallRowFault_29 : decode cX8_smallRowFault 29 = .ok (.bipush (-6), 2) := by decide +kernel
theorem dX8_smallRowFault_31 : decode cX8_smallRowFault 31 = .ok (.ireturn, 1) := by decide +kernel
theorem dX8_smallRowFault_32 : decode cX8_smallRowFault 32 = .ok (.aload_n 0, 1) := by decide +kernel
theorem dX8_smallRowFault_33 : decode cX8_smallRowFault 33 = .ok (.getfield 32, 3) := by decide +kernel
theorem dX8_smallRowFault_36 : decode cX8_smallRowFault 36 = .ok (.iload_n 1, 1) := by decide +kernel
theorem dX8_smallRowFault_37 : decode cX8_smallRowFault 37 = .ok (.aaload, 1) := by decide +kernel
theorem dX8_smallRowFault_38 : decode cX8_smallRowFault 38 = .ok (.aload_n 0, 1) := by decide +kernel
theorem dX8_smallRowFault_39 : decode cX8_smallRowFault 39 = .ok (.getfield 70, 3) := by decide +kernel
theorem dX8_smallRowFault_42 : decode cX8_smallRowFault 42 = .ok (.invokevirtual 501, 3) := by decide +kernel
theorem dX8_smallRowFault_45 : decode cX8_smallRowFault 45 = .ok (.ifCond .eq 7, 3) := by decide +kernel
theorem dX8_smallRowFault_48 : decode cX8_smallRowFault 48 = .ok (.iconst 0, 1) := by decide +kernel
theorem dX8_smallRowFault_49 : decode cX8_smallRowFault 49 = .ok (.goto 5, 3) := by decide +kernel
theorem dX8_smallRowFault_52 : decode cX8_smallRowFault 52 = .ok (.bipush (-2), 2) := by decide +kernel
theorem dX8_smallRowFault_54 : decode cX8_smallRowFault 54 = .ok (.ireturn, 1) := by decide +kernel
theorem dX8_soon_0 : decode cX8_soon 0 = .ok (.aload_n 0, 1) := by decide +kernel
theorem dX8_soon_1 : decode cX8_soon 1 = .ok (.iload_n 1, 1) := by decide +kernel
theorem dX8_soon_2 : decode cX8_soon 2 = .ok (.invokevirtual 132, 3) := by decide +kernel
theorem dX8_soon_5 : decode cX8_soon 5 = .ok (.ifCond .eq 14, 3) := by decide +kernel
theorem dX8_soon_8 : decode cX8_soon 8 = .ok (.aload_n 0, 1) := by decide +kernel
theorem dX8_soon_9 : decode cX8_soon 9 = .ok (.iload_n 1, 1) := by decide +kernel
theorem dX8_soon_10 : decode cX8_soon 10 = .ok (.invokevirtual 217, 3) := by decide +kernel
theorem dX8_soon_13 : decode cX8_soon 13 = .ok (.getfield 236, 3) := by decide +kernel
theorem dX8_soon_16 : decode cX8_soon 16 = .ok (.goto 5, 3) := by decide +kernel
theorem dX8_soon_19 : decode cX8_soon 19 = .ok (.bipush (-2), 2) := by decide +kernel
theorem dX8_soon_21 : decode cX8_soon 21 = .ok (.ireturn, 1) := by decide +kernel
theorem dX8_sorts_0 : decode cX8_sorts 0 = .ok (.aload_n 0, 1) := by decide +kernel
theorem dX8_sorts_1 : decode cX8_sorts 1 = .ok (.iload_n 1, 1) := by decide +kernel
theorem dX8_sorts_2 : decode cX8_sorts 2 = .ok (.invokevirtual 132, 3) := by decide +kernel
theorem dX8_sorts_5 : decode cX8_sorts 5 = .ok (.ifCond .eq 14, 3) := by decide +kernel
theorem dX8_sorts_8 : decode cX8_sorts 8 = .ok (.aload_n 0, 1) := by decide +kernel
theorem dX8_sorts_9 : decode cX8_sorts 9 = .ok (.iload_n 1, 1) := by decide +kernel
theorem dX8_sorts_10 : decode cX8_sorts 10 = .ok (.invokevirtual 135, 3) := by decide +kernel
theorem dX8_sorts_13 : decode cX8_sorts 13 = .ok (.getfield 152, 3) := by decide +kernel
theorem dX8_sorts_16 : decode cX8_sorts 16 = .ok (.goto 5, 3) := by decide +kernel
theorem dX8_sorts_19 : decode cX8_sorts 19 = .ok (.bipush (-2), 2) := by decide +kernel
theorem dX8_sorts_21 : decode cX8_sorts 21 = .ok (.ireturn, 1) := by decide +kernel
theorem dX8_spare_0 : decode cX8_spare 0 = .ok (.aload_n 0, 1) := by decide +kernel
theorem dX8_spare_1 : decode cX8_spare 1 = .ok (.invokevirtual 177, 3) := by decide +kernel
theorem dX8_spare_4 : decode cX8_spare 4 = .ok (.ifCond .eq 6, 3) := by decide +kernel
theorem dX8_spare_7 : decode cX8_spare 7 = .ok (.bipush (-2), 2) := by decide +kernel
theorem dX8_spare_9 : decode cX8_spare 9 = .ok (.ireturn, 1) := by decide +kernel
theorem dX8_spare_10 : decode cX8_spare 10 = .ok (.iconst (-1), 1) := by decide +kernel
theorem dX8_spare_11 : decode cX8_spare 11 = .ok (.istore_n 1, 1) := by decide +kernel
theorem dX8_spare_12 : decode cX8_spare 12 = .ok (.aload_n 0, 1) := by decide +kernel
theorem dX8_spare_13 : decode cX8_spare 13 = .ok (.invokevirtual 272, 3) := by decide +kernel
theorem dX8_spare_16 : decode cX8_spare 16 = .ok (.istore_n 2, 1) := by decide +kernel
theorem dX8_spare_17 : decode cX8_spare 17 = .ok (.iconst 0, 1) := by decide +kernel
theorem dX8_spare_18 : decode cX8_spare 18 = .ok (.istore_n 3, 1) := by decide +kernel
theorem dX8_spare_19 : decode cX8_spare 19 = .ok (.iload_n 3, 1) := by decide +kernel
theorem dX8_spare_20 : decode cX8_spare 20 = .ok (.aload_n 0, 1) := by decide +kernel
theorem dX8_spare_21 : decode cX8_spare 21 = .ok (.getfield 19, 3) := by decide +kernel
theorem dX8_spare_24 : decode cX8_spare 24 = .ok (.getfield 278, 3) := by decide +kernel
theorem dX8_spare_27 : decode cX8_spare 27 = .ok (.if_icmp .ge 34, 3) := by decide +kernel
theorem dX8_spare_30 : decode cX8_spare 30 = .ok (.aload_n 0, 1) := by decide +kernel
theorem dX8_spare_31 : decode cX8_spare 31 = .ok (.bipush 63, 2) := by decide +kernel
theorem dX8_spare_33 : decode cX8_spare 33 = .ok (.iconst 1, 1) := by decide +kernel
theorem dX8_spare_34 : decode cX8_spare 34 = .ok (.iload_n 3, 1) := by decide +kernel
theorem dX8_spare_35 : decode cX8_spare 35 = .ok (.ishl, 1) := by decide +kernel
theorem dX8_spare_36 : decode cX8_spare 36 = .ok (.iconst (-1), 1) := by decide +kernel
theorem dX8_spare_37 : decode cX8_spare 37 = .ok (.ixor, 1) := by decide +kernel
theorem dX8_spare_38 : decode cX8_spare 38 = .ok (.iand, 1) := by decide +kernel
theorem dX8_spare_39 : decode cX8_spare 39 = .ok (.invokevirtual 281, 3) := by decide +kernel
theorem dX8_spare_42 : decode cX8_spare 42 = .ok (.istore 4, 2) := by decide +kernel
theorem dX8_spare_44 : decode cX8_spare 44 = .ok (.iload 4, 2) := by decide +kernel
theorem dX8_spare_46 : decode cX8_spare 46 = .ok (.iload_n 2, 1) := by decide +kernel
theorem dX8_spare_47 : decode cX8_spare 47 = .ok (.if_icmp .le 8, 3) := by decide +kernel
theorem dX8_spare_50 : decode cX8_spare 50 = .ok (.iload_n 3, 1) := by decide +kernel
theorem dX8_spare_51 : decode cX8_spare 51 = .ok (.istore_n 1, 1) := by decide +kernel
theorem dX8_spare_52 : decode cX8_spare 52 = .ok (.iload 4, 2) := by decide +kernel
theorem dX8_spare_54 : decode cX8_spare 54 = .ok (.istore_n 2, 1) := by decide +kernel
theorem dX8_spare_55 : decode cX8_spare 55 = .ok (.iinc 3 1, 3) := by decide +kernel
theorem dX8_spare_58 : decode cX8_spare 58 = .ok (.goto (-39), 3) := by decide +kernel
theorem dX8_spare_61 : decode cX8_spare 61 = .ok (.iload_n 1, 1) := by decide +kernel
theorem dX8_spare_62 : decode cX8_spare 62 = .ok (.ireturn, 1) := by decide +kernel
theorem dX8_spread_0 : decode cX8_spread 0 = .ok (.aload_n 0, 1) := by decide +kernel
theorem dX8_spread_1 : decode cX8_spread 1 = .ok (.iload_n 1, 1) := by decide +kernel
theorem dX8_spread_2 : decode cX8_spread 2 = .ok (.invokevirtual 132, 3) := by decide +kernel
theorem dX8_spread_5 : decode cX8_spread 5 = .ok (.ifCond .eq 23, 3) := by decide +kernel
theorem dX8_spread_8 : decode cX8_spread 8 = .ok (.aload_n 0, 1) := by decide +kernel
theorem dX8_spread_9 : decode cX8_spread 9 = .ok (.iload_n 1, 1) := by decide +kernel
theorem dX8_spread_10 : decode cX8_spread 10 = .ok (.invokevirtual 135, 3) := by decide +kernel
theorem dX8_spread_13 : decode cX8_spread 13 = .ok (.invokevirtual 155, 3) := by decide +kernel
theorem dX8_spread_16 : decode cX8_spread 16 = .ok (.aload_n 0, 1) := by decide +kernel
theorem dX8_spread_17 : decode cX8_spread 17 = .ok (.iload_n 1, 1) := by decide +kernel
theorem dX8_spread_18 : decode cX8_spread 18 = .ok (.invokevirtual 135, 3) := by decide +kernel
theorem dX8_spread_21 : decode cX8_spread 21 = .ok (.invokevirtual 159, 3) := by decide +kernel
theorem dX8_spread_24 : decode cX8_spread 24 = .ok (.isub, 1) := by decide +kernel
theorem dX8_spread_25 : decode cX8_spread 25 = .ok (.goto 5, 3) := by decide +kernel
theorem dX8_spread_28 : decode cX8_spread 28 = .ok (.bipush (-2), 2) := by decide +kernel
theorem dX8_spread_30 : decode cX8_spread 30 = .ok (.ireturn, 1) := by decide +kernel
theorem dX8_square_0 : decode cX8_square 0 = .ok (.aload_n 0, 1) := by decide +kernel
theorem dX8_square_1 : decode cX8_square 1 = .ok (.iload_n 1, 1) := by decide +kernel
theorem dX8_square_2 : decode cX8_square 2 = .ok (.invokevirtual 132, 3) := by decide +kernel
theorem dX8_square_5 : decode cX8_square 5 = .ok (.ifCond .eq 14, 3) := by decide +kernel
theorem dX8_square_8 : decode cX8_square 8 = .ok (.aload_n 0, 1) := by decide +kernel
theorem dX8_square_9 : decode cX8_square 9 = .ok (.iload_n 1, 1) := by decide +kernel
theorem dX8_square_10 : decode cX8_square 10 = .ok (.invokevirtual 135, 3) := by decide +kernel
theorem dX8_square_13 : decode cX8_square 13 = .ok (.invokevirtual 204, 3) := by decide +kernel
theorem dX8_square_16 : decode cX8_square 16 = .ok (.goto 5, 3) := by decide +kernel
theorem dX8_square_19 : decode cX8_square 19 = .ok (.bipush (-2), 2) := by decide +kernel
theorem dX8_square_21 : decode cX8_square 21 = .ok (.ireturn, 1) := by decide +kernel
theorem dX8_stair_0 : decode cX8_stair 0 = .ok (.aload_n 0, 1) := by decide +kernel
theorem dX8_stair_1 : decode cX8_stair 1 = .ok (.iload_n 1, 1) := by decide +kernel
theorem dX8_stair_2 : decode cX8_stair 2 = .ok (.invokevirtual 132, 3) := by decide +kernel
theorem dX8_stair_5 : decode cX8_stair 5 = .ok (.ifCond .eq 17, 3) := by decide +kernel
theorem dX8_stair_8 : decode cX8_stair 8 = .ok (.aload_n 0, 1) := by decide +kernel
theorem dX8_stair_9 : decode cX8_stair 9 = .ok (.iload_n 1, 1) := by decide +kernel
theorem dX8_stair_10 : decode cX8_stair 10 = .ok (.invokevirtual 135, 3) := by decide +kernel
theorem dX8_stair_13 : decode cX8_stair 13 = .ok (.invokevirtual 197, 3) := by decide +kernel
theorem dX8_stair_16 : decode cX8_stair 16 = .ok (.invokestatic 200, 3) := by decide +kernel
theorem dX8_stair_19 : decode cX8_stair 19 = .ok (.goto 5, 3) := by decide +kernel
theorem dX8_stair_22 : decode cX8_stair 22 = .ok (.bipush (-2), 2) := by decide +kernel
theorem dX8_stair_24 : decode cX8_stair 24 = .ok (.ireturn, 1) := by decide +kernel
theorem dX8_stairs_0 : decode cX8_stairs 0 = .ok (.aload_n 0, 1) := by decide +kernel
theorem dX8_stairs_1 : decode cX8_stairs 1 = .ok (.invokevirtual 177, 3) := by decide +kernel
theorem dX8_stairs_4 : decode cX8_stairs 4 = .ok (.ifCond .eq 6, 3) := by decide +kernel
theorem dX8_stairs_7 : decode cX8_stairs 7 = .ok (.bipush (-2), 2) := by decide +kernel
theorem dX8_stairs_9 : decode cX8_stairs 9 = .ok (.ireturn, 1) := by decide +kernel
theorem dX8_stairs_10 : decode cX8_stairs 10 = .ok (.iconst 0, 1) := by decide +kernel
theorem dX8_stairs_11 : decode cX8_stairs 11 = .ok (.istore_n 1, 1) := by decide +kernel
theorem dX8_stairs_12 : decode cX8_stairs 12 = .ok (.iload_n 1, 1) := by decide +kernel
theorem dX8_stairs_13 : decode cX8_stairs 13 = .ok (.aload_n 0, 1) := by decide +kernel
theorem dX8_stairs_14 : decode cX8_stairs 14 = .ok (.getfield 19, 3) := by decide +kernel
theorem dX8_stairs_17 : decode cX8_stairs 17 = .ok (.getfield 181, 3) := by decide +kernel
theorem dX8_stairs_20 : decode cX8_stairs 20 = .ok (.if_icmp .gt 22, 3) := by decide +kernel
theorem dX8_stairs_23 : decode cX8_stairs 23 = .ok (.aload_n 0, 1) := by decide +kernel
theorem dX8_stairs_24 : decode cX8_stairs 24 = .ok (.iload_n 1, 1) := by decide +kernel
theorem dX8_stairs_25 : decode cX8_stairs 25 = .ok (.invokevirtual 135, 3) := by decide +kernel
theorem dX8_stairs_28 : decode cX8_stairs 28 = .ok (.invokevirtual 197, 3) := by decide +kernel
theorem dX8_stairs_31 : decode cX8_stairs 31 = .ok (.ifCond .eq 5, 3) := by decide +kernel
theorem dX8_stairs_34 : decode cX8_stairs 34 = .ok (.iload_n 1, 1) := by decide +kernel
theorem dX8_stairs_35 : decode cX8_stairs 35 = .ok (.ireturn, 1) := by decide +kernel
theorem dX8_stairs_36 : decode cX8_stairs 36 = .ok (.iinc 1 1, 3) := by decide +kernel
theorem dX8_stairs_39 : decode cX8_stairs 39 = .ok (.goto (-27), 3) := by decide +kernel
theorem dX8_stairs_42 : decode cX8_stairs 42 = .ok (.iconst (-1), 1) := by decide +kernel
theorem dX8_stairs_43 : decode cX8_stairs 43 = .ok (.ireturn, 1) := by decide +kernel
theorem dX8_still_0 : decode cX8_still 0 = .ok (.aload_n 0, 1) := by decide +kernel
theorem dX8_still_1 : decode cX8_still 1 = .ok (.invokevirtual 177, 3) := by decide +kernel
theorem dX8_still_4 : decode cX8_still 4 = .ok (.ifCond .eq 6, 3) := by decide +kernel
theorem dX8_still_7 : decode cX8_still 7 = .ok (.bipush (-2), 2) := by decide +kernel
theorem dX8_still_9 : decode cX8_still 9 = .ok (.ireturn, 1) := by decide +kernel
theorem dX8_still_10 : decode cX8_still 10 = .ok (.aload_n 0, 1) := by decide +kernel
theorem dX8_still_11 : decode cX8_still 11 = .ok (.getfield 19, 3) := by decide +kernel
theorem dX8_still_14 : decode cX8_still 14 = .ok (.getfield 181, 3) := by decide +kernel
theorem dX8_still_17 : decode cX8_still 17 = .ok (.istore_n 1, 1) := by decide +kernel
theorem dX8_still_18 : decode cX8_still 18 = .ok (.iload_n 1, 1) := by decide +kernel
theorem dX8_still_19 : decode cX8_still 19 = .ok (.ifCond .le 33, 3) := by decide +kernel
theorem dX8_still_22 : decode cX8_still 22 = .ok (.aload_n 0, 1) := by decide +kernel
theorem dX8_still_23 : decode cX8_still 23 = .ok (.iload_n 1, 1) := by decide +kernel
theorem dX8_still_24 : decode cX8_still 24 = .ok (.iconst 1, 1) := by decide +kernel
theorem dX8_still_25 : decode cX8_still 25 = .ok (.isub, 1) := by decide +kernel
theorem dX8_still_26 : decode cX8_still 26 = .ok (.invokevirtual 135, 3) := by decide +kernel
theorem dX8_still_29 : decode cX8_still 29 = .ok (.aload_n 0, 1) := by decide +kernel
theorem dX8_still_30 : decode cX8_still 30 = .ok (.aload_n 0, 1) := by decide +kernel
theorem dX8_still_31 : decode cX8_still 31 = .ok (.getfield 19, 3) := by decide +kernel
theorem dX8_still_34 : decode cX8_still 34 = .ok (.getfield 181, 3) := by decide +kernel
theorem dX8_still_37 : decode cX8_still 37 = .ok (.invokevirtual 135, 3) := by decide +kernel
theorem dX8_still_40 : decode cX8_still 40 = .ok (.invokevirtual 193, 3) := by decide +kernel
theorem dX8_still_43 : decode cX8_still 43 = .ok (.ifCond .eq 9, 3) := by decide +kernel
theorem dX8_still_46 : decode cX8_still 46 = .ok (.iinc 1 (-1), 3) := by decide +kernel
theorem dX8_still_49 : decode cX8_still 49 = .ok (.goto (-31), 3) := by decide +kernel
theorem dX8_still_52 : decode cX8_still 52 = .ok (.iload_n 1, 1) := by decide +kernel
theorem dX8_still_53 : decode cX8_still 53 = .ok (.ireturn, 1) := by decide +kernel
theorem dX8_tail_0 : decode cX8_tail 0 = .ok (.aload_n 0, 1) := by decide +kernel
theorem dX8_tail_1 : decode cX8_tail 1 = .ok (.iload_n 1, 1) := by decide +kernel
theorem dX8_tail_2 : decode cX8_tail 2 = .ok (.invokevirtual 132, 3) := by decide +kernel
theorem dX8_tail_5 : decode cX8_tail 5 = .ok (.ifCond .eq 14, 3) := by decide +kernel
theorem dX8_tail_8 : decode cX8_tail 8 = .ok (.aload_n 0, 1) := by decide +kernel
theorem dX8_tail_9 : decode cX8_tail 9 = .ok (.iload_n 1, 1) := by decide +kernel
theorem dX8_tail_10 : decode cX8_tail 10 = .ok (.invokevirtual 217, 3) := by decide +kernel
theorem dX8_tail_13 : decode cX8_tail 13 = .ok (.getfield 221, 3) := by decide +kernel
theorem dX8_tail_16 : decode cX8_tail 16 = .ok (.goto 5, 3) := by decide +kernel
theorem dX8_tail_19 : decode cX8_tail 19 = .ok (.bipush (-2), 2) := by decide +kernel
theorem dX8_tail_21 : decode cX8_tail 21 = .ok (.ireturn, 1) := by decide +kernel
theorem dX8_taken_0 : decode cX8_taken 0 = .ok (.aload_n 0, 1) := by decide +kernel
theorem dX8_taken_1 : decode cX8_taken 1 = .ok (.iload_n 1, 1) := by decide +kernel
theorem dX8_taken_2 : decode cX8_taken 2 = .ok (.invokevirtual 165, 3) := by decide +kernel
theorem dX8_taken_5 : decode cX8_taken 5 = .ok (.ifCond .eq 21, 3) := by decide +kernel
theorem dX8_taken_8 : decode cX8_taken 8 = .ok (.aload_n 0, 1) := by decide +kernel
theorem dX8_taken_9 : decode cX8_taken 9 = .ok (.iload_n 1, 1) := by decide +kernel
theorem dX8_taken_10 : decode cX8_taken 10 = .ok (.invokevirtual 135, 3) := by decide +kernel
theorem dX8_taken_13 : decode cX8_taken 13 = .ok (.aload_n 0, 1) := by decide +kernel
theorem dX8_taken_14 : decode cX8_taken 14 = .ok (.getfield 19, 3) := by decide +kernel
theorem dX8_taken_17 : decode cX8_taken 17 = .ok (.getfield 168, 3) := by decide +kernel
theorem dX8_taken_20 : decode cX8_taken 20 = .ok (.invokevirtual 171, 3) := by decide +kernel
theorem dX8_taken_23 : decode cX8_taken 23 = .ok (.goto 5, 3) := by decide +kernel
theorem dX8_taken_26 : decode cX8_taken 26 = .ok (.bipush (-2), 2) := by decide +kernel
theorem dX8_taken_28 : decode cX8_taken 28 = .ok (.ireturn, 1) := by decide +kernel
theorem dX8_told_0 : decode cX8_told 0 = .ok (.aload_n 0, 1) := by decide +kernel
theorem dX8_told_1 : decode cX8_told 1 = .ok (.iload_n 1, 1) := by decide +kernel
theorem dX8_told_2 : decode cX8_told 2 = .ok (.invokevirtual 113, 3) := by decide +kernel
theorem dX8_told_5 : decode cX8_told 5 = .ok (.ifCond .eq 15, 3) := by decide +kernel
theorem dX8_told_8 : decode cX8_told 8 = .ok (.aload_n 0, 1) := by decide +kernel
theorem dX8_told_9 : decode cX8_told 9 = .ok (.getfield 19, 3) := by decide +kernel
theorem dX8_told_12 : decode cX8_told 12 = .ok (.getfield 117, 3) := by decide +kernel
theorem dX8_told_15 : decode cX8_told 15 = .ok (.iload_n 1, 1) := by decide +kernel
theorem dX8_told_16 : decode cX8_told 16 = .ok (.iaload, 1) := by decide +kernel
theorem dX8_told_17 : decode cX8_told 17 = .ok (.goto 5, 3) := by decide +kernel
theorem dX8_told_20 : decode cX8_told 20 = .ok (.bipush (-2), 2) := by decide +kernel
theorem dX8_told_22 : decode cX8_told 22 = .ok (.ireturn, 1) := by decide +kernel
theorem dX8_undo_0 : decode cX8_undo 0 = .ok (.aload_n 0, 1) := by decide +kernel
theorem dX8_undo_1 : decode cX8_undo 1 = .ok (.invokevirtual 177, 3) := by decide +kernel
theorem dX8_undo_4 : decode cX8_undo 4 = .ok (.ifCond .eq 6, 3) := by decide +kernel
theorem dX8_undo_7 : decode cX8_undo 7 = .ok (.bipush (-2), 2) := by decide +kernel
theorem dX8_undo_9 : decode cX8_undo 9 = .ok (.ireturn, 1) := by decide +kernel
theorem dX8_undo_10 : decode cX8_undo 10 = .ok (.aload_n 0, 1) := by decide +kernel
theorem dX8_undo_11 : decode cX8_undo 11 = .ok (.getfield 19, 3) := by decide +kernel
theorem dX8_undo_14 : decode cX8_undo 14 = .ok (.getfield 358, 3) := by decide +kernel
theorem dX8_undo_17 : decode cX8_undo 17 = .ok (.iconst 1, 1) := by decide +kernel
theorem dX8_undo_18 : decode cX8_undo 18 = .ok (.if_icmp .ge 6, 3) := by decide +kernel
theorem dX8_undo_21 : decode cX8_undo 21 = .ok (.bipush (-5), 2) := by decide +kernel
theorem dX8_undo_23 : decode cX8_undo 23 = .ok (.ireturn, 1) := by decide +kernel
theorem dX8_undo_24 : decode cX8_undo 24 = .ok (.aload_n 0, 1) := by decide +kernel
theorem dX8_undo_25 : decode cX8_undo 25 = .ok (.getfield 19, 3) := by decide +kernel
theorem dX8_undo_28 : decode cX8_undo 28 = .ok (.dup, 1) := by decide +kernel
theorem dX8_undo_29 : decode cX8_undo 29 = .ok (.getfield 358, 3) := by decide +kernel
theorem dX8_undo_32 : decode cX8_undo 32 = .ok (.iconst 1, 1) := by decide +kernel
theorem dX8_undo_33 : decode cX8_undo 33 = .ok (.isub, 1) := by decide +kernel
theorem dX8_undo_34 : decode cX8_undo 34 = .ok (.putfield 358, 3) := by decide +kernel
theorem dX8_undo_37 : decode cX8_undo 37 = .ok (.aload_n 0, 1) := by decide +kernel
theorem dX8_undo_38 : decode cX8_undo 38 = .ok (.invokevirtual 101, 3) := by decide +kernel
theorem dX8_undo_41 : decode cX8_undo 41 = .ok (.aload_n 0, 1) := by decide +kernel
theorem dX8_undo_42 : decode cX8_undo 42 = .ok (.getfield 19, 3) := by decide +kernel
theorem dX8_undo_45 : decode cX8_undo 45 = .ok (.getfield 358, 3) := by decide +kernel
theorem dX8_undo_48 : decode cX8_undo 48 = .ok (.ireturn, 1) := by decide +kernel
theorem dX8_way_0 : decode cX8_way 0 = .ok (.aload_n 0, 1) := by decide +kernel
theorem dX8_way_1 : decode cX8_way 1 = .ok (.iload_n 1, 1) := by decide +kernel
theorem dX8_way_2 : decode cX8_way 2 = .ok (.invokevirtual 259, 3) := by decide +kernel
theorem dX8_way_5 : decode cX8_way 5 = .ok (.istore_n 2, 1) := by decide +kernel
theorem dX8_way_6 : decode cX8_way 6 = .ok (.iload_n 2, 1) := by decide +kernel
theorem dX8_way_7 : decode cX8_way 7 = .ok (.ifCond .eq 5, 3) := by decide +kernel
theorem dX8_way_10 : decode cX8_way 10 = .ok (.iload_n 2, 1) := by decide +kernel
theorem dX8_way_11 : decode cX8_way 11 = .ok (.ireturn, 1) := by decide +kernel
theorem dX8_way_12 : decode cX8_way 12 = .ok (.aload_n 0, 1) := by decide +kernel
theorem dX8_way_13 : decode cX8_way 13 = .ok (.aload_n 0, 1) := by decide +kernel
theorem dX8_way_14 : decode cX8_way 14 = .ok (.getfield 70, 3) := by decide +kernel
theorem dX8_way_17 : decode cX8_way 17 = .ok (.getfield 146, 3) := by decide +kernel
theorem dX8_way_20 : decode cX8_way 20 = .ok (.invokevirtual 242, 3) := by decide +kernel
theorem dX8_way_23 : decode cX8_way 23 = .ok (.aload_n 0, 1) := by decide +kernel
theorem dX8_way_24 : decode cX8_way 24 = .ok (.getfield 70, 3) := by decide +kernel
theorem dX8_way_27 : decode cX8_way 27 = .ok (.invokevirtual 269, 3) := by decide +kernel
theorem dX8_way_30 : decode cX8_way 30 = .ok (.ireturn, 1) := by decide +kernel
theorem dX8_weighHeaps_0 : decode cX8_weighHeaps 0 = .ok (.aload_n 0, 1) := by decide +kernel
theorem dX8_weighHeaps_1 : decode cX8_weighHeaps 1 = .ok (.getfield 43, 3) := by decide +kernel
theorem dX8_weighHeaps_4 : decode cX8_weighHeaps 4 = .ok (.aload_n 0, 1) := by decide +kernel
theorem dX8_weighHeaps_5 : decode cX8_weighHeaps 5 = .ok (.getfield 19, 3) := by decide +kernel
theorem dX8_weighHeaps_8 : decode cX8_weighHeaps 8 = .ok (.invokevirtual 420, 3) := by decide +kernel
theorem dX8_weighHeaps_11 : decode cX8_weighHeaps 11 = .ok (.aload_n 0, 1) := by decide +kernel
theorem dX8_weighHeaps_12 : decode cX8_weighHeaps 12 = .ok (.getfield 43, 3) := by decide +kernel
theorem dX8_weighHeaps_15 : decode cX8_weighHeaps 15 = .ok (.aload_n 0, 1) := by decide +kernel
theorem dX8_weighHeaps_16 : decode cX8_weighHeaps 16 = .ok (.getfield 19, 3) := by decide +kernel
theorem dX8_weighHeaps_19 : decode cX8_weighHeaps 19 = .ok (.invokevirtual 471, 3) := by decide +kernel
theorem dX8_weighHeaps_22 : decode cX8_weighHeaps 22 = .ok (.lconst 0, 1) := by decide +kernel
theorem dX8_weighHeaps_23 : decode cX8_weighHeaps 23 = .ok (.lstore_n 3, 1) := by decide +kernel
theorem dX8_weighHeaps_24 : decode cX8_weighHeaps 24 = .ok (.iconst 0, 1) := by decide +kernel
theorem dX8_weighHeaps_25 : decode cX8_weighHeaps 25 = .ok (.istore 5, 2) := by decide +kernel
theorem dX8_weighHeaps_27 : decode cX8_weighHeaps 27 = .ok (.iconst 0, 1) := by decide +kernel
theorem dX8_weighHeaps_28 : decode cX8_weighHeaps 28 = .ok (.istore 6, 2) := by decide +kernel
theorem dX8_weighHeaps_30 : decode cX8_weighHeaps 30 = .ok (.iload 6, 2) := by decide +kernel
theorem dX8_weighHeaps_32 : decode cX8_weighHeaps 32 = .ok (.iconst 2, 1) := by decide +kernel
theorem dX8_weighHeaps_33 : decode cX8_weighHeaps 33 = .ok (.iload_n 1, 1) := by decide +kernel
theorem dX8_weighHeaps_34 : decode cX8_weighHeaps 34 = .ok (.ishl, 1) := by decide +kernel
theorem dX8_weighHeaps_35 : decode cX8_weighHeaps 35 = .ok (.if_icmp .ge 100, 3) := by decide +kernel
theorem dX8_weighHeaps_38 : decode cX8_weighHeaps 38 = .ok (.iload 6, 2) := by decide +kernel
theorem dX8_weighHeaps_40 : decode cX8_weighHeaps 40 = .ok (.ifCond .ne 7, 3) := by decide +kernel
theorem dX8_weighHeaps_43 : decode cX8_weighHeaps 43 = .ok (.iconst 0, 1) := by decide +kernel
theorem dX8_weighHeaps_44 : decode cX8_weighHeaps 44 = .ok (.goto 17, 3) := by decide +kernel
theorem dX8_weighHeaps_47 : decode cX8_weighHeaps 47 = .ok (.iload_n 1, 1) := by decide +kernel
theorem dX8_weighHeaps_48 : decode cX8_weighHeaps 48 = .ok (.iload 6, 2) := by decide +kernel
theorem dX8_weighHeaps_50 : decode cX8_weighHeaps 50 = .ok (.iconst 1, 1) := by decide +kernel
theorem dX8_weighHeaps_51 : decode cX8_weighHeaps 51 = .ok (.isub, 1) := by decide +kernel
theorem dX8_weighHeaps_52 : decode cX8_weighHeaps 52 = .ok (.iload 6, 2) := by decide +kernel
theorem dX8_weighHeaps_54 : decode cX8_weighHeaps 54 = .ok (.iconst (-1), 1) := by decide +kernel
theorem dX8_weighHeaps_55 : decode cX8_weighHeaps 55 = .ok (.ixor, 1) := by decide +kernel
theorem dX8_weighHeaps_56 : decode cX8_weighHeaps 56 = .ok (.iand, 1) := by decide +kernel
theorem dX8_weighHeaps_57 : decode cX8_weighHeaps 57 = .ok (.invokestatic 458, 3) := by decide +kernel
theorem dX8_weighHeaps_60 : decode cX8_weighHeaps 60 = .ok (.isub, 1) := by decide +kernel
theorem dX8_weighHeaps_61 : decode cX8_weighHeaps 61 = .ok (.istore 7, 2) := by decide +kernel
theorem dX8_weighHeaps_63 : decode cX8_weighHeaps 63 = .ok (.iload 5, 2) := by decide +kernel
theorem dX8_weighHeaps_65 : decode cX8_weighHeaps 65 = .ok (.iload 7, 2) := by decide +kernel
theorem dX8_weighHeaps_67 : decode cX8_weighHeaps 67 = .ok (.invokestatic 474, 3) := by decide +kernel
theorem dX8_weighHeaps_70 : decode cX8_weighHeaps 70 = .ok (.istore 5, 2) := by decide +kernel
theorem dX8_weighHeaps_72 : decode cX8_weighHeaps 72 = .ok (.aload_n 0, 1) := by decide +kernel
theorem dX8_weighHeaps_73 : decode cX8_weighHeaps 73 = .ok (.iload 6, 2) := by decide +kernel
theorem dX8_weighHeaps_75 : decode cX8_weighHeaps 75 = .ok (.invokestatic 458, 3) := by decide +kernel
theorem dX8_weighHeaps_78 : decode cX8_weighHeaps 78 = .ok (.iload_n 1, 1) := by decide +kernel
theorem dX8_weighHeaps_79 : decode cX8_weighHeaps 79 = .ok (.iconst 1, 1) := by decide +kernel
theorem dX8_weighHeaps_80 : decode cX8_weighHeaps 80 = .ok (.iadd, 1) := by decide +kernel
theorem dX8_weighHeaps_81 : decode cX8_weighHeaps 81 = .ok (.invokevirtual 477, 3) := by decide +kernel
theorem dX8_weighHeaps_84 : decode cX8_weighHeaps 84 = .ok (.lstore 8, 2) := by decide +kernel
theorem dX8_weighHeaps_86 : decode cX8_weighHeaps 86 = .ok (.lload 8, 2) := by decide +kernel
theorem dX8_weighHeaps_88 : decode cX8_weighHeaps 88 = .ok (.lconst 0, 1) := by decide +kernel
theorem dX8_weighHeaps_89 : decode cX8_weighHeaps 89 = .ok (.lcmp, 1) := by decide +kernel
theorem dX8_weighHeaps_90 : decode cX8_weighHeaps 90 = .ok (.ifCond .le 39, 3) := by decide +kernel
theorem dX8_weighHeaps_93 : decode cX8_weighHeaps 93 = .ok (.aload_n 0, 1) := by decide +kernel
theorem dX8_weighHeaps_94 : decode cX8_weighHeaps 94 = .ok (.iload 6, 2) := by decide +kernel
theorem dX8_weighHeaps_96 : decode cX8_weighHeaps 96 = .ok (.iload 5, 2) := by decide +kernel
theorem dX8_weighHeaps_98 : decode cX8_weighHeaps 98 = .ok (.iload_n 1, 1) := by decide +kernel
theorem dX8_weighHeaps_99 : decode cX8_weighHeaps 99 = .ok (.invokevirtual 480, 3) := by decide +kernel
theorem dX8_weighHeaps_102 : decode cX8_weighHeaps 102 = .ok (.iload_n 1, 1) := by decide +kernel
theorem dX8_weighHeaps_103 : decode cX8_weighHeaps 103 = .ok (.istore 5, 2) := by decide +kernel
theorem dX8_weighHeaps_105 : decode cX8_weighHeaps 105 = .ok (.lload_n 3, 1) := by decide +kernel
theorem dX8_weighHeaps_106 : decode cX8_weighHeaps 106 = .ok (.lload 8, 2) := by decide +kernel
theorem dX8_weighHeaps_108 : decode cX8_weighHeaps 108 = .ok (.aload_n 0, 1) := by decide +kernel
theorem dX8_weighHeaps_109 : decode cX8_weighHeaps 109 = .ok (.getfield 43, 3) := by decide +kernel
theorem dX8_weighHeaps_112 : decode cX8_weighHeaps 112 = .ok (.iload_n 1, 1) := by decide +kernel
theorem dX8_weighHeaps_113 : decode cX8_weighHeaps 113 = .ok (.iconst 1, 1) := by decide +kernel
theorem dX8_weighHeaps_114 : decode cX8_weighHeaps 114 = .ok (.iadd, 1) := by decide +kernel
theorem dX8_weighHeaps_115 : decode cX8_weighHeaps 115 = .ok (.invokevirtual 426, 3) := by decide +kernel
theorem dX8_weighHeaps_118 : decode cX8_weighHeaps 118 = .ok (.getfield 139, 3) := by decide +kernel
theorem dX8_weighHeaps_121 : decode cX8_weighHeaps 121 = .ok (.iload_n 2, 1) := by decide +kernel
theorem dX8_weighHeaps_122 : decode cX8_weighHeaps 122 = .ok (.invokestatic 484, 3) := by decide +kernel
theorem dX8_weighHeaps_125 : decode cX8_weighHeaps 125 = .ok (.i2l, 1) := by decide +kernel
theorem dX8_weighHeaps_126 : decode cX8_weighHeaps 126 = .ok (.lmul, 1) := by decide +kernel
theorem dX8_weighHeaps_127 : decode cX8_weighHeaps 127 = .ok (.ladd, 1) := by decide +kernel
theorem dX8_weighHeaps_128 : decode cX8_weighHeaps 128 = .ok (.lstore_n 3, 1) := by decide +kernel
theorem dX8_weighHeaps_129 : decode cX8_weighHeaps 129 = .ok (.iinc 6 1, 3) := by decide +kernel
theorem dX8_weighHeaps_132 : decode cX8_weighHeaps 132 = .ok (.goto (-102), 3) := by decide +kernel
theorem dX8_weighHeaps_135 : decode cX8_weighHeaps 135 = .ok (.lload_n 3, 1) := by decide +kernel
theorem dX8_weighHeaps_136 : decode cX8_weighHeaps 136 = .ok (.lreturn, 1) := by decide +kernel
theorem dX8_weightOf_0 : decode cX8_weightOf 0 = .ok (.lconst 1, 1) := by decide +kernel
theorem dX8_weightOf_1 : decode cX8_weightOf 1 = .ok (.lstore_n 3, 1) := by decide +kernel
theorem dX8_weightOf_2 : decode cX8_weightOf 2 = .ok (.iconst 0, 1) := by decide +kernel
theorem dX8_weightOf_3 : decode cX8_weightOf 3 = .ok (.istore 5, 2) := by decide +kernel
theorem dX8_weightOf_5 : decode cX8_weightOf 5 = .ok (.iload 5, 2) := by decide +kernel
theorem dX8_weightOf_7 : decode cX8_weightOf 7 = .ok (.iload_n 2, 1) := by decide +kernel
theorem dX8_weightOf_8 : decode cX8_weightOf 8 = .ok (.if_icmp .ge 40, 3) := by decide +kernel
theorem dX8_weightOf_11 : decode cX8_weightOf 11 = .ok (.lload_n 3, 1) := by decide +kernel
theorem dX8_weightOf_12 : decode cX8_weightOf 12 = .ok (.iload 5, 2) := by decide +kernel
theorem dX8_weightOf_14 : decode cX8_weightOf 14 = .ok (.iload_n 1, 1) := by decide +kernel
theorem dX8_weightOf_15 : decode cX8_weightOf 15 = .ok (.if_icmp .ge 14, 3) := by decide +kernel
theorem dX8_weightOf_18 : decode cX8_weightOf 18 = .ok (.aload_n 0, 1) := by decide +kernel
theorem dX8_weightOf_19 : decode cX8_weightOf 19 = .ok (.getfield 19, 3) := by decide +kernel
theorem dX8_weightOf_22 : decode cX8_weightOf 22 = .ok (.getfield 369, 3) := by decide +kernel
theorem dX8_weightOf_25 : decode cX8_weightOf 25 = .ok (.i2l, 1) := by decide +kernel
theorem dX8_weightOf_26 : decode cX8_weightOf 26 = .ok (.goto 14, 3) := by decide +kernel
theorem dX8_weightOf_29 : decode cX8_weightOf 29 = .ok (.bipush 10, 2) := by decide +kernel
theorem dX8_weightOf_31 : decode cX8_weightOf 31 = .ok (.aload_n 0, 1) := by decide +kernel
theorem dX8_weightOf_32 : decode cX8_weightOf 32 = .ok (.getfield 19, 3) := by decide +kernel
theorem dX8_weightOf_35 : decode cX8_weightOf 35 = .ok (.getfield 369, 3) := by decide +kernel
theorem dX8_weightOf_38 : decode cX8_weightOf 38 = .ok (.isub, 1) := by decide +kernel
theorem dX8_weightOf_39 : decode cX8_weightOf 39 = .ok (.i2l, 1) := by decide +kernel
theorem dX8_weightOf_40 : decode cX8_weightOf 40 = .ok (.lmul, 1) := by decide +kernel
theorem dX8_weightOf_41 : decode cX8_weightOf 41 = .ok (.lstore_n 3, 1) := by decide +kernel
theorem dX8_weightOf_42 : decode cX8_weightOf 42 = .ok (.iinc 5 1, 3) := by decide +kernel
theorem dX8_weightOf_45 : decode cX8_weightOf 45 = .ok (.goto (-40), 3) := by decide +kernel
theorem dX8_weightOf_48 : decode cX8_weightOf 48 = .ok (.lload_n 3, 1) := by decide +kernel
theorem dX8_weightOf_49 : decode cX8_weightOf 49 = .ok (.lreturn, 1) := by decide +kernel
theorem dX8_wetDays_0 : decode cX8_wetDays 0 = .ok (.lload_n 1, 1) := by decide +kernel
theorem dX8_wetDays_1 : decode cX8_wetDays 1 = .ok (.lstore_n 3, 1) := by decide +kernel
theorem dX8_wetDays_2 : decode cX8_wetDays 2 = .ok (.iconst 0, 1) := by decide +kernel
theorem dX8_wetDays_3 : decode cX8_wetDays 3 = .ok (.istore 5, 2) := by decide +kernel
theorem dX8_wetDays_5 : decode cX8_wetDays 5 = .ok (.iconst 0, 1) := by decide +kernel
theorem dX8_wetDays_6 : decode cX8_wetDays 6 = .ok (.istore 6, 2) := by decide +kernel
theorem dX8_wetDays_8 : decode cX8_wetDays 8 = .ok (.iload 6, 2) := by decide +kernel
theorem dX8_wetDays_10 : decode cX8_wetDays 10 = .ok (.aload_n 0, 1) := by decide +kernel
theorem dX8_wetDays_11 : decode cX8_wetDays 11 = .ok (.getfield 19, 3) := by decide +kernel
theorem dX8_wetDays_14 : decode cX8_wetDays 14 = .ok (.getfield 181, 3) := by decide +kernel
theorem dX8_wetDays_17 : decode cX8_wetDays 17 = .ok (.if_icmp .ge 53, 3) := by decide +kernel
theorem dX8_wetDays_20 : decode cX8_wetDays 20 = .ok (.ldc2_w 493, 3) := by decide +kernel
theorem dX8_wetDays_23 : decode cX8_wetDays 23 = .ok (.lload_n 3, 1) := by decide +kernel
theorem dX8_wetDays_24 : decode cX8_wetDays 24 = .ok (.lmul, 1) := by decide +kernel
theorem dX8_wetDays_25 : decode cX8_wetDays 25 = .ok (.ldc2_w 495, 3) := by decide +kernel
theorem dX8_wetDays_28 : decode cX8_wetDays 28 = .ok (.ladd, 1) := by decide +kernel
theorem dX8_wetDays_29 : decode cX8_wetDays 29 = .ok (.ldc2_w 497, 3) := by decide +kernel
theorem dX8_wetDays_32 : decode cX8_wetDays 32 = .ok (.land, 1) := by decide +kernel
theorem dX8_wetDays_33 : decode cX8_wetDays 33 = .ok (.lstore_n 3, 1) := by decide +kernel
theorem dX8_wetDays_34 : decode cX8_wetDays 34 = .ok (.lload_n 3, 1) := by decide +kernel
theorem dX8_wetDays_35 : decode cX8_wetDays 35 = .ok (.ldc2_w 499, 3) := by decide +kernel
theorem dX8_wetDays_38 : decode cX8_wetDays 38 = .ok (.ldiv, 1) := by decide +kernel
theorem dX8_wetDays_39 : decode cX8_wetDays 39 = .ok (.ldc2_w 491, 3) := by decide +kernel
theorem dX8_wetDays_42 : decode cX8_wetDays 42 = .ok (.lrem, 1) := by decide +kernel
theorem dX8_wetDays_43 : decode cX8_wetDays 43 = .ok (.aload_n 0, 1) := by decide +kernel
theorem dX8_wetDays_44 : decode cX8_wetDays 44 = .ok (.getfield 19, 3) := by decide +kernel
theorem dX8_wetDays_47 : decode cX8_wetDays 47 = .ok (.getfield 369, 3) := by decide +kernel
theorem dX8_wetDays_50 : decode cX8_wetDays 50 = .ok (.i2l, 1) := by decide +kernel
theorem dX8_wetDays_51 : decode cX8_wetDays 51 = .ok (.lcmp, 1) := by decide +kernel
theorem dX8_wetDays_52 : decode cX8_wetDays 52 = .ok (.ifCond .ge 12, 3) := by decide +kernel
theorem dX8_wetDays_55 : decode cX8_wetDays 55 = .ok (.iload 5, 2) := by decide +kernel
theorem dX8_wetDays_57 : decode cX8_wetDays 57 = .ok (.iconst 1, 1) := by decide +kernel
theorem dX8_wetDays_58 : decode cX8_wetDays 58 = .ok (.iload 6, 2) := by decide +kernel
theorem dX8_wetDays_60 : decode cX8_wetDays 60 = .ok (.ishl, 1) := by decide +kernel
theorem dX8_wetDays_61 : decode cX8_wetDays 61 = .ok (.ior, 1) := by decide +kernel
theorem dX8_wetDays_62 : decode cX8_wetDays 62 = .ok (.istore 5, 2) := by decide +kernel
theorem dX8_wetDays_64 : decode cX8_wetDays 64 = .ok (.iinc 6 1, 3) := by decide +kernel
theorem dX8_wetDays_67 : decode cX8_wetDays 67 = .ok (.goto (-59), 3) := by decide +kernel
theorem dX8_wetDays_70 : decode cX8_wetDays 70 = .ok (.iload 5, 2) := by decide +kernel
theorem dX8_wetDays_72 : decode cX8_wetDays 72 = .ok (.ireturn, 1) := by decide +kernel
theorem dX8_wins_0 : decode cX8_wins 0 = .ok (.aload_n 0, 1) := by decide +kernel
theorem dX8_wins_1 : decode cX8_wins 1 = .ok (.iload_n 1, 1) := by decide +kernel
theorem dX8_wins_2 : decode cX8_wins 2 = .ok (.invokevirtual 132, 3) := by decide +kernel
theorem dX8_wins_5 : decode cX8_wins 5 = .ok (.ifCond .eq 15, 3) := by decide +kernel
theorem dX8_wins_8 : decode cX8_wins 8 = .ok (.iload_n 2, 1) := by decide +kernel
theorem dX8_wins_9 : decode cX8_wins 9 = .ok (.iconst 1, 1) := by decide +kernel
theorem dX8_wins_10 : decode cX8_wins 10 = .ok (.if_icmp .lt 10, 3) := by decide +kernel
theorem dX8_wins_13 : decode cX8_wins 13 = .ok (.iload_n 2, 1) := by decide +kernel
theorem dX8_wins_14 : decode cX8_wins 14 = .ok (.sipush 700, 3) := by decide +kernel
theorem dX8_wins_17 : decode cX8_wins 17 = .ok (.if_icmp .le 6, 3) := by decide +kernel
theorem dX8_wins_20 : decode cX8_wins 20 = .ok (.bipush (-2), 2) := by decide +kernel
theorem dX8_wins_22 : decode cX8_wins 22 = .ok (.ireturn, 1) := by decide +kernel
theorem dX8_wins_23 : decode cX8_wins 23 = .ok (.aload_n 0, 1) := by decide +kernel
theorem dX8_wins_24 : decode cX8_wins 24 = .ok (.iload_n 1, 1) := by decide +kernel
theorem dX8_wins_25 : decode cX8_wins 25 = .ok (.invokevirtual 135, 3) := by decide +kernel
theorem dX8_wins_28 : decode cX8_wins 28 = .ok (.iload_n 2, 1) := by decide +kernel
theorem dX8_wins_29 : decode cX8_wins 29 = .ok (.iconst 1, 1) := by decide +kernel
theorem dX8_wins_30 : decode cX8_wins 30 = .ok (.iadd, 1) := by decide +kernel
theorem dX8_wins_31 : decode cX8_wins 31 = .ok (.invokevirtual 323, 3) := by decide +kernel
theorem dX8_wins_34 : decode cX8_wins 34 = .ok (.ifCond .eq 7, 3) := by decide +kernel
theorem dX8_wins_37 : decode cX8_wins 37 = .ok (.iconst 1, 1) := by decide +kernel
theorem dX8_wins_38 : decode cX8_wins 38 = .ok (.goto 4, 3) := by decide +kernel
theorem dX8_wins_41 : decode cX8_wins 41 = .ok (.iconst 0, 1) := by decide +kernel
theorem dX8_wins_42 : decode cX8_wins 42 = .ok (.invokestatic 200, 3) := by decide +kernel
theorem dX8_wins_45 : decode cX8_wins 45 = .ok (.ireturn, 1) := by decide +kernel
theorem dX8_worth_0 : decode cX8_worth 0 = .ok (.aload_n 0, 1) := by decide +kernel
theorem dX8_worth_1 : decode cX8_worth 1 = .ok (.invokevirtual 177, 3) := by decide +kernel
theorem dX8_worth_4 : decode cX8_worth 4 = .ok (.ifCond .ne 20, 3) := by decide +kernel
theorem dX8_worth_7 : decode cX8_worth 7 = .ok (.iload_n 1, 1) := by decide +kernel
theorem dX8_worth_8 : decode cX8_worth 8 = .ok (.ifCond .lt 16, 3) := by decide +kernel
theorem dX8_worth_11 : decode cX8_worth 11 = .ok (.iload_n 1, 1) := by decide +kernel
theorem dX8_worth_12 : decode cX8_worth 12 = .ok (.iconst 1, 1) := by decide +kernel
theorem dX8_worth_13 : decode cX8_worth 13 = .ok (.aload_n 0, 1) := by decide +kernel
theorem dX8_worth_14 : decode cX8_worth 14 = .ok (.getfield 19, 3) := by decide +kernel
theorem dX8_worth_17 : decode cX8_worth 17 = .ok (.getfield 278, 3) := by decide +kernel
theorem dX8_worth_20 : decode cX8_worth 20 = .ok (.ishl, 1) := by decide +kernel
theorem dX8_worth_21 : decode cX8_worth 21 = .ok (.if_icmp .lt 6, 3) := by decide +kernel
theorem dX8_worth_24 : decode cX8_worth 24 = .ok (.bipush (-2), 2) := by decide +kernel
theorem dX8_worth_26 : decode cX8_worth 26 = .ok (.ireturn, 1) := by decide +kernel
theorem dX8_worth_27 : decode cX8_worth 27 = .ok (.aload_n 0, 1) := by decide +kernel
theorem dX8_worth_28 : decode cX8_worth 28 = .ok (.iload_n 1, 1) := by decide +kernel
theorem dX8_worth_29 : decode cX8_worth 29 = .ok (.invokevirtual 281, 3) := by decide +kernel
theorem dX8_worth_32 : decode cX8_worth 32 = .ok (.ireturn, 1) := by decide +kernel
theorem dX8_write_0 : decode cX8_write 0 = .ok (.iload_n 1, 1) := by decide +kernel
theorem dX8_write_1 : decode cX8_write 1 = .ok (.invokestatic 382, 3) := by decide +kernel
theorem dX8_write_4 : decode cX8_write 4 = .ok (.ifCond .ne 6, 3) := by decide +kernel
theorem dX8_write_7 : decode cX8_write 7 = .ok (.bipush (-2), 2) := by decide +kernel
theorem dX8_write_9 : decode cX8_write 9 = .ok (.ireturn, 1) := by decide +kernel
theorem dX8_write_10 : decode cX8_write 10 = .ok (.aload_n 0, 1) := by decide +kernel
theorem dX8_write_11 : decode cX8_write 11 = .ok (.getfield 32, 3) := by decide +kernel
theorem dX8_write_14 : decode cX8_write 14 = .ok (.iload_n 1, 1) := by decide +kernel
theorem dX8_write_15 : decode cX8_write 15 = .ok (.aaload, 1) := by decide +kernel
theorem dX8_write_16 : decode cX8_write 16 = .ok (.astore 5, 2) := by decide +kernel
theorem dX8_write_18 : decode cX8_write 18 = .ok (.aload 5, 2) := by decide +kernel
theorem dX8_write_20 : decode cX8_write 20 = .ok (.getfield 389, 3) := by decide +kernel
theorem dX8_write_23 : decode cX8_write 23 = .ok (.ifCond .ne 6, 3) := by decide +kernel
theorem dX8_write_26 : decode cX8_write 26 = .ok (.bipush (-6), 2) := by decide +kernel
theorem dX8_write_28 : decode cX8_write 28 = .ok (.ireturn, 1) := by decide +kernel
theorem dX8_write_29 : decode cX8_write 29 = .ok (.iload_n 2, 1) := by decide +kernel
theorem dX8_write_30 : decode cX8_write 30 = .ok (.ifCond .lt 12, 3) := by decide +kernel
theorem dX8_write_33 : decode cX8_write 33 = .ok (.iload_n 2, 1) := by decide +kernel
theorem dX8_write_34 : decode cX8_write 34 = .ok (.aload 5, 2) := by decide +kernel
theorem dX8_write_36 : decode cX8_write 36 = .ok (.getfield 392, 3) := by decide +kernel
theorem dX8_write_39 : decode cX8_write 39 = .ok (.if_icmp .lt 6, 3) := by decide +kernel
theorem dX8_write_42 : decode cX8_write 42 = .ok (.bipush (-7), 2) := by decide +kernel
theorem dX8_write_44 : decode cX8_write 44 = .ok (.ireturn, 1) := by decide +kernel
theorem dX8_write_45 : decode cX8_write 45 = .ok (.aload 5, 2) := by decide +kernel
theorem dX8_write_47 : decode cX8_write 47 = .ok (.getfield 393, 3) := by decide +kernel
theorem dX8_write_50 : decode cX8_write 50 = .ok (.iload_n 2, 1) := by decide +kernel
theorem dX8_write_51 : decode cX8_write 51 = .ok (.lload_n 3, 1) := by decide +kernel
theorem dX8_write_52 : decode cX8_write 52 = .ok (.aload 5, 2) := by decide +kernel
theorem dX8_write_54 : decode cX8_write 54 = .ok (.getfield 397, 3) := by decide +kernel
theorem dX8_write_57 : decode cX8_write 57 = .ok (.invokestatic 400, 3) := by decide +kernel
theorem dX8_write_60 : decode cX8_write 60 = .ok (.lastore, 1) := by decide +kernel
theorem dX8_write_61 : decode cX8_write 61 = .ok (.iconst 0, 1) := by decide +kernel
theorem dX8_write_62 : decode cX8_write 62 = .ok (.ireturn, 1) := by decide +kernel

theorem zi_2_0 : zI 2 0 = some (.aload_n 0, []) := by decide +kernel
theorem zi_2_1 : zI 2 1 = some (.iload_n 1, []) := by decide +kernel
theorem zi_2_2 : zI 2 2 = some (.putfield 55, [7, 0, 0, 1]) := by decide +kernel
theorem zi_2_5 : zI 2 5 = some (.iconst 0, []) := by decide +kernel
theorem zi_2_6 : zI 2 6 = some (.ireturn, []) := by decide +kernel
theorem zi_4_0 : zI 4 0 = some (.iload_n 0, []) := by decide +kernel
theorem zi_4_1 : zI 4 1 = some (.iload_n 1, []) := by decide +kernel
theorem zi_4_2 : zI 4 2 = some (.if_icmp .lt 12, [14]) := by decide +kernel
theorem zi_4_5 : zI 4 5 = some (.iload_n 0, []) := by decide +kernel
theorem zi_4_6 : zI 4 6 = some (.iload_n 2, []) := by decide +kernel
theorem zi_4_7 : zI 4 7 = some (.if_icmp .gt 7, [14]) := by decide +kernel
theorem zi_4_10 : zI 4 10 = some (.iconst 1, []) := by decide +kernel
theorem zi_4_11 : zI 4 11 = some (.goto 4, [15]) := by decide +kernel
theorem zi_4_14 : zI 4 14 = some (.iconst 0, []) := by decide +kernel
theorem zi_4_15 : zI 4 15 = some (.ireturn, []) := by decide +kernel
theorem zi_11_0 : zI 11 0 = some (.iload_n 1, []) := by decide +kernel
theorem zi_11_1 : zI 11 1 = some (.iconst 0, []) := by decide +kernel
theorem zi_11_2 : zI 11 2 = some (.aload_n 0, []) := by decide +kernel
theorem zi_11_3 : zI 11 3 = some (.getfield 66, [7, 10, 15]) := by decide +kernel
theorem zi_11_6 : zI 11 6 = some (.iconst 1, []) := by decide +kernel
theorem zi_11_7 : zI 11 7 = some (.isub, []) := by decide +kernel
theorem zi_11_8 : zI 11 8 = some (.invokestatic 62, [4, 1, 3, 0, 18, 0, 19, 17, 0, 16]) := by decide +kernel
theorem zi_11_11 : zI 11 11 = some (.ireturn, []) := by decide +kernel
theorem zi_14_0 : zI 14 0 = some (.aload_n 0, []) := by decide +kernel
theorem zi_14_1 : zI 14 1 = some (.aload_n 0, []) := by decide +kernel
theorem zi_14_2 : zI 14 2 = some (.getfield 25, [7, 7, 27]) := by decide +kernel
theorem zi_14_5 : zI 14 5 = some (.iconst 1, []) := by decide +kernel
theorem zi_14_6 : zI 14 6 = some (.iaload, []) := by decide +kernel
theorem zi_14_7 : zI 14 7 = some (.invokevirtual 105, [45, 0, 1, 7, 30, 31, 19, 29, 0, 28]) := by decide +kernel
theorem zi_14_10 : zI 14 10 = some (.pop, []) := by decide +kernel
theorem zi_14_11 : zI 14 11 = some (.return_, []) := by decide +kernel
theorem zi_18_0 : zI 18 0 = some (.iload_n 1, []) := by decide +kernel
theorem zi_18_1 : zI 18 1 = some (.iconst 0, []) := by decide +kernel
theorem zi_18_2 : zI 18 2 = some (.aload_n 0, []) := by decide +kernel
theorem zi_18_3 : zI 18 3 = some (.getfield 59, [7, 1, 36]) := by decide +kernel
theorem zi_18_6 : zI 18 6 = some (.iconst 1, []) := by decide +kernel
theorem zi_18_7 : zI 18 7 = some (.isub, []) := by decide +kernel
theorem zi_18_8 : zI 18 8 = some (.invokestatic 62, [4, 1, 3, 0, 18, 0, 19, 17, 0, 16]) := by decide +kernel
theorem zi_18_11 : zI 18 11 = some (.ireturn, []) := by decide +kernel
theorem zi_45_0 : zI 45 0 = some (.aload_n 0, []) := by decide +kernel
theorem zi_45_1 : zI 45 1 = some (.iconst 0, []) := by decide +kernel
theorem zi_45_2 : zI 45 2 = some (.putfield 99, [7, 13, 0, 163]) := by decide +kernel
theorem zi_45_5 : zI 45 5 = some (.iconst 0, []) := by decide +kernel
theorem zi_45_6 : zI 45 6 = some (.istore_n 2, []) := by decide +kernel
theorem zi_45_7 : zI 45 7 = some (.iload_n 2, []) := by decide +kernel
theorem zi_45_8 : zI 45 8 = some (.aload_n 0, []) := by decide +kernel
theorem zi_45_9 : zI 45 9 = some (.getfield 59, [7, 1, 36]) := by decide +kernel
theorem zi_45_12 : zI 45 12 = some (.if_icmp .ge 173, [185]) := by decide +kernel
theorem zi_45_185 : zI 45 185 = some (.aload_n 0, []) := by decide +kernel
theorem zi_45_186 : zI 45 186 = some (.getfield 99, [7, 13, 163]) := by decide +kernel
theorem zi_45_189 : zI 45 189 = some (.ireturn, []) := by decide +kernel
theorem zi_46_0 : zI 46 0 = some (.aload_n 0, []) := by decide +kernel
theorem zi_46_1 : zI 46 1 = some (.iconst 0, []) := by decide +kernel
theorem zi_46_2 : zI 46 2 = some (.putfield 111, [7, 17, 0, 170]) := by decide +kernel
theorem zi_46_5 : zI 46 5 = some (.iconst (-1), []) := by decide +kernel
theorem zi_46_6 : zI 46 6 = some (.istore_n 1, []) := by decide +kernel
theorem zi_46_7 : zI 46 7 = some (.iconst 0, []) := by decide +kernel
theorem zi_46_8 : zI 46 8 = some (.istore_n 2, []) := by decide +kernel
theorem zi_46_9 : zI 46 9 = some (.iload_n 2, []) := by decide +kernel
theorem zi_46_10 : zI 46 10 = some (.aload_n 0, []) := by decide +kernel
theorem zi_46_11 : zI 46 11 = some (.getfield 73, [7, 8, 37]) := by decide +kernel
theorem zi_46_14 : zI 46 14 = some (.if_icmp .ge 132, [146]) := by decide +kernel
theorem zi_46_146 : zI 46 146 = some (.return_, []) := by decide +kernel
theorem zi_47_0 : zI 47 0 = some (.iconst 0, []) := by decide +kernel
theorem zi_47_1 : zI 47 1 = some (.istore_n 2, []) := by decide +kernel
theorem zi_47_2 : zI 47 2 = some (.iload_n 1, []) := by decide +kernel
theorem zi_47_3 : zI 47 3 = some (.tableswitch 87 0 4 #[33, 38, 43, 48, 53], [90, 36, 41, 46, 51, 56]) := by decide +kernel
theorem zi_47_36 : zI 47 36 = some (.aload_n 0, []) := by decide +kernel
theorem zi_47_37 : zI 47 37 = some (.getfield 59, [7, 1, 36]) := by decide +kernel
theorem zi_47_40 : zI 47 40 = some (.ireturn, []) := by decide +kernel
theorem zi_47_41 : zI 47 41 = some (.aload_n 0, []) := by decide +kernel
theorem zi_47_42 : zI 47 42 = some (.getfield 73, [7, 8, 37]) := by decide +kernel
theorem zi_47_45 : zI 47 45 = some (.ireturn, []) := by decide +kernel
theorem zi_47_46 : zI 47 46 = some (.aload_n 0, []) := by decide +kernel
theorem zi_47_47 : zI 47 47 = some (.getfield 66, [7, 10, 15]) := by decide +kernel
theorem zi_47_50 : zI 47 50 = some (.ireturn, []) := by decide +kernel
theorem zi_47_51 : zI 47 51 = some (.aload_n 0, []) := by decide +kernel
theorem zi_47_52 : zI 47 52 = some (.getfield 99, [7, 13, 163]) := by decide +kernel
theorem zi_47_55 : zI 47 55 = some (.ireturn, []) := by decide +kernel
theorem zi_47_56 : zI 47 56 = some (.iconst 0, []) := by decide +kernel
theorem zi_47_57 : zI 47 57 = some (.istore_n 3, []) := by decide +kernel
theorem zi_47_58 : zI 47 58 = some (.iload_n 3, []) := by decide +kernel
theorem zi_47_59 : zI 47 59 = some (.aload_n 0, []) := by decide +kernel
theorem zi_47_60 : zI 47 60 = some (.getfield 99, [7, 13, 163]) := by decide +kernel
theorem zi_47_63 : zI 47 63 = some (.if_icmp .ge 25, [88]) := by decide +kernel
theorem zi_47_88 : zI 47 88 = some (.iload_n 2, []) := by decide +kernel
theorem zi_47_89 : zI 47 89 = some (.ireturn, []) := by decide +kernel
theorem zi_47_90 : zI 47 90 = some (.aload_n 0, []) := by decide +kernel
theorem zi_47_91 : zI 47 91 = some (.getfield 111, [7, 17, 170]) := by decide +kernel
theorem zi_47_94 : zI 47 94 = some (.ireturn, []) := by decide +kernel
theorem zi_48_0 : zI 48 0 = some (.aload_n 0, []) := by decide +kernel
theorem zi_48_1 : zI 48 1 = some (.invokevirtual 121, [14, 0, 0, 7, 183, 184, 19, 182, 0, 181]) := by decide +kernel
theorem zi_48_4 : zI 48 4 = some (.aload_n 0, []) := by decide +kernel
theorem zi_48_5 : zI 48 5 = some (.invokevirtual 123, [46, 0, 0, 7, 187, 188, 19, 186, 0, 185]) := by decide +kernel
theorem zi_48_8 : zI 48 8 = some (.return_, []) := by decide +kernel
theorem zi_56_0 : zI 56 0 = some (.iconst (-1), []) := by decide +kernel
theorem zi_56_1 : zI 56 1 = some (.istore_n 1, []) := by decide +kernel
theorem zi_56_2 : zI 56 2 = some (.iconst 0, []) := by decide +kernel
theorem zi_56_3 : zI 56 3 = some (.istore_n 2, []) := by decide +kernel
theorem zi_56_4 : zI 56 4 = some (.iconst 0, []) := by decide +kernel
theorem zi_56_5 : zI 56 5 = some (.istore_n 3, []) := by decide +kernel
theorem zi_56_6 : zI 56 6 = some (.iload_n 3, []) := by decide +kernel
theorem zi_56_7 : zI 56 7 = some (.aload_n 0, []) := by decide +kernel
theorem zi_56_8 : zI 56 8 = some (.getfield 99, [7, 13, 163]) := by decide +kernel
theorem zi_56_11 : zI 56 11 = some (.if_icmp .ge 30, [41]) := by decide +kernel
theorem zi_56_41 : zI 56 41 = some (.iload_n 1, []) := by decide +kernel
theorem zi_56_42 : zI 56 42 = some (.ireturn, []) := by decide +kernel
theorem zi_131_0 : zI 131 0 = some (.aload_n 0, []) := by decide +kernel
theorem zi_131_1 : zI 131 1 = some (.getfield 55, [7, 0, 1]) := by decide +kernel
theorem zi_131_4 : zI 131 4 = some (.ireturn, []) := by decide +kernel
theorem zi_132_0 : zI 132 0 = some (.aload_n 0, []) := by decide +kernel
theorem zi_132_1 : zI 132 1 = some (.iconst 0, []) := by decide +kernel
theorem zi_132_2 : zI 132 2 = some (.putfield 55, [7, 0, 0, 1]) := by decide +kernel
theorem zi_132_5 : zI 132 5 = some (.iload_n 1, []) := by decide +kernel
theorem zi_132_6 : zI 132 6 = some (.iconst 0, []) := by decide +kernel
theorem zi_132_7 : zI 132 7 = some (.sipush 9999, []) := by decide +kernel
theorem zi_132_10 : zI 132 10 = some (.invokestatic 62, [4, 1, 3, 0, 18, 0, 19, 17, 0, 16]) := by decide +kernel
theorem zi_132_13 : zI 132 13 = some (.ifCond .eq 22, [35]) := by decide +kernel
theorem zi_132_16 : zI 132 16 = some (.iload_n 2, []) := by decide +kernel
theorem zi_132_17 : zI 132 17 = some (.iconst 0, []) := by decide +kernel
theorem zi_132_18 : zI 132 18 = some (.bipush 7, []) := by decide +kernel
theorem zi_132_20 : zI 132 20 = some (.invokestatic 62, [4, 1, 3, 0, 18, 0, 19, 17, 0, 16]) := by decide +kernel
theorem zi_132_23 : zI 132 23 = some (.ifCond .eq 12, [35]) := by decide +kernel
theorem zi_132_26 : zI 132 26 = some (.iload_n 3, []) := by decide +kernel
theorem zi_132_27 : zI 132 27 = some (.iconst 0, []) := by decide +kernel
theorem zi_132_28 : zI 132 28 = some (.iconst 3, []) := by decide +kernel
theorem zi_132_29 : zI 132 29 = some (.invokestatic 62, [4, 1, 3, 0, 18, 0, 19, 17, 0, 16]) := by decide +kernel
theorem zi_132_32 : zI 132 32 = some (.ifCond .ne 9, [41]) := by decide +kernel
theorem zi_132_35 : zI 132 35 = some (.aload_n 0, []) := by decide +kernel
theorem zi_132_36 : zI 132 36 = some (.iconst 1, []) := by decide +kernel
theorem zi_132_37 : zI 132 37 = some (.invokevirtual 69, [2, 0, 1, 7, 564, 565, 19, 563, 0, 562]) := by decide +kernel
theorem zi_132_40 : zI 132 40 = some (.ireturn, []) := by decide +kernel
theorem zi_132_41 : zI 132 41 = some (.aload_n 0, []) := by decide +kernel
theorem zi_132_42 : zI 132 42 = some (.getfield 59, [7, 1, 36]) := by decide +kernel
theorem zi_132_45 : zI 132 45 = some (.bipush 70, []) := by decide +kernel
theorem zi_132_47 : zI 132 47 = some (.if_icmp .eq 25, [72]) := by decide +kernel
theorem zi_132_50 : zI 132 50 = some (.aload_n 0, []) := by decide +kernel
theorem zi_132_51 : zI 132 51 = some (.getfield 59, [7, 1, 36]) := by decide +kernel
theorem zi_132_54 : zI 132 54 = some (.ifCond .le 24, [78]) := by decide +kernel
theorem zi_132_78 : zI 132 78 = some (.aload_n 0, []) := by decide +kernel
theorem zi_132_79 : zI 132 79 = some (.getfield 9, [7, 2, 109]) := by decide +kernel
theorem zi_132_82 : zI 132 82 = some (.aload_n 0, []) := by decide +kernel
theorem zi_132_83 : zI 132 83 = some (.getfield 59, [7, 1, 36]) := by decide +kernel
theorem zi_132_86 : zI 132 86 = some (.iload_n 1, []) := by decide +kernel
theorem zi_132_87 : zI 132 87 = some (.iastore, []) := by decide +kernel
theorem zi_132_88 : zI 132 88 = some (.aload_n 0, []) := by decide +kernel
theorem zi_132_89 : zI 132 89 = some (.getfield 13, [7, 3, 189]) := by decide +kernel
theorem zi_132_92 : zI 132 92 = some (.aload_n 0, []) := by decide +kernel
theorem zi_132_93 : zI 132 93 = some (.getfield 59, [7, 1, 36]) := by decide +kernel
theorem zi_132_96 : zI 132 96 = some (.iload_n 2, []) := by decide +kernel
theorem zi_132_97 : zI 132 97 = some (.iastore, []) := by decide +kernel
theorem zi_132_98 : zI 132 98 = some (.aload_n 0, []) := by decide +kernel
theorem zi_132_99 : zI 132 99 = some (.getfield 16, [7, 4, 195]) := by decide +kernel
theorem zi_132_102 : zI 132 102 = some (.aload_n 0, []) := by decide +kernel
theorem zi_132_103 : zI 132 103 = some (.getfield 59, [7, 1, 36]) := by decide +kernel
theorem zi_132_106 : zI 132 106 = some (.iload_n 3, []) := by decide +kernel
theorem zi_132_107 : zI 132 107 = some (.iastore, []) := by decide +kernel
theorem zi_132_108 : zI 132 108 = some (.aload_n 0, []) := by decide +kernel
theorem zi_132_109 : zI 132 109 = some (.dup, []) := by decide +kernel
theorem zi_132_110 : zI 132 110 = some (.getfield 59, [7, 1, 36]) := by decide +kernel
theorem zi_132_113 : zI 132 113 = some (.dup_x1, []) := by decide +kernel
theorem zi_132_114 : zI 132 114 = some (.iconst 1, []) := by decide +kernel
theorem zi_132_115 : zI 132 115 = some (.iadd, []) := by decide +kernel
theorem zi_132_116 : zI 132 116 = some (.putfield 59, [7, 1, 0, 36]) := by decide +kernel
theorem zi_132_119 : zI 132 119 = some (.ireturn, []) := by decide +kernel
theorem zi_133_0 : zI 133 0 = some (.aload_n 0, []) := by decide +kernel
theorem zi_133_1 : zI 133 1 = some (.iconst 0, []) := by decide +kernel
theorem zi_133_2 : zI 133 2 = some (.putfield 55, [7, 0, 0, 1]) := by decide +kernel
theorem zi_133_5 : zI 133 5 = some (.iload_n 1, []) := by decide +kernel
theorem zi_133_6 : zI 133 6 = some (.iconst 0, []) := by decide +kernel
theorem zi_133_7 : zI 133 7 = some (.sipush 999, []) := by decide +kernel
theorem zi_133_10 : zI 133 10 = some (.invokestatic 62, [4, 1, 3, 0, 18, 0, 19, 17, 0, 16]) := by decide +kernel
theorem zi_133_13 : zI 133 13 = some (.ifCond .ne 9, [22]) := by decide +kernel
theorem zi_133_16 : zI 133 16 = some (.aload_n 0, []) := by decide +kernel
theorem zi_133_17 : zI 133 17 = some (.iconst 1, []) := by decide +kernel
theorem zi_133_18 : zI 133 18 = some (.invokevirtual 69, [2, 0, 1, 7, 564, 565, 19, 563, 0, 562]) := by decide +kernel
theorem zi_133_21 : zI 133 21 = some (.ireturn, []) := by decide +kernel
theorem zi_133_22 : zI 133 22 = some (.aload_n 0, []) := by decide +kernel
theorem zi_133_23 : zI 133 23 = some (.getfield 59, [7, 1, 36]) := by decide +kernel
theorem zi_133_26 : zI 133 26 = some (.ifCond .eq 30, [56]) := by decide +kernel
theorem zi_133_56 : zI 133 56 = some (.aload_n 0, []) := by decide +kernel
theorem zi_133_57 : zI 133 57 = some (.iconst 2, []) := by decide +kernel
theorem zi_133_58 : zI 133 58 = some (.invokevirtual 69, [2, 0, 1, 7, 564, 565, 19, 563, 0, 562]) := by decide +kernel
theorem zi_133_61 : zI 133 61 = some (.ireturn, []) := by decide +kernel
theorem zi_134_0 : zI 134 0 = some (.aload_n 0, []) := by decide +kernel
theorem zi_134_1 : zI 134 1 = some (.iconst 0, []) := by decide +kernel
theorem zi_134_2 : zI 134 2 = some (.putfield 55, [7, 0, 0, 1]) := by decide +kernel
theorem zi_134_5 : zI 134 5 = some (.iload_n 1, []) := by decide +kernel
theorem zi_134_6 : zI 134 6 = some (.iconst 1, []) := by decide +kernel
theorem zi_134_7 : zI 134 7 = some (.bipush 70, []) := by decide +kernel
theorem zi_134_9 : zI 134 9 = some (.invokestatic 62, [4, 1, 3, 0, 18, 0, 19, 17, 0, 16]) := by decide +kernel
theorem zi_134_12 : zI 134 12 = some (.ifCond .ne 9, [21]) := by decide +kernel
theorem zi_134_15 : zI 134 15 = some (.aload_n 0, []) := by decide +kernel
theorem zi_134_16 : zI 134 16 = some (.iconst 1, []) := by decide +kernel
theorem zi_134_17 : zI 134 17 = some (.invokevirtual 69, [2, 0, 1, 7, 564, 565, 19, 563, 0, 562]) := by decide +kernel
theorem zi_134_20 : zI 134 20 = some (.ireturn, []) := by decide +kernel
theorem zi_134_21 : zI 134 21 = some (.aload_n 0, []) := by decide +kernel
theorem zi_134_22 : zI 134 22 = some (.getfield 73, [7, 8, 37]) := by decide +kernel
theorem zi_134_25 : zI 134 25 = some (.istore_n 2, []) := by decide +kernel
theorem zi_134_26 : zI 134 26 = some (.aload_n 0, []) := by decide +kernel
theorem zi_134_27 : zI 134 27 = some (.getfield 73, [7, 8, 37]) := by decide +kernel
theorem zi_134_30 : zI 134 30 = some (.aload_n 0, []) := by decide +kernel
theorem zi_134_31 : zI 134 31 = some (.getfield 59, [7, 1, 36]) := by decide +kernel
theorem zi_134_34 : zI 134 34 = some (.if_icmp .ge 40, [74]) := by decide +kernel
theorem zi_134_74 : zI 134 74 = some (.aload_n 0, []) := by decide +kernel
theorem zi_134_75 : zI 134 75 = some (.getfield 73, [7, 8, 37]) := by decide +kernel
theorem zi_134_78 : zI 134 78 = some (.iload_n 2, []) := by decide +kernel
theorem zi_134_79 : zI 134 79 = some (.isub, []) := by decide +kernel
theorem zi_134_80 : zI 134 80 = some (.ireturn, []) := by decide +kernel
theorem zi_135_0 : zI 135 0 = some (.aload_n 0, []) := by decide +kernel
theorem zi_135_1 : zI 135 1 = some (.iconst 0, []) := by decide +kernel
theorem zi_135_2 : zI 135 2 = some (.putfield 55, [7, 0, 0, 1]) := by decide +kernel
theorem zi_135_5 : zI 135 5 = some (.iload_n 1, []) := by decide +kernel
theorem zi_135_6 : zI 135 6 = some (.iconst 0, []) := by decide +kernel
theorem zi_135_7 : zI 135 7 = some (.iconst 3, []) := by decide +kernel
theorem zi_135_8 : zI 135 8 = some (.invokestatic 62, [4, 1, 3, 0, 18, 0, 19, 17, 0, 16]) := by decide +kernel
theorem zi_135_11 : zI 135 11 = some (.ifCond .eq 32, [43]) := by decide +kernel
theorem zi_135_14 : zI 135 14 = some (.iload_n 2, []) := by decide +kernel
theorem zi_135_15 : zI 135 15 = some (.iload_n 1, []) := by decide +kernel
theorem zi_135_16 : zI 135 16 = some (.iconst 2, []) := by decide +kernel
theorem zi_135_17 : zI 135 17 = some (.if_icmp .ne 7, [24]) := by decide +kernel
theorem zi_135_20 : zI 135 20 = some (.iconst 1, []) := by decide +kernel
theorem zi_135_21 : zI 135 21 = some (.goto 4, [25]) := by decide +kernel
theorem zi_135_24 : zI 135 24 = some (.iconst 0, []) := by decide +kernel
theorem zi_135_25 : zI 135 25 = some (.iload_n 1, []) := by decide +kernel
theorem zi_135_26 : zI 135 26 = some (.ifCond .ne 8, [34]) := by decide +kernel
theorem zi_135_29 : zI 135 29 = some (.bipush 100, []) := by decide +kernel
theorem zi_135_31 : zI 135 31 = some (.goto 6, [37]) := by decide +kernel
theorem zi_135_34 : zI 135 34 = some (.sipush 1000, []) := by decide +kernel
theorem zi_135_37 : zI 135 37 = some (.invokestatic 62, [4, 1, 3, 0, 18, 0, 19, 17, 0, 16]) := by decide +kernel
theorem zi_135_40 : zI 135 40 = some (.ifCond .ne 9, [49]) := by decide +kernel
theorem zi_135_43 : zI 135 43 = some (.aload_n 0, []) := by decide +kernel
theorem zi_135_44 : zI 135 44 = some (.iconst 1, []) := by decide +kernel
theorem zi_135_45 : zI 135 45 = some (.invokevirtual 69, [2, 0, 1, 7, 564, 565, 19, 563, 0, 562]) := by decide +kernel
theorem zi_135_48 : zI 135 48 = some (.ireturn, []) := by decide +kernel
theorem zi_135_49 : zI 135 49 = some (.aload_n 0, []) := by decide +kernel
theorem zi_135_50 : zI 135 50 = some (.getfield 25, [7, 7, 27]) := by decide +kernel
theorem zi_135_53 : zI 135 53 = some (.iload_n 1, []) := by decide +kernel
theorem zi_135_54 : zI 135 54 = some (.iaload, []) := by decide +kernel
theorem zi_135_55 : zI 135 55 = some (.istore_n 3, []) := by decide +kernel
theorem zi_135_56 : zI 135 56 = some (.aload_n 0, []) := by decide +kernel
theorem zi_135_57 : zI 135 57 = some (.getfield 25, [7, 7, 27]) := by decide +kernel
theorem zi_135_60 : zI 135 60 = some (.iload_n 1, []) := by decide +kernel
theorem zi_135_61 : zI 135 61 = some (.iload_n 2, []) := by decide +kernel
theorem zi_135_62 : zI 135 62 = some (.iastore, []) := by decide +kernel
theorem zi_135_63 : zI 135 63 = some (.iload_n 3, []) := by decide +kernel
theorem zi_135_64 : zI 135 64 = some (.ireturn, []) := by decide +kernel
theorem zi_136_0 : zI 136 0 = some (.aload_n 0, []) := by decide +kernel
theorem zi_136_1 : zI 136 1 = some (.iconst 0, []) := by decide +kernel
theorem zi_136_2 : zI 136 2 = some (.putfield 55, [7, 0, 0, 1]) := by decide +kernel
theorem zi_136_5 : zI 136 5 = some (.aload_n 0, []) := by decide +kernel
theorem zi_136_6 : zI 136 6 = some (.getfield 73, [7, 8, 37]) := by decide +kernel
theorem zi_136_9 : zI 136 9 = some (.istore_n 1, []) := by decide +kernel
theorem zi_136_10 : zI 136 10 = some (.aload_n 0, []) := by decide +kernel
theorem zi_136_11 : zI 136 11 = some (.iconst 0, []) := by decide +kernel
theorem zi_136_12 : zI 136 12 = some (.putfield 73, [7, 8, 0, 37]) := by decide +kernel
theorem zi_136_15 : zI 136 15 = some (.aload_n 0, []) := by decide +kernel
theorem zi_136_16 : zI 136 16 = some (.iconst 0, []) := by decide +kernel
theorem zi_136_17 : zI 136 17 = some (.putfield 66, [7, 10, 0, 15]) := by decide +kernel
theorem zi_136_20 : zI 136 20 = some (.iload_n 1, []) := by decide +kernel
theorem zi_136_21 : zI 136 21 = some (.ireturn, []) := by decide +kernel
theorem zi_137_0 : zI 137 0 = some (.aload_n 0, []) := by decide +kernel
theorem zi_137_1 : zI 137 1 = some (.iconst 0, []) := by decide +kernel
theorem zi_137_2 : zI 137 2 = some (.putfield 55, [7, 0, 0, 1]) := by decide +kernel
theorem zi_137_5 : zI 137 5 = some (.aload_n 0, []) := by decide +kernel
theorem zi_137_6 : zI 137 6 = some (.invokevirtual 126, [48, 0, 0, 7, 572, 573, 19, 571, 0, 570]) := by decide +kernel
theorem zi_137_9 : zI 137 9 = some (.iload_n 1, []) := by decide +kernel
theorem zi_137_10 : zI 137 10 = some (.iconst 0, []) := by decide +kernel
theorem zi_137_11 : zI 137 11 = some (.iconst 5, []) := by decide +kernel
theorem zi_137_12 : zI 137 12 = some (.invokestatic 62, [4, 1, 3, 0, 18, 0, 19, 17, 0, 16]) := by decide +kernel
theorem zi_137_15 : zI 137 15 = some (.ifCond .eq 11, [26]) := by decide +kernel
theorem zi_137_18 : zI 137 18 = some (.aload_n 0, []) := by decide +kernel
theorem zi_137_19 : zI 137 19 = some (.iload_n 1, []) := by decide +kernel
theorem zi_137_20 : zI 137 20 = some (.invokevirtual 129, [47, 0, 1, 7, 576, 577, 19, 575, 0, 574]) := by decide +kernel
theorem zi_137_23 : zI 137 23 = some (.goto 8, [31]) := by decide +kernel
theorem zi_137_26 : zI 137 26 = some (.aload_n 0, []) := by decide +kernel
theorem zi_137_27 : zI 137 27 = some (.iconst 1, []) := by decide +kernel
theorem zi_137_28 : zI 137 28 = some (.invokevirtual 69, [2, 0, 1, 7, 564, 565, 19, 563, 0, 562]) := by decide +kernel
theorem zi_137_31 : zI 137 31 = some (.ireturn, []) := by decide +kernel
theorem zi_138_0 : zI 138 0 = some (.aload_n 0, []) := by decide +kernel
theorem zi_138_1 : zI 138 1 = some (.iconst 0, []) := by decide +kernel
theorem zi_138_2 : zI 138 2 = some (.putfield 55, [7, 0, 0, 1]) := by decide +kernel
theorem zi_138_5 : zI 138 5 = some (.aload_n 0, []) := by decide +kernel
theorem zi_138_6 : zI 138 6 = some (.iload_n 1, []) := by decide +kernel
theorem zi_138_7 : zI 138 7 = some (.invokevirtual 153, [18, 0, 1, 7, 580, 581, 19, 579, 0, 578]) := by decide +kernel
theorem zi_138_10 : zI 138 10 = some (.ifCond .ne 9, [19]) := by decide +kernel
theorem zi_138_13 : zI 138 13 = some (.aload_n 0, []) := by decide +kernel
theorem zi_138_14 : zI 138 14 = some (.iconst 1, []) := by decide +kernel
theorem zi_138_15 : zI 138 15 = some (.invokevirtual 69, [2, 0, 1, 7, 564, 565, 19, 563, 0, 562]) := by decide +kernel
theorem zi_138_18 : zI 138 18 = some (.ireturn, []) := by decide +kernel
theorem zi_139_0 : zI 139 0 = some (.aload_n 0, []) := by decide +kernel
theorem zi_139_1 : zI 139 1 = some (.iconst 0, []) := by decide +kernel
theorem zi_139_2 : zI 139 2 = some (.putfield 55, [7, 0, 0, 1]) := by decide +kernel
theorem zi_139_5 : zI 139 5 = some (.aload_n 0, []) := by decide +kernel
theorem zi_139_6 : zI 139 6 = some (.iload_n 1, []) := by decide +kernel
theorem zi_139_7 : zI 139 7 = some (.invokevirtual 153, [18, 0, 1, 7, 580, 581, 19, 579, 0, 578]) := by decide +kernel
theorem zi_139_10 : zI 139 10 = some (.ifCond .eq 33, [43]) := by decide +kernel
theorem zi_139_43 : zI 139 43 = some (.aload_n 0, []) := by decide +kernel
theorem zi_139_44 : zI 139 44 = some (.iconst 1, []) := by decide +kernel
theorem zi_139_45 : zI 139 45 = some (.invokevirtual 69, [2, 0, 1, 7, 564, 565, 19, 563, 0, 562]) := by decide +kernel
theorem zi_139_48 : zI 139 48 = some (.ireturn, []) := by decide +kernel
theorem zi_140_0 : zI 140 0 = some (.aload_n 0, []) := by decide +kernel
theorem zi_140_1 : zI 140 1 = some (.iconst 0, []) := by decide +kernel
theorem zi_140_2 : zI 140 2 = some (.putfield 55, [7, 0, 0, 1]) := by decide +kernel
theorem zi_140_5 : zI 140 5 = some (.aload_n 0, []) := by decide +kernel
theorem zi_140_6 : zI 140 6 = some (.iload_n 1, []) := by decide +kernel
theorem zi_140_7 : zI 140 7 = some (.invokevirtual 167, [11, 0, 1, 7, 588, 589, 19, 587, 0, 586]) := by decide +kernel
theorem zi_140_10 : zI 140 10 = some (.ifCond .ne 9, [19]) := by decide +kernel
theorem zi_140_13 : zI 140 13 = some (.aload_n 0, []) := by decide +kernel
theorem zi_140_14 : zI 140 14 = some (.iconst 1, []) := by decide +kernel
theorem zi_140_15 : zI 140 15 = some (.invokevirtual 69, [2, 0, 1, 7, 564, 565, 19, 563, 0, 562]) := by decide +kernel
theorem zi_140_18 : zI 140 18 = some (.ireturn, []) := by decide +kernel
theorem zi_141_0 : zI 141 0 = some (.aload_n 0, []) := by decide +kernel
theorem zi_141_1 : zI 141 1 = some (.iconst 0, []) := by decide +kernel
theorem zi_141_2 : zI 141 2 = some (.putfield 55, [7, 0, 0, 1]) := by decide +kernel
theorem zi_141_5 : zI 141 5 = some (.aload_n 0, []) := by decide +kernel
theorem zi_141_6 : zI 141 6 = some (.iload_n 1, []) := by decide +kernel
theorem zi_141_7 : zI 141 7 = some (.invokevirtual 167, [11, 0, 1, 7, 588, 589, 19, 587, 0, 586]) := by decide +kernel
theorem zi_141_10 : zI 141 10 = some (.ifCond .eq 33, [43]) := by decide +kernel
theorem zi_141_43 : zI 141 43 = some (.aload_n 0, []) := by decide +kernel
theorem zi_141_44 : zI 141 44 = some (.iconst 1, []) := by decide +kernel
theorem zi_141_45 : zI 141 45 = some (.invokevirtual 69, [2, 0, 1, 7, 564, 565, 19, 563, 0, 562]) := by decide +kernel
theorem zi_141_48 : zI 141 48 = some (.ireturn, []) := by decide +kernel
theorem zi_142_0 : zI 142 0 = some (.aload_n 0, []) := by decide +kernel
theorem zi_142_1 : zI 142 1 = some (.iconst 0, []) := by decide +kernel
theorem zi_142_2 : zI 142 2 = some (.putfield 55, [7, 0, 0, 1]) := by decide +kernel
theorem zi_142_5 : zI 142 5 = some (.aload_n 0, []) := by decide +kernel
theorem zi_142_6 : zI 142 6 = some (.iload_n 1, []) := by decide +kernel
theorem zi_142_7 : zI 142 7 = some (.invokevirtual 167, [11, 0, 1, 7, 588, 589, 19, 587, 0, 586]) := by decide +kernel
theorem zi_142_10 : zI 142 10 = some (.ifCond .eq 27, [37]) := by decide +kernel
theorem zi_142_37 : zI 142 37 = some (.aload_n 0, []) := by decide +kernel
theorem zi_142_38 : zI 142 38 = some (.iconst 1, []) := by decide +kernel
theorem zi_142_39 : zI 142 39 = some (.invokevirtual 69, [2, 0, 1, 7, 564, 565, 19, 563, 0, 562]) := by decide +kernel
theorem zi_142_42 : zI 142 42 = some (.ireturn, []) := by decide +kernel
theorem zi_143_0 : zI 143 0 = some (.aload_n 0, []) := by decide +kernel
theorem zi_143_1 : zI 143 1 = some (.iconst 0, []) := by decide +kernel
theorem zi_143_2 : zI 143 2 = some (.putfield 55, [7, 0, 0, 1]) := by decide +kernel
theorem zi_143_5 : zI 143 5 = some (.aload_n 0, []) := by decide +kernel
theorem zi_143_6 : zI 143 6 = some (.iload_n 1, []) := by decide +kernel
theorem zi_143_7 : zI 143 7 = some (.invokevirtual 153, [18, 0, 1, 7, 580, 581, 19, 579, 0, 578]) := by decide +kernel
theorem zi_143_10 : zI 143 10 = some (.ifCond .eq 11, [21]) := by decide +kernel
theorem zi_143_21 : zI 143 21 = some (.aload_n 0, []) := by decide +kernel
theorem zi_143_22 : zI 143 22 = some (.iconst 1, []) := by decide +kernel
theorem zi_143_23 : zI 143 23 = some (.invokevirtual 69, [2, 0, 1, 7, 564, 565, 19, 563, 0, 562]) := by decide +kernel
theorem zi_143_26 : zI 143 26 = some (.ireturn, []) := by decide +kernel
theorem zi_144_0 : zI 144 0 = some (.aload_n 0, []) := by decide +kernel
theorem zi_144_1 : zI 144 1 = some (.iconst 0, []) := by decide +kernel
theorem zi_144_2 : zI 144 2 = some (.putfield 55, [7, 0, 0, 1]) := by decide +kernel
theorem zi_144_5 : zI 144 5 = some (.aload_n 0, []) := by decide +kernel
theorem zi_144_6 : zI 144 6 = some (.invokevirtual 121, [14, 0, 0, 7, 183, 184, 19, 182, 0, 181]) := by decide +kernel
theorem zi_144_9 : zI 144 9 = some (.iload_n 1, []) := by decide +kernel
theorem zi_144_10 : zI 144 10 = some (.iconst 0, []) := by decide +kernel
theorem zi_144_11 : zI 144 11 = some (.aload_n 0, []) := by decide +kernel
theorem zi_144_12 : zI 144 12 = some (.getfield 99, [7, 13, 163]) := by decide +kernel
theorem zi_144_15 : zI 144 15 = some (.iconst 1, []) := by decide +kernel
theorem zi_144_16 : zI 144 16 = some (.isub, []) := by decide +kernel
theorem zi_144_17 : zI 144 17 = some (.invokestatic 62, [4, 1, 3, 0, 18, 0, 19, 17, 0, 16]) := by decide +kernel
theorem zi_144_20 : zI 144 20 = some (.ifCond .ne 9, [29]) := by decide +kernel
theorem zi_144_23 : zI 144 23 = some (.aload_n 0, []) := by decide +kernel
theorem zi_144_24 : zI 144 24 = some (.iconst 1, []) := by decide +kernel
theorem zi_144_25 : zI 144 25 = some (.invokevirtual 69, [2, 0, 1, 7, 564, 565, 19, 563, 0, 562]) := by decide +kernel
theorem zi_144_28 : zI 144 28 = some (.ireturn, []) := by decide +kernel
theorem zi_145_0 : zI 145 0 = some (.aload_n 0, []) := by decide +kernel
theorem zi_145_1 : zI 145 1 = some (.iconst 0, []) := by decide +kernel
theorem zi_145_2 : zI 145 2 = some (.putfield 55, [7, 0, 0, 1]) := by decide +kernel
theorem zi_145_5 : zI 145 5 = some (.aload_n 0, []) := by decide +kernel
theorem zi_145_6 : zI 145 6 = some (.invokevirtual 121, [14, 0, 0, 7, 183, 184, 19, 182, 0, 181]) := by decide +kernel
theorem zi_145_9 : zI 145 9 = some (.iload_n 1, []) := by decide +kernel
theorem zi_145_10 : zI 145 10 = some (.iconst 0, []) := by decide +kernel
theorem zi_145_11 : zI 145 11 = some (.aload_n 0, []) := by decide +kernel
theorem zi_145_12 : zI 145 12 = some (.getfield 99, [7, 13, 163]) := by decide +kernel
theorem zi_145_15 : zI 145 15 = some (.iconst 1, []) := by decide +kernel
theorem zi_145_16 : zI 145 16 = some (.isub, []) := by decide +kernel
theorem zi_145_17 : zI 145 17 = some (.invokestatic 62, [4, 1, 3, 0, 18, 0, 19, 17, 0, 16]) := by decide +kernel
theorem zi_145_20 : zI 145 20 = some (.ifCond .eq 7, [27]) := by decide +kernel
theorem zi_145_27 : zI 145 27 = some (.aload_n 0, []) := by decide +kernel
theorem zi_145_28 : zI 145 28 = some (.iconst 1, []) := by decide +kernel
theorem zi_145_29 : zI 145 29 = some (.invokevirtual 69, [2, 0, 1, 7, 564, 565, 19, 563, 0, 562]) := by decide +kernel
theorem zi_145_32 : zI 145 32 = some (.ireturn, []) := by decide +kernel
theorem zi_146_0 : zI 146 0 = some (.aload_n 0, []) := by decide +kernel
theorem zi_146_1 : zI 146 1 = some (.iconst 0, []) := by decide +kernel
theorem zi_146_2 : zI 146 2 = some (.putfield 55, [7, 0, 0, 1]) := by decide +kernel
theorem zi_146_5 : zI 146 5 = some (.aload_n 0, []) := by decide +kernel
theorem zi_146_6 : zI 146 6 = some (.invokevirtual 121, [14, 0, 0, 7, 183, 184, 19, 182, 0, 181]) := by decide +kernel
theorem zi_146_9 : zI 146 9 = some (.aload_n 0, []) := by decide +kernel
theorem zi_146_10 : zI 146 10 = some (.invokevirtual 191, [56, 0, 0, 7, 604, 605, 19, 603, 0, 602]) := by decide +kernel
theorem zi_146_13 : zI 146 13 = some (.ireturn, []) := by decide +kernel
theorem zi_147_0 : zI 147 0 = some (.aload_n 0, []) := by decide +kernel
theorem zi_147_1 : zI 147 1 = some (.iconst 0, []) := by decide +kernel
theorem zi_147_2 : zI 147 2 = some (.putfield 55, [7, 0, 0, 1]) := by decide +kernel
theorem zi_147_5 : zI 147 5 = some (.aload_n 0, []) := by decide +kernel
theorem zi_147_6 : zI 147 6 = some (.invokevirtual 121, [14, 0, 0, 7, 183, 184, 19, 182, 0, 181]) := by decide +kernel
theorem zi_147_9 : zI 147 9 = some (.iconst 0, []) := by decide +kernel
theorem zi_147_10 : zI 147 10 = some (.istore_n 1, []) := by decide +kernel
theorem zi_147_11 : zI 147 11 = some (.iconst 0, []) := by decide +kernel
theorem zi_147_12 : zI 147 12 = some (.istore_n 2, []) := by decide +kernel
theorem zi_147_13 : zI 147 13 = some (.iload_n 2, []) := by decide +kernel
theorem zi_147_14 : zI 147 14 = some (.aload_n 0, []) := by decide +kernel
theorem zi_147_15 : zI 147 15 = some (.getfield 59, [7, 1, 36]) := by decide +kernel
theorem zi_147_18 : zI 147 18 = some (.if_icmp .ge 27, [45]) := by decide +kernel
theorem zi_147_45 : zI 147 45 = some (.aload_n 0, []) := by decide +kernel
theorem zi_147_46 : zI 147 46 = some (.getfield 99, [7, 13, 163]) := by decide +kernel
theorem zi_147_49 : zI 147 49 = some (.ifCond .ne 7, [56]) := by decide +kernel
theorem zi_147_52 : zI 147 52 = some (.dconst 0, []) := by decide +kernel
theorem zi_147_53 : zI 147 53 = some (.goto 11, [64]) := by decide +kernel
theorem zi_147_64 : zI 147 64 = some (.dreturn, []) := by decide +kernel
theorem zi_148_0 : zI 148 0 = some (.aload_n 0, []) := by decide +kernel
theorem zi_148_1 : zI 148 1 = some (.iconst 0, []) := by decide +kernel
theorem zi_148_2 : zI 148 2 = some (.putfield 55, [7, 0, 0, 1]) := by decide +kernel
theorem zi_148_5 : zI 148 5 = some (.aload_n 0, []) := by decide +kernel
theorem zi_148_6 : zI 148 6 = some (.iload_n 1, []) := by decide +kernel
theorem zi_148_7 : zI 148 7 = some (.invokevirtual 167, [11, 0, 1, 7, 588, 589, 19, 587, 0, 586]) := by decide +kernel
theorem zi_148_10 : zI 148 10 = some (.ifCond .ne 9, [19]) := by decide +kernel
theorem zi_148_13 : zI 148 13 = some (.aload_n 0, []) := by decide +kernel
theorem zi_148_14 : zI 148 14 = some (.iconst 1, []) := by decide +kernel
theorem zi_148_15 : zI 148 15 = some (.invokevirtual 69, [2, 0, 1, 7, 564, 565, 19, 563, 0, 562]) := by decide +kernel
theorem zi_148_18 : zI 148 18 = some (.ireturn, []) := by decide +kernel
theorem zi_149_0 : zI 149 0 = some (.aload_n 0, []) := by decide +kernel
theorem zi_149_1 : zI 149 1 = some (.iconst 0, []) := by decide +kernel
theorem zi_149_2 : zI 149 2 = some (.putfield 55, [7, 0, 0, 1]) := by decide +kernel
theorem zi_149_5 : zI 149 5 = some (.aload_n 0, []) := by decide +kernel
theorem zi_149_6 : zI 149 6 = some (.invokevirtual 123, [46, 0, 0, 7, 187, 188, 19, 186, 0, 185]) := by decide +kernel
theorem zi_149_9 : zI 149 9 = some (.iload_n 1, []) := by decide +kernel
theorem zi_149_10 : zI 149 10 = some (.iconst 0, []) := by decide +kernel
theorem zi_149_11 : zI 149 11 = some (.aload_n 0, []) := by decide +kernel
theorem zi_149_12 : zI 149 12 = some (.getfield 111, [7, 17, 170]) := by decide +kernel
theorem zi_149_15 : zI 149 15 = some (.iconst 1, []) := by decide +kernel
theorem zi_149_16 : zI 149 16 = some (.isub, []) := by decide +kernel
theorem zi_149_17 : zI 149 17 = some (.invokestatic 62, [4, 1, 3, 0, 18, 0, 19, 17, 0, 16]) := by decide +kernel
theorem zi_149_20 : zI 149 20 = some (.ifCond .ne 9, [29]) := by decide +kernel
theorem zi_149_23 : zI 149 23 = some (.aload_n 0, []) := by decide +kernel
theorem zi_149_24 : zI 149 24 = some (.iconst 1, []) := by decide +kernel
theorem zi_149_25 : zI 149 25 = some (.invokevirtual 69, [2, 0, 1, 7, 564, 565, 19, 563, 0, 562]) := by decide +kernel
theorem zi_149_28 : zI 149 28 = some (.ireturn, []) := by decide +kernel
theorem zi_150_0 : zI 150 0 = some (.aload_n 0, []) := by decide +kernel
theorem zi_150_1 : zI 150 1 = some (.iconst 0, []) := by decide +kernel
theorem zi_150_2 : zI 150 2 = some (.putfield 55, [7, 0, 0, 1]) := by decide +kernel
theorem zi_150_5 : zI 150 5 = some (.aload_n 0, []) := by decide +kernel
theorem zi_150_6 : zI 150 6 = some (.iload_n 1, []) := by decide +kernel
theorem zi_150_7 : zI 150 7 = some (.invokevirtual 167, [11, 0, 1, 7, 588, 589, 19, 587, 0, 586]) := by decide +kernel
theorem zi_150_10 : zI 150 10 = some (.ifCond .ne 9, [19]) := by decide +kernel
theorem zi_150_13 : zI 150 13 = some (.aload_n 0, []) := by decide +kernel
theorem zi_150_14 : zI 150 14 = some (.iconst 1, []) := by decide +kernel
theorem zi_150_15 : zI 150 15 = some (.invokevirtual 69, [2, 0, 1, 7, 564, 565, 19, 563, 0, 562]) := by decide +kernel
theorem zi_150_18 : zI 150 18 = some (.ireturn, []) := by decide +kernel
theorem zi_151_0 : zI 151 0 = some (.aload_n 0, []) := by decide +kernel
theorem zi_151_1 : zI 151 1 = some (.iconst 0, []) := by decide +kernel
theorem zi_151_2 : zI 151 2 = some (.putfield 55, [7, 0, 0, 1]) := by decide +kernel
theorem zi_151_5 : zI 151 5 = some (.aload_n 0, []) := by decide +kernel
theorem zi_151_6 : zI 151 6 = some (.iload_n 1, []) := by decide +kernel
theorem zi_151_7 : zI 151 7 = some (.invokevirtual 167, [11, 0, 1, 7, 588, 589, 19, 587, 0, 586]) := by decide +kernel
theorem zi_151_10 : zI 151 10 = some (.ifCond .ne 9, [19]) := by decide +kernel
theorem zi_151_13 : zI 151 13 = some (.aload_n 0, []) := by decide +kernel
theorem zi_151_14 : zI 151 14 = some (.iconst 1, []) := by decide +kernel
theorem zi_151_15 : zI 151 15 = some (.invokevirtual 69, [2, 0, 1, 7, 564, 565, 19, 563, 0, 562]) := by decide +kernel
theorem zi_151_18 : zI 151 18 = some (.ireturn, []) := by decide +kernel
theorem zi_152_0 : zI 152 0 = some (.aload_n 0, []) := by decide +kernel
theorem zi_152_1 : zI 152 1 = some (.iconst 0, []) := by decide +kernel
theorem zi_152_2 : zI 152 2 = some (.putfield 55, [7, 0, 0, 1]) := by decide +kernel
theorem zi_152_5 : zI 152 5 = some (.aload_n 0, []) := by decide +kernel
theorem zi_152_6 : zI 152 6 = some (.iload_n 1, []) := by decide +kernel
theorem zi_152_7 : zI 152 7 = some (.invokevirtual 153, [18, 0, 1, 7, 580, 581, 19, 579, 0, 578]) := by decide +kernel
theorem zi_152_10 : zI 152 10 = some (.ifCond .eq 11, [21]) := by decide +kernel
theorem zi_152_21 : zI 152 21 = some (.aload_n 0, []) := by decide +kernel
theorem zi_152_22 : zI 152 22 = some (.iconst 1, []) := by decide +kernel
theorem zi_152_23 : zI 152 23 = some (.invokevirtual 69, [2, 0, 1, 7, 564, 565, 19, 563, 0, 562]) := by decide +kernel
theorem zi_152_26 : zI 152 26 = some (.ireturn, []) := by decide +kernel
theorem zi_153_0 : zI 153 0 = some (.aload_n 0, []) := by decide +kernel
theorem zi_153_1 : zI 153 1 = some (.iconst 0, []) := by decide +kernel
theorem zi_153_2 : zI 153 2 = some (.putfield 55, [7, 0, 0, 1]) := by decide +kernel
theorem zi_153_5 : zI 153 5 = some (.iload_n 1, []) := by decide +kernel
theorem zi_153_6 : zI 153 6 = some (.iconst 0, []) := by decide +kernel
theorem zi_153_7 : zI 153 7 = some (.bipush 100, []) := by decide +kernel
theorem zi_153_9 : zI 153 9 = some (.invokestatic 62, [4, 1, 3, 0, 18, 0, 19, 17, 0, 16]) := by decide +kernel
theorem zi_153_12 : zI 153 12 = some (.ifCond .ne 9, [21]) := by decide +kernel
theorem zi_153_15 : zI 153 15 = some (.aload_n 0, []) := by decide +kernel
theorem zi_153_16 : zI 153 16 = some (.iconst 1, []) := by decide +kernel
theorem zi_153_17 : zI 153 17 = some (.invokevirtual 69, [2, 0, 1, 7, 564, 565, 19, 563, 0, 562]) := by decide +kernel
theorem zi_153_20 : zI 153 20 = some (.ireturn, []) := by decide +kernel
theorem zi_154_0 : zI 154 0 = some (.aload_n 0, []) := by decide +kernel
theorem zi_154_1 : zI 154 1 = some (.iconst 0, []) := by decide +kernel
theorem zi_154_2 : zI 154 2 = some (.putfield 55, [7, 0, 0, 1]) := by decide +kernel
theorem zi_154_5 : zI 154 5 = some (.iload_n 1, []) := by decide +kernel
theorem zi_154_6 : zI 154 6 = some (.iconst 0, []) := by decide +kernel
theorem zi_154_7 : zI 154 7 = some (.sipush 1000, []) := by decide +kernel
theorem zi_154_10 : zI 154 10 = some (.invokestatic 62, [4, 1, 3, 0, 18, 0, 19, 17, 0, 16]) := by decide +kernel
theorem zi_154_13 : zI 154 13 = some (.ifCond .eq 11, [24]) := by decide +kernel
theorem zi_154_16 : zI 154 16 = some (.aload_n 0, []) := by decide +kernel
theorem zi_154_17 : zI 154 17 = some (.iload_n 1, []) := by decide +kernel
theorem zi_154_18 : zI 154 18 = some (.invokevirtual 105, [45, 0, 1, 7, 30, 31, 19, 29, 0, 28]) := by decide +kernel
theorem zi_154_21 : zI 154 21 = some (.goto 8, [29]) := by decide +kernel
theorem zi_154_24 : zI 154 24 = some (.aload_n 0, []) := by decide +kernel
theorem zi_154_25 : zI 154 25 = some (.iconst 1, []) := by decide +kernel
theorem zi_154_26 : zI 154 26 = some (.invokevirtual 69, [2, 0, 1, 7, 564, 565, 19, 563, 0, 562]) := by decide +kernel
theorem zi_154_29 : zI 154 29 = some (.ireturn, []) := by decide +kernel
theorem zi_155_0 : zI 155 0 = some (.aload_n 0, []) := by decide +kernel
theorem zi_155_1 : zI 155 1 = some (.iconst 0, []) := by decide +kernel
theorem zi_155_2 : zI 155 2 = some (.putfield 55, [7, 0, 0, 1]) := by decide +kernel
theorem zi_155_5 : zI 155 5 = some (.aload_n 0, []) := by decide +kernel
theorem zi_155_6 : zI 155 6 = some (.iload_n 1, []) := by decide +kernel
theorem zi_155_7 : zI 155 7 = some (.invokevirtual 153, [18, 0, 1, 7, 580, 581, 19, 579, 0, 578]) := by decide +kernel
theorem zi_155_10 : zI 155 10 = some (.ifCond .ne 9, [19]) := by decide +kernel
theorem zi_155_13 : zI 155 13 = some (.aload_n 0, []) := by decide +kernel
theorem zi_155_14 : zI 155 14 = some (.iconst 1, []) := by decide +kernel
theorem zi_155_15 : zI 155 15 = some (.invokevirtual 69, [2, 0, 1, 7, 564, 565, 19, 563, 0, 562]) := by decide +kernel
theorem zi_155_18 : zI 155 18 = some (.ireturn, []) := by decide +kernel
theorem zi_156_0 : zI 156 0 = some (.aload_n 0, []) := by decide +kernel
theorem zi_156_1 : zI 156 1 = some (.iconst 0, []) := by decide +kernel
theorem zi_156_2 : zI 156 2 = some (.putfield 55, [7, 0, 0, 1]) := by decide +kernel
theorem zi_156_5 : zI 156 5 = some (.aload_n 0, []) := by decide +kernel
theorem zi_156_6 : zI 156 6 = some (.invokevirtual 126, [48, 0, 0, 7, 572, 573, 19, 571, 0, 570]) := by decide +kernel
theorem zi_156_9 : zI 156 9 = some (.ldc2_w 210, [58085, 622]) := by decide +kernel
theorem zi_156_12 : zI 156 12 = some (.lstore_n 1, []) := by decide +kernel
theorem zi_156_13 : zI 156 13 = some (.iconst 0, []) := by decide +kernel
theorem zi_156_14 : zI 156 14 = some (.istore_n 3, []) := by decide +kernel
theorem zi_156_15 : zI 156 15 = some (.iload_n 3, []) := by decide +kernel
theorem zi_156_16 : zI 156 16 = some (.bipush 6, []) := by decide +kernel
theorem zi_156_18 : zI 156 18 = some (.if_icmp .ge 22, [40]) := by decide +kernel
theorem zi_156_21 : zI 156 21 = some (.lload_n 1, []) := by decide +kernel
theorem zi_156_22 : zI 156 22 = some (.ldc2_w 212, [31, 623]) := by decide +kernel
theorem zi_156_25 : zI 156 25 = some (.lmul, []) := by decide +kernel
theorem zi_156_26 : zI 156 26 = some (.aload_n 0, []) := by decide +kernel
theorem zi_156_27 : zI 156 27 = some (.iload_n 3, []) := by decide +kernel
theorem zi_156_28 : zI 156 28 = some (.invokevirtual 129, [47, 0, 1, 7, 576, 577, 19, 575, 0, 574]) := by decide +kernel
theorem zi_156_31 : zI 156 31 = some (.i2l, []) := by decide +kernel
theorem zi_156_32 : zI 156 32 = some (.ladd, []) := by decide +kernel
theorem zi_156_33 : zI 156 33 = some (.lstore_n 1, []) := by decide +kernel
theorem zi_156_34 : zI 156 34 = some (.iinc 3 1, []) := by decide +kernel
theorem zi_156_37 : zI 156 37 = some (.goto (-22), [15]) := by decide +kernel
theorem zi_156_40 : zI 156 40 = some (.iconst 0, []) := by decide +kernel
theorem zi_156_41 : zI 156 41 = some (.istore_n 3, []) := by decide +kernel
theorem zi_156_42 : zI 156 42 = some (.iload_n 3, []) := by decide +kernel
theorem zi_156_43 : zI 156 43 = some (.aload_n 0, []) := by decide +kernel
theorem zi_156_44 : zI 156 44 = some (.getfield 59, [7, 1, 36]) := by decide +kernel
theorem zi_156_47 : zI 156 47 = some (.if_icmp .ge 53, [100]) := by decide +kernel
theorem zi_156_100 : zI 156 100 = some (.iconst 0, []) := by decide +kernel
theorem zi_156_101 : zI 156 101 = some (.istore_n 3, []) := by decide +kernel
theorem zi_156_102 : zI 156 102 = some (.iload_n 3, []) := by decide +kernel
theorem zi_156_103 : zI 156 103 = some (.aload_n 0, []) := by decide +kernel
theorem zi_156_104 : zI 156 104 = some (.getfield 66, [7, 10, 15]) := by decide +kernel
theorem zi_156_107 : zI 156 107 = some (.if_icmp .ge 174, [281]) := by decide +kernel
theorem zi_156_281 : zI 156 281 = some (.iconst 0, []) := by decide +kernel
theorem zi_156_282 : zI 156 282 = some (.istore_n 3, []) := by decide +kernel
theorem zi_156_283 : zI 156 283 = some (.iload_n 3, []) := by decide +kernel
theorem zi_156_284 : zI 156 284 = some (.aload_n 0, []) := by decide +kernel
theorem zi_156_285 : zI 156 285 = some (.getfield 99, [7, 13, 163]) := by decide +kernel
theorem zi_156_288 : zI 156 288 = some (.if_icmp .ge 40, [328]) := by decide +kernel
theorem zi_156_328 : zI 156 328 = some (.lload_n 1, []) := by decide +kernel
theorem zi_156_329 : zI 156 329 = some (.ldc2_w 212, [31, 623]) := by decide +kernel
theorem zi_156_332 : zI 156 332 = some (.lmul, []) := by decide +kernel
theorem zi_156_333 : zI 156 333 = some (.aload_n 0, []) := by decide +kernel
theorem zi_156_334 : zI 156 334 = some (.invokevirtual 191, [56, 0, 0, 7, 604, 605, 19, 603, 0, 602]) := by decide +kernel
theorem zi_156_337 : zI 156 337 = some (.i2l, []) := by decide +kernel
theorem zi_156_338 : zI 156 338 = some (.ladd, []) := by decide +kernel
theorem zi_156_339 : zI 156 339 = some (.lstore_n 1, []) := by decide +kernel
theorem zi_156_340 : zI 156 340 = some (.iconst 0, []) := by decide +kernel
theorem zi_156_341 : zI 156 341 = some (.istore_n 3, []) := by decide +kernel
theorem zi_156_342 : zI 156 342 = some (.iload_n 3, []) := by decide +kernel
theorem zi_156_343 : zI 156 343 = some (.aload_n 0, []) := by decide +kernel
theorem zi_156_344 : zI 156 344 = some (.getfield 111, [7, 17, 170]) := by decide +kernel
theorem zi_156_347 : zI 156 347 = some (.if_icmp .ge 39, [386]) := by decide +kernel
theorem zi_156_386 : zI 156 386 = some (.lload_n 1, []) := by decide +kernel
theorem zi_156_387 : zI 156 387 = some (.lreturn, []) := by decide +kernel
/-! THE REFERENCE WITHOUT LINES: what each call answers, what it throws -/
section MF
variable {c : Nat} {G : Nat → Nat → Int32} {v : Nat → Int32} {r : Nat → Nat} {h : zH}
theorem m_isIn {H : zH} (x lo hi : Int32) : zcalls zTB 4 [.int x, .int lo, .int hi] H (some (.int (if lo ≤ x ∧ x ≤ hi then 1 else 0)), H) := by
  refine zcalls_of (Nat.le_of_ble_eq_true rfl) ?_
  show zruns zTB 4 0 [some (.int x), some (.int lo), some (.int hi)] [] _ _
  refine zr_iload_n (pc' := 1) zi_4_0 rfl rfl ?_
  refine zr_iload_n (pc' := 2) zi_4_1 rfl rfl ?_
  refine zr_icmp (pc' := 5) zi_4_2 rfl (fun h2 => ?_) (fun h2 => ?_)
  · replace h2 := zx_lt_t h2
    refine zr_iconst (v := (nI 0)) (pc' := 15) zi_4_14 rfl rfl ?_
    rw [if_neg (fun q => Int32.lt_irrefl (Int32.lt_of_lt_of_le h2 q.1))]
    exact zr_zreturn zi_4_15 rfl (by decide)
  · replace h2 := zx_lt_f h2
    refine zr_iload_n (pc' := 6) zi_4_5 rfl rfl ?_
    refine zr_iload_n (pc' := 7) zi_4_6 rfl rfl ?_
    refine zr_icmp (pc' := 10) zi_4_7 rfl (fun h7 => ?_) (fun h7 => ?_)
    · replace h7 := zx_gt_t h7
      refine zr_iconst (v := (nI 0)) (pc' := 15) zi_4_14 rfl rfl ?_
      rw [if_neg (fun q => Int32.lt_irrefl (Int32.lt_of_lt_of_le h7 q.2))]
      exact zr_zreturn zi_4_15 rfl (by decide)
    · replace h7 := zx_gt_f h7
      refine zr_iconst (v := (nI 1)) (pc' := 11) zi_4_10 rfl rfl ?_
      refine zr_goto zi_4_11 ?_
      rw [if_pos ⟨Int32.not_lt.mp h2, Int32.not_lt.mp h7⟩]
      exact zr_zreturn zi_4_15 rfl (by decide)
theorem m_isIn1 {H : zH} {x lo hi : Int32} (q : lo ≤ x ∧ x ≤ hi) : zcalls zTB 4 [.int x, .int lo, .int hi] H (some (.int 1), H) := by
  have k := m_isIn (H := H) x lo hi
  rwa [if_pos q] at k
theorem m_isIn0 {H : zH} {x lo hi : Int32} (q : ¬ (lo ≤ x ∧ x ≤ hi)) : zcalls zTB 4 [.int x, .int lo, .int hi] H (some (.int 0), H) := by
  have k := m_isIn (H := H) x lo hi
  rwa [if_neg q] at k
theorem m_none {x z : Int32} (hz : z = 0) : ¬ (nI 0 ≤ x ∧ x ≤ z - nI 1) := by
  rintro ⟨a, b⟩
  subst hz
  exact absurd (Int32.le_trans a b) (by decide)
theorem m_thrown {H : zH} {k : Int32} {fs : List Value} (hh : H[c]? = some (.inr (7, .int k :: fs))) : zcalls zTB 131 [.ref c] H (some (.int k), H) := by
  refine zcalls_of (Nat.le_of_ble_eq_true rfl) ?_
  show zruns zTB 131 0 [some (.ref c)] [] _ _
  refine zr_aload_n (pc' := 1) zi_131_0 rfl rfl ?_
  refine zr_get (pc' := 4) zi_131_1 hh rfl rfl ?_
  exact zr_ireturn zi_131_4 rfl
theorem m_no (h1 : 1 ≤ c) (hc : c + 16 ≤ h.length) (n : Int32) : zcalls zTB 2 [.ref c, .int n] (mput c G v r h) (some (.int 0), mput c G (upd v 0 n) r h) := by
  refine zcalls_of (Nat.le_of_ble_eq_true rfl) ?_
  show zruns zTB 2 0 [some (.ref c), some (.int n)] [] _ _
  refine zr_aload_n (pc' := 1) zi_2_0 rfl rfl ?_
  refine zr_iload_n (pc' := 2) zi_2_1 rfl rfl ?_
  refine zr_put (pc' := 5) zi_2_2 (by omega) (mput_at hc (k := 0) rfl) (Nat.le_of_ble_eq_true rfl) rfl rfl (mput_set (k := 0) (v' := upd _ 0 _) hc (by decide) rfl) ?_
  refine zr_iconst (v := (nI 0)) (pc' := 6) zi_2_5 rfl rfl ?_
  exact zr_ireturn zi_2_6 rfl
theorem m_isLine (hc : c + 16 ≤ h.length) (hl : v 1 = 0) (x : Int32) : zcalls zTB 18 [.ref c, .int x] (mput c G v r h) (some (.int 0), mput c G v r h) := by
  refine zcalls_of (Nat.le_of_ble_eq_true rfl) ?_
  show zruns zTB 18 0 [some (.ref c), some (.int x)] [] _ _
  refine zr_iload_n (pc' := 1) zi_18_0 rfl rfl ?_
  refine zr_iconst (v := (nI 0)) (pc' := 2) zi_18_1 rfl rfl ?_
  refine zr_aload_n (pc' := 3) zi_18_2 rfl rfl ?_
  refine zr_get (pc' := 6) zi_18_3 (mput_at hc (k := 0) rfl) rfl rfl ?_
  refine zr_iconst (v := (nI 1)) (pc' := 7) zi_18_6 rfl rfl ?_
  refine zr_isub (pc' := 8) zi_18_7 (by first | exact pk_sub (by omega) | rfl) rfl ?_
  refine zr_s3 (pc' := 11) zi_18_8 rfl (m_isIn0 (m_none hl)) rfl ?_
  exact zr_zreturn zi_18_11 rfl (by decide)
theorem m_isTemplate (hc : c + 16 ≤ h.length) (h3 : v 3 = 0) (x : Int32) : zcalls zTB 11 [.ref c, .int x] (mput c G v r h) (some (.int 0), mput c G v r h) := by
  refine zcalls_of (Nat.le_of_ble_eq_true rfl) ?_
  show zruns zTB 11 0 [some (.ref c), some (.int x)] [] _ _
  refine zr_iload_n (pc' := 1) zi_11_0 rfl rfl ?_
  refine zr_iconst (v := (nI 0)) (pc' := 2) zi_11_1 rfl rfl ?_
  refine zr_aload_n (pc' := 3) zi_11_2 rfl rfl ?_
  refine zr_get (pc' := 6) zi_11_3 (mput_at hc (k := 0) rfl) rfl rfl ?_
  refine zr_iconst (v := (nI 1)) (pc' := 7) zi_11_6 rfl rfl ?_
  refine zr_isub (pc' := 8) zi_11_7 (by first | exact pk_sub (by omega) | rfl) rfl ?_
  refine zr_s3 (pc' := 11) zi_11_8 rfl (m_isIn0 (m_none h3)) rfl ?_
  exact zr_zreturn zi_11_11 rfl (by decide)
theorem m_tellSessions (h1 : 1 ≤ c) (hc : c + 16 ≤ h.length) (hl : v 1 = 0) (x : Int32) : zcalls zTB 45 [.ref c, .int x] (mput c G v r h) (some (.int 0), mput c G (upd v 4 0) r h) := by
  refine zcalls_of (Nat.le_of_ble_eq_true rfl) ?_
  show zruns zTB 45 0 [some (.ref c), some (.int x), none, none, none] [] _ _
  refine zr_aload_n (pc' := 1) zi_45_0 rfl rfl ?_
  refine zr_iconst (v := (nI 0)) (pc' := 2) zi_45_1 rfl rfl ?_
  refine zr_put (pc' := 5) zi_45_2 (by omega) (mput_at hc (k := 0) rfl) (Nat.le_of_ble_eq_true rfl) rfl rfl (mput_set (k := 0) (v' := upd _ 4 _) hc (by decide) rfl) ?_
  refine zr_iconst (v := (nI 0)) (pc' := 6) zi_45_5 rfl rfl ?_
  refine zr_istore_n (pc' := 7) zi_45_6 (Nat.le_of_ble_eq_true rfl) rfl rfl ?_
  dsimp only [zst1, zst2, zkill, List.set, List.getElem?_cons_succ, List.getElem?_cons_zero]
  refine zr_iload_n (pc' := 8) zi_45_7 rfl rfl ?_
  refine zr_aload_n (pc' := 9) zi_45_8 rfl rfl ?_
  refine zr_get (pc' := 12) zi_45_9 (mput_at hc (k := 0) rfl) rfl rfl ?_
  refine zr_icmpt zi_45_12 (by first | rfl | (show zcnd _ _ (v 1) = _; rw [hl]; rfl) | (show zcnd _ _ (v 2) = _; rw [h2]; rfl)) ?_
  refine zr_aload_n (pc' := 186) zi_45_185 rfl rfl ?_
  refine zr_get (pc' := 189) zi_45_186 (mput_at hc (k := 0) rfl) rfl rfl ?_
  exact zr_ireturn zi_45_189 rfl
theorem m_tellSessions_ (h1 : 1 ≤ c) (hc : c + 16 ≤ h.length) (hl : v 1 = 0) : zcalls zTB 14 [.ref c] (mput c G v r h) (none, mput c G (upd v 4 0) r h) := by
  refine zcalls_of (Nat.le_of_ble_eq_true rfl) ?_
  show zruns zTB 14 0 [some (.ref c)] [] _ _
  refine zr_aload_n (pc' := 1) zi_14_0 rfl rfl ?_
  refine zr_aload_n (pc' := 2) zi_14_1 rfl rfl ?_
  refine zr_get (pc' := 5) zi_14_2 (mput_at hc (k := 0) rfl) rfl rfl ?_
  refine zr_iconst (v := (nI 1)) (pc' := 6) zi_14_5 rfl rfl ?_
  refine zr_iald (pc' := 7) zi_14_6 (mput_at hc (k := 6) rfl) (by decide) rfl rfl ?_
  refine zr_v1 (pc' := 10) zi_14_7 (mput_at hc (k := 0) rfl) rfl (m_tellSessions h1 hc hl _) rfl ?_
  refine zr_pop (pc' := 11) zi_14_10 rfl rfl ?_
  exact zr_return zi_14_11 rfl
theorem m_tellSpikes (h1 : 1 ≤ c) (hc : c + 16 ≤ h.length) (h2 : v 2 = 0) : zcalls zTB 46 [.ref c] (mput c G v r h) (none, mput c G (upd v 5 0) r h) := by
  refine zcalls_of (Nat.le_of_ble_eq_true rfl) ?_
  show zruns zTB 46 0 [some (.ref c), none, none, none, none, none, none] [] _ _
  refine zr_aload_n (pc' := 1) zi_46_0 rfl rfl ?_
  refine zr_iconst (v := (nI 0)) (pc' := 2) zi_46_1 rfl rfl ?_
  refine zr_put (pc' := 5) zi_46_2 (by omega) (mput_at hc (k := 0) rfl) (Nat.le_of_ble_eq_true rfl) rfl rfl (mput_set (k := 0) (v' := upd _ 5 _) hc (by decide) rfl) ?_
  refine zr_iconst (v := (-1)) (pc' := 6) zi_46_5 rfl rfl ?_
  refine zr_istore_n (pc' := 7) zi_46_6 (Nat.le_of_ble_eq_true rfl) rfl rfl ?_
  dsimp only [zst1, zst2, zkill, List.set, List.getElem?_cons_succ, List.getElem?_cons_zero]
  refine zr_iconst (v := (nI 0)) (pc' := 8) zi_46_7 rfl rfl ?_
  refine zr_istore_n (pc' := 9) zi_46_8 (Nat.le_of_ble_eq_true rfl) rfl rfl ?_
  dsimp only [zst1, zst2, zkill, List.set, List.getElem?_cons_succ, List.getElem?_cons_zero]
  refine zr_iload_n (pc' := 10) zi_46_9 rfl rfl ?_
  refine zr_aload_n (pc' := 11) zi_46_10 rfl rfl ?_
  refine zr_get (pc' := 14) zi_46_11 (mput_at hc (k := 0) rfl) rfl rfl ?_
  refine zr_icmpt zi_46_14 (by first | rfl | (show zcnd _ _ (v 1) = _; rw [hl]; rfl) | (show zcnd _ _ (v 2) = _; rw [h2]; rfl)) ?_
  exact zr_return zi_46_146 rfl
theorem m_tellAll (h1 : 1 ≤ c) (hc : c + 16 ≤ h.length) (hl : v 1 = 0) (h2 : v 2 = 0) : zcalls zTB 48 [.ref c] (mput c G v r h) (none, mput c G (upd (upd v 4 0) 5 0) r h) := by
  refine zcalls_of (Nat.le_of_ble_eq_true rfl) ?_
  show zruns zTB 48 0 [some (.ref c)] [] _ _
  refine zr_aload_n (pc' := 1) zi_48_0 rfl rfl ?_
  refine zr_n0 (pc' := 4) zi_48_1 (mput_at hc (k := 0) rfl) rfl (m_tellSessions_ h1 hc hl) rfl ?_
  refine zr_aload_n (pc' := 5) zi_48_4 rfl rfl ?_
  refine zr_n0 (pc' := 8) zi_48_5 (mput_at hc (k := 0) rfl) rfl (m_tellSpikes h1 hc h2) rfl ?_
  exact zr_return zi_48_8 rfl
theorem m_manyNow0 (hc : c + 16 ≤ h.length) (hl : v 1 = 0) : zcalls zTB 47 [.ref c, .int (nI 0)] (mput c G v r h) (some (.int 0), mput c G v r h) := by
  refine zcalls_of (Nat.le_of_ble_eq_true rfl) ?_
  show zruns zTB 47 0 [some (.ref c), some (.int (nI 0)), none, none] [] _ _
  refine zr_iconst (v := (nI 0)) (pc' := 1) zi_47_0 rfl rfl ?_
  refine zr_istore_n (pc' := 2) zi_47_1 (Nat.le_of_ble_eq_true rfl) rfl rfl ?_
  dsimp only [zst1, zst2, zkill, List.set, List.getElem?_cons_succ, List.getElem?_cons_zero]
  refine zr_iload_n (pc' := 3) zi_47_2 rfl rfl ?_
  refine zr_table_in zi_47_3 0 (by decide) (by decide) rfl ?_
  refine zr_aload_n (pc' := 37) zi_47_36 rfl rfl ?_
  refine zr_get (pc' := 40) zi_47_37 (mput_at hc (k := 0) rfl) rfl rfl ?_
  rw [← hl]
  exact zr_ireturn zi_47_40 rfl
theorem m_manyNow1 (hc : c + 16 ≤ h.length) (h2 : v 2 = 0) : zcalls zTB 47 [.ref c, .int (nI 1)] (mput c G v r h) (some (.int 0), mput c G v r h) := by
  refine zcalls_of (Nat.le_of_ble_eq_true rfl) ?_
  show zruns zTB 47 0 [some (.ref c), some (.int (nI 1)), none, none] [] _ _
  refine zr_iconst (v := (nI 0)) (pc' := 1) zi_47_0 rfl rfl ?_
  refine zr_istore_n (pc' := 2) zi_47_1 (Nat.le_of_ble_eq_true rfl) rfl rfl ?_
  dsimp only [zst1, zst2, zkill, List.set, List.getElem?_cons_succ, List.getElem?_cons_zero]
  refine zr_iload_n (pc' := 3) zi_47_2 rfl rfl ?_
  refine zr_table_in zi_47_3 1 (by decide) (by decide) rfl ?_
  refine zr_aload_n (pc' := 42) zi_47_41 rfl rfl ?_
  refine zr_get (pc' := 45) zi_47_42 (mput_at hc (k := 0) rfl) rfl rfl ?_
  rw [← h2]
  exact zr_ireturn zi_47_45 rfl
theorem m_manyNow2 (hc : c + 16 ≤ h.length) (h3 : v 3 = 0) : zcalls zTB 47 [.ref c, .int (nI 2)] (mput c G v r h) (some (.int 0), mput c G v r h) := by
  refine zcalls_of (Nat.le_of_ble_eq_true rfl) ?_
  show zruns zTB 47 0 [some (.ref c), some (.int (nI 2)), none, none] [] _ _
  refine zr_iconst (v := (nI 0)) (pc' := 1) zi_47_0 rfl rfl ?_
  refine zr_istore_n (pc' := 2) zi_47_1 (Nat.le_of_ble_eq_true rfl) rfl rfl ?_
  dsimp only [zst1, zst2, zkill, List.set, List.getElem?_cons_succ, List.getElem?_cons_zero]
  refine zr_iload_n (pc' := 3) zi_47_2 rfl rfl ?_
  refine zr_table_in zi_47_3 2 (by decide) (by decide) rfl ?_
  refine zr_aload_n (pc' := 47) zi_47_46 rfl rfl ?_
  refine zr_get (pc' := 50) zi_47_47 (mput_at hc (k := 0) rfl) rfl rfl ?_
  rw [← h3]
  exact zr_ireturn zi_47_50 rfl
theorem m_manyNow3 (hc : c + 16 ≤ h.length) (h4 : v 4 = 0) : zcalls zTB 47 [.ref c, .int (nI 3)] (mput c G v r h) (some (.int 0), mput c G v r h) := by
  refine zcalls_of (Nat.le_of_ble_eq_true rfl) ?_
  show zruns zTB 47 0 [some (.ref c), some (.int (nI 3)), none, none] [] _ _
  refine zr_iconst (v := (nI 0)) (pc' := 1) zi_47_0 rfl rfl ?_
  refine zr_istore_n (pc' := 2) zi_47_1 (Nat.le_of_ble_eq_true rfl) rfl rfl ?_
  dsimp only [zst1, zst2, zkill, List.set, List.getElem?_cons_succ, List.getElem?_cons_zero]
  refine zr_iload_n (pc' := 3) zi_47_2 rfl rfl ?_
  refine zr_table_in zi_47_3 3 (by decide) (by decide) rfl ?_
  refine zr_aload_n (pc' := 52) zi_47_51 rfl rfl ?_
  refine zr_get (pc' := 55) zi_47_52 (mput_at hc (k := 0) rfl) rfl rfl ?_
  rw [← h4]
  exact zr_ireturn zi_47_55 rfl
theorem m_manyNow4 (hc : c + 16 ≤ h.length) (h4 : v 4 = 0) : zcalls zTB 47 [.ref c, .int (nI 4)] (mput c G v r h) (some (.int 0), mput c G v r h) := by
  refine zcalls_of (Nat.le_of_ble_eq_true rfl) ?_
  show zruns zTB 47 0 [some (.ref c), some (.int (nI 4)), none, none] [] _ _
  refine zr_iconst (v := (nI 0)) (pc' := 1) zi_47_0 rfl rfl ?_
  refine zr_istore_n (pc' := 2) zi_47_1 (Nat.le_of_ble_eq_true rfl) rfl rfl ?_
  dsimp only [zst1, zst2, zkill, List.set, List.getElem?_cons_succ, List.getElem?_cons_zero]
  refine zr_iload_n (pc' := 3) zi_47_2 rfl rfl ?_
  refine zr_table_in zi_47_3 4 (by decide) (by decide) rfl ?_
  refine zr_iconst (v := (nI 0)) (pc' := 57) zi_47_56 rfl rfl ?_
  refine zr_istore_n (pc' := 58) zi_47_57 (Nat.le_of_ble_eq_true rfl) rfl rfl ?_
  dsimp only [zst1, zst2, zkill, List.set, List.getElem?_cons_succ, List.getElem?_cons_zero]
  refine zr_iload_n (pc' := 59) zi_47_58 rfl rfl ?_
  refine zr_aload_n (pc' := 60) zi_47_59 rfl rfl ?_
  refine zr_get (pc' := 63) zi_47_60 (mput_at hc (k := 0) rfl) rfl rfl ?_
  refine zr_icmpt zi_47_63 (by show zcnd _ _ (v 4) = _; rw [h4]; rfl) ?_
  refine zr_iload_n (pc' := 89) zi_47_88 rfl rfl ?_
  exact zr_ireturn zi_47_89 rfl
theorem m_manyNow5 (hc : c + 16 ≤ h.length) (h5 : v 5 = 0) : zcalls zTB 47 [.ref c, .int (nI 5)] (mput c G v r h) (some (.int 0), mput c G v r h) := by
  refine zcalls_of (Nat.le_of_ble_eq_true rfl) ?_
  show zruns zTB 47 0 [some (.ref c), some (.int (nI 5)), none, none] [] _ _
  refine zr_iconst (v := (nI 0)) (pc' := 1) zi_47_0 rfl rfl ?_
  refine zr_istore_n (pc' := 2) zi_47_1 (Nat.le_of_ble_eq_true rfl) rfl rfl ?_
  dsimp only [zst1, zst2, zkill, List.set, List.getElem?_cons_succ, List.getElem?_cons_zero]
  refine zr_iload_n (pc' := 3) zi_47_2 rfl rfl ?_
  refine zr_table_out zi_47_3 (by decide) ?_
  refine zr_aload_n (pc' := 91) zi_47_90 rfl rfl ?_
  refine zr_get (pc' := 94) zi_47_91 (mput_at hc (k := 0) rfl) rfl rfl ?_
  rw [← h5]
  exact zr_ireturn zi_47_94 rfl
theorem m_usualNow (hc : c + 16 ≤ h.length) (h4 : v 4 = 0) : zcalls zTB 56 [.ref c] (mput c G v r h) (some (.int (-1)), mput c G v r h) := by
  refine zcalls_of (Nat.le_of_ble_eq_true rfl) ?_
  show zruns zTB 56 0 [some (.ref c), none, none, none, none] [] _ _
  refine zr_iconst (v := (-1)) (pc' := 1) zi_56_0 rfl rfl ?_
  refine zr_istore_n (pc' := 2) zi_56_1 (Nat.le_of_ble_eq_true rfl) rfl rfl ?_
  dsimp only [zst1, zst2, zkill, List.set, List.getElem?_cons_succ, List.getElem?_cons_zero]
  refine zr_iconst (v := (nI 0)) (pc' := 3) zi_56_2 rfl rfl ?_
  refine zr_istore_n (pc' := 4) zi_56_3 (Nat.le_of_ble_eq_true rfl) rfl rfl ?_
  dsimp only [zst1, zst2, zkill, List.set, List.getElem?_cons_succ, List.getElem?_cons_zero]
  refine zr_iconst (v := (nI 0)) (pc' := 5) zi_56_4 rfl rfl ?_
  refine zr_istore_n (pc' := 6) zi_56_5 (Nat.le_of_ble_eq_true rfl) rfl rfl ?_
  dsimp only [zst1, zst2, zkill, List.set, List.getElem?_cons_succ, List.getElem?_cons_zero]
  refine zr_iload_n (pc' := 7) zi_56_6 rfl rfl ?_
  refine zr_aload_n (pc' := 8) zi_56_7 rfl rfl ?_
  refine zr_get (pc' := 11) zi_56_8 (mput_at hc (k := 0) rfl) rfl rfl ?_
  refine zr_icmpt zi_56_11 (by show zcnd _ _ (v 4) = _; rw [h4]; rfl) ?_
  refine zr_iload_n (pc' := 42) zi_56_41 rfl rfl ?_
  exact zr_ireturn zi_56_42 rfl
/-! what is out of the range of every call: 1 is thrown -/
theorem mo_ofLine (h1 : 1 ≤ c) (hc : c + 16 ≤ h.length) (hl : v 1 = 0) (h2 : v 2 = 0) (h3 : v 3 = 0) (x : Int32) (w : Int32) : zMo c (mput c G v r h) 138 [.ref c, .int x, .int w] 1 (.int 0) := by
  refine zev_calls (Nat.le_of_ble_eq_true rfl) ?_
  show zev 138 0 [some (.ref c), some (.int x), some (.int w)] [] _ _
  refine zev_of (fun _ kk => zr_aload_n (pc' := 1) zi_138_0 rfl rfl kk) ?_
  refine zev_of (fun _ kk => zr_iconst (v := (nI 0)) (pc' := 2) zi_138_1 rfl rfl kk) ?_
  refine zev_of (fun _ kk => zr_put (pc' := 5) zi_138_2 (by omega) (mput_at hc (k := 0) rfl) (Nat.le_of_ble_eq_true rfl) rfl rfl (mput_set (k := 0) (v' := upd _ 0 _) hc (by decide) rfl) kk) ?_
  refine zev_of (fun _ kk => zr_aload_n (pc' := 6) zi_138_5 rfl rfl kk) ?_
  refine zev_of (fun _ kk => zr_iload_n (pc' := 7) zi_138_6 rfl rfl kk) ?_
  refine zev_of (fun _ kk => zr_v1 (pc' := 10) zi_138_7 (mput_at hc (k := 0) rfl) rfl (m_isLine hc (by exact hl) _) rfl kk) ?_
  refine zev_of (fun _ kk => zr_iff (pc' := 13) zi_138_10 rfl rfl kk) ?_
  refine zev_of (fun _ kk => zr_aload_n (pc' := 14) zi_138_13 rfl rfl kk) ?_
  refine zev_of (fun _ kk => zr_iconst (v := (nI 1)) (pc' := 15) zi_138_14 rfl rfl kk) ?_
  refine zev_of (fun _ kk => zr_v1 (pc' := 18) zi_138_15 (mput_at hc (k := 0) rfl) rfl (m_no h1 hc _) rfl kk) ?_
  refine zev_ret (zr_ireturn zi_138_18 rfl) ?_
  exact mq_of hc rfl rfl
theorem mo_wordAt (h1 : 1 ≤ c) (hc : c + 16 ≤ h.length) (hl : v 1 = 0) (h2 : v 2 = 0) (h3 : v 3 = 0) (x : Int32) (w : Int32) : zMo c (mput c G v r h) 139 [.ref c, .int x, .int w] 1 (.int 0) := by
  refine zev_calls (Nat.le_of_ble_eq_true rfl) ?_
  show zev 139 0 [some (.ref c), some (.int x), some (.int w)] [] _ _
  refine zev_of (fun _ kk => zr_aload_n (pc' := 1) zi_139_0 rfl rfl kk) ?_
  refine zev_of (fun _ kk => zr_iconst (v := (nI 0)) (pc' := 2) zi_139_1 rfl rfl kk) ?_
  refine zev_of (fun _ kk => zr_put (pc' := 5) zi_139_2 (by omega) (mput_at hc (k := 0) rfl) (Nat.le_of_ble_eq_true rfl) rfl rfl (mput_set (k := 0) (v' := upd _ 0 _) hc (by decide) rfl) kk) ?_
  refine zev_of (fun _ kk => zr_aload_n (pc' := 6) zi_139_5 rfl rfl kk) ?_
  refine zev_of (fun _ kk => zr_iload_n (pc' := 7) zi_139_6 rfl rfl kk) ?_
  refine zev_of (fun _ kk => zr_v1 (pc' := 10) zi_139_7 (mput_at hc (k := 0) rfl) rfl (m_isLine hc (by exact hl) _) rfl kk) ?_
  refine zev_of (fun _ kk => zr_ift zi_139_10 rfl kk) ?_
  refine zev_of (fun _ kk => zr_aload_n (pc' := 44) zi_139_43 rfl rfl kk) ?_
  refine zev_of (fun _ kk => zr_iconst (v := (nI 1)) (pc' := 45) zi_139_44 rfl rfl kk) ?_
  refine zev_of (fun _ kk => zr_v1 (pc' := 48) zi_139_45 (mput_at hc (k := 0) rfl) rfl (m_no h1 hc _) rfl kk) ?_
  refine zev_ret (zr_ireturn zi_139_48 rfl) ?_
  exact mq_of hc rfl rfl
theorem mo_ofTemplate (h1 : 1 ≤ c) (hc : c + 16 ≤ h.length) (hl : v 1 = 0) (h2 : v 2 = 0) (h3 : v 3 = 0) (x : Int32) (w : Int32) : zMo c (mput c G v r h) 140 [.ref c, .int x, .int w] 1 (.int 0) := by
  refine zev_calls (Nat.le_of_ble_eq_true rfl) ?_
  show zev 140 0 [some (.ref c), some (.int x), some (.int w)] [] _ _
  refine zev_of (fun _ kk => zr_aload_n (pc' := 1) zi_140_0 rfl rfl kk) ?_
  refine zev_of (fun _ kk => zr_iconst (v := (nI 0)) (pc' := 2) zi_140_1 rfl rfl kk) ?_
  refine zev_of (fun _ kk => zr_put (pc' := 5) zi_140_2 (by omega) (mput_at hc (k := 0) rfl) (Nat.le_of_ble_eq_true rfl) rfl rfl (mput_set (k := 0) (v' := upd _ 0 _) hc (by decide) rfl) kk) ?_
  refine zev_of (fun _ kk => zr_aload_n (pc' := 6) zi_140_5 rfl rfl kk) ?_
  refine zev_of (fun _ kk => zr_iload_n (pc' := 7) zi_140_6 rfl rfl kk) ?_
  refine zev_of (fun _ kk => zr_v1 (pc' := 10) zi_140_7 (mput_at hc (k := 0) rfl) rfl (m_isTemplate hc (by exact h3) _) rfl kk) ?_
  refine zev_of (fun _ kk => zr_iff (pc' := 13) zi_140_10 rfl rfl kk) ?_
  refine zev_of (fun _ kk => zr_aload_n (pc' := 14) zi_140_13 rfl rfl kk) ?_
  refine zev_of (fun _ kk => zr_iconst (v := (nI 1)) (pc' := 15) zi_140_14 rfl rfl kk) ?_
  refine zev_of (fun _ kk => zr_v1 (pc' := 18) zi_140_15 (mput_at hc (k := 0) rfl) rfl (m_no h1 hc _) rfl kk) ?_
  refine zev_ret (zr_ireturn zi_140_18 rfl) ?_
  exact mq_of hc rfl rfl
theorem mo_slot (h1 : 1 ≤ c) (hc : c + 16 ≤ h.length) (hl : v 1 = 0) (h2 : v 2 = 0) (h3 : v 3 = 0) (x : Int32) (w : Int32) : zMo c (mput c G v r h) 141 [.ref c, .int x, .int w] 1 (.int 0) := by
  refine zev_calls (Nat.le_of_ble_eq_true rfl) ?_
  show zev 141 0 [some (.ref c), some (.int x), some (.int w)] [] _ _
  refine zev_of (fun _ kk => zr_aload_n (pc' := 1) zi_141_0 rfl rfl kk) ?_
  refine zev_of (fun _ kk => zr_iconst (v := (nI 0)) (pc' := 2) zi_141_1 rfl rfl kk) ?_
  refine zev_of (fun _ kk => zr_put (pc' := 5) zi_141_2 (by omega) (mput_at hc (k := 0) rfl) (Nat.le_of_ble_eq_true rfl) rfl rfl (mput_set (k := 0) (v' := upd _ 0 _) hc (by decide) rfl) kk) ?_
  refine zev_of (fun _ kk => zr_aload_n (pc' := 6) zi_141_5 rfl rfl kk) ?_
  refine zev_of (fun _ kk => zr_iload_n (pc' := 7) zi_141_6 rfl rfl kk) ?_
  refine zev_of (fun _ kk => zr_v1 (pc' := 10) zi_141_7 (mput_at hc (k := 0) rfl) rfl (m_isTemplate hc (by exact h3) _) rfl kk) ?_
  refine zev_of (fun _ kk => zr_ift zi_141_10 rfl kk) ?_
  refine zev_of (fun _ kk => zr_aload_n (pc' := 44) zi_141_43 rfl rfl kk) ?_
  refine zev_of (fun _ kk => zr_iconst (v := (nI 1)) (pc' := 45) zi_141_44 rfl rfl kk) ?_
  refine zev_of (fun _ kk => zr_v1 (pc' := 48) zi_141_45 (mput_at hc (k := 0) rfl) rfl (m_no h1 hc _) rfl kk) ?_
  refine zev_ret (zr_ireturn zi_141_48 rfl) ?_
  exact mq_of hc rfl rfl
theorem mo_values (h1 : 1 ≤ c) (hc : c + 16 ≤ h.length) (hl : v 1 = 0) (h2 : v 2 = 0) (h3 : v 3 = 0) (x : Int32) (w : Int32) : zMo c (mput c G v r h) 142 [.ref c, .int x, .int w] 1 (.int 0) := by
  refine zev_calls (Nat.le_of_ble_eq_true rfl) ?_
  show zev 142 0 [some (.ref c), some (.int x), some (.int w)] [] _ _
  refine zev_of (fun _ kk => zr_aload_n (pc' := 1) zi_142_0 rfl rfl kk) ?_
  refine zev_of (fun _ kk => zr_iconst (v := (nI 0)) (pc' := 2) zi_142_1 rfl rfl kk) ?_
  refine zev_of (fun _ kk => zr_put (pc' := 5) zi_142_2 (by omega) (mput_at hc (k := 0) rfl) (Nat.le_of_ble_eq_true rfl) rfl rfl (mput_set (k := 0) (v' := upd _ 0 _) hc (by decide) rfl) kk) ?_
  refine zev_of (fun _ kk => zr_aload_n (pc' := 6) zi_142_5 rfl rfl kk) ?_
  refine zev_of (fun _ kk => zr_iload_n (pc' := 7) zi_142_6 rfl rfl kk) ?_
  refine zev_of (fun _ kk => zr_v1 (pc' := 10) zi_142_7 (mput_at hc (k := 0) rfl) rfl (m_isTemplate hc (by exact h3) _) rfl kk) ?_
  refine zev_of (fun _ kk => zr_ift zi_142_10 rfl kk) ?_
  refine zev_of (fun _ kk => zr_aload_n (pc' := 38) zi_142_37 rfl rfl kk) ?_
  refine zev_of (fun _ kk => zr_iconst (v := (nI 1)) (pc' := 39) zi_142_38 rfl rfl kk) ?_
  refine zev_of (fun _ kk => zr_v1 (pc' := 42) zi_142_39 (mput_at hc (k := 0) rfl) rfl (m_no h1 hc _) rfl kk) ?_
  refine zev_ret (zr_ireturn zi_142_42 rfl) ?_
  exact mq_of hc rfl rfl
theorem mo_alike (h1 : 1 ≤ c) (hc : c + 16 ≤ h.length) (hl : v 1 = 0) (h2 : v 2 = 0) (h3 : v 3 = 0) (x : Int32) (w : Int32) : zMo c (mput c G v r h) 143 [.ref c, .int x, .int w] 1 (.int 0) := by
  refine zev_calls (Nat.le_of_ble_eq_true rfl) ?_
  show zev 143 0 [some (.ref c), some (.int x), some (.int w)] [] _ _
  refine zev_of (fun _ kk => zr_aload_n (pc' := 1) zi_143_0 rfl rfl kk) ?_
  refine zev_of (fun _ kk => zr_iconst (v := (nI 0)) (pc' := 2) zi_143_1 rfl rfl kk) ?_
  refine zev_of (fun _ kk => zr_put (pc' := 5) zi_143_2 (by omega) (mput_at hc (k := 0) rfl) (Nat.le_of_ble_eq_true rfl) rfl rfl (mput_set (k := 0) (v' := upd _ 0 _) hc (by decide) rfl) kk) ?_
  refine zev_of (fun _ kk => zr_aload_n (pc' := 6) zi_143_5 rfl rfl kk) ?_
  refine zev_of (fun _ kk => zr_iload_n (pc' := 7) zi_143_6 rfl rfl kk) ?_
  refine zev_of (fun _ kk => zr_v1 (pc' := 10) zi_143_7 (mput_at hc (k := 0) rfl) rfl (m_isLine hc (by exact hl) _) rfl kk) ?_
  refine zev_of (fun _ kk => zr_ift zi_143_10 rfl kk) ?_
  refine zev_of (fun _ kk => zr_aload_n (pc' := 22) zi_143_21 rfl rfl kk) ?_
  refine zev_of (fun _ kk => zr_iconst (v := (nI 1)) (pc' := 23) zi_143_22 rfl rfl kk) ?_
  refine zev_of (fun _ kk => zr_v1 (pc' := 26) zi_143_23 (mput_at hc (k := 0) rfl) rfl (m_no h1 hc _) rfl kk) ?_
  refine zev_ret (zr_ireturn zi_143_26 rfl) ?_
  exact mq_of hc rfl rfl
theorem mo_count (h1 : 1 ≤ c) (hc : c + 16 ≤ h.length) (hl : v 1 = 0) (h2 : v 2 = 0) (h3 : v 3 = 0) (x : Int32) (w : Int32) : zMo c (mput c G v r h) 148 [.ref c, .int x, .int w] 1 (.int 0) := by
  refine zev_calls (Nat.le_of_ble_eq_true rfl) ?_
  show zev 148 0 [some (.ref c), some (.int x), some (.int w)] [] _ _
  refine zev_of (fun _ kk => zr_aload_n (pc' := 1) zi_148_0 rfl rfl kk) ?_
  refine zev_of (fun _ kk => zr_iconst (v := (nI 0)) (pc' := 2) zi_148_1 rfl rfl kk) ?_
  refine zev_of (fun _ kk => zr_put (pc' := 5) zi_148_2 (by omega) (mput_at hc (k := 0) rfl) (Nat.le_of_ble_eq_true rfl) rfl rfl (mput_set (k := 0) (v' := upd _ 0 _) hc (by decide) rfl) kk) ?_
  refine zev_of (fun _ kk => zr_aload_n (pc' := 6) zi_148_5 rfl rfl kk) ?_
  refine zev_of (fun _ kk => zr_iload_n (pc' := 7) zi_148_6 rfl rfl kk) ?_
  refine zev_of (fun _ kk => zr_v1 (pc' := 10) zi_148_7 (mput_at hc (k := 0) rfl) rfl (m_isTemplate hc (by exact h3) _) rfl kk) ?_
  refine zev_of (fun _ kk => zr_iff (pc' := 13) zi_148_10 rfl rfl kk) ?_
  refine zev_of (fun _ kk => zr_aload_n (pc' := 14) zi_148_13 rfl rfl kk) ?_
  refine zev_of (fun _ kk => zr_iconst (v := (nI 1)) (pc' := 15) zi_148_14 rfl rfl kk) ?_
  refine zev_of (fun _ kk => zr_v1 (pc' := 18) zi_148_15 (mput_at hc (k := 0) rfl) rfl (m_no h1 hc _) rfl kk) ?_
  refine zev_ret (zr_ireturn zi_148_18 rfl) ?_
  exact mq_of hc rfl rfl
theorem mo_causes (h1 : 1 ≤ c) (hc : c + 16 ≤ h.length) (hl : v 1 = 0) (h2 : v 2 = 0) (h3 : v 3 = 0) (x : Int32) : zMo c (mput c G v r h) 150 [.ref c, .int x] 1 (.int 0) := by
  refine zev_calls (Nat.le_of_ble_eq_true rfl) ?_
  show zev 150 0 [some (.ref c), some (.int x)] [] _ _
  refine zev_of (fun _ kk => zr_aload_n (pc' := 1) zi_150_0 rfl rfl kk) ?_
  refine zev_of (fun _ kk => zr_iconst (v := (nI 0)) (pc' := 2) zi_150_1 rfl rfl kk) ?_
  refine zev_of (fun _ kk => zr_put (pc' := 5) zi_150_2 (by omega) (mput_at hc (k := 0) rfl) (Nat.le_of_ble_eq_true rfl) rfl rfl (mput_set (k := 0) (v' := upd _ 0 _) hc (by decide) rfl) kk) ?_
  refine zev_of (fun _ kk => zr_aload_n (pc' := 6) zi_150_5 rfl rfl kk) ?_
  refine zev_of (fun _ kk => zr_iload_n (pc' := 7) zi_150_6 rfl rfl kk) ?_
  refine zev_of (fun _ kk => zr_v1 (pc' := 10) zi_150_7 (mput_at hc (k := 0) rfl) rfl (m_isTemplate hc (by exact h3) _) rfl kk) ?_
  refine zev_of (fun _ kk => zr_iff (pc' := 13) zi_150_10 rfl rfl kk) ?_
  refine zev_of (fun _ kk => zr_aload_n (pc' := 14) zi_150_13 rfl rfl kk) ?_
  refine zev_of (fun _ kk => zr_iconst (v := (nI 1)) (pc' := 15) zi_150_14 rfl rfl kk) ?_
  refine zev_of (fun _ kk => zr_v1 (pc' := 18) zi_150_15 (mput_at hc (k := 0) rfl) rfl (m_no h1 hc _) rfl kk) ?_
  refine zev_ret (zr_ireturn zi_150_18 rfl) ?_
  exact mq_of hc rfl rfl
theorem mo_cause (h1 : 1 ≤ c) (hc : c + 16 ≤ h.length) (hl : v 1 = 0) (h2 : v 2 = 0) (h3 : v 3 = 0) (x : Int32) (w : Int32) (z : Int32) : zMo c (mput c G v r h) 151 [.ref c, .int x, .int w, .int z] 1 (.int 0) := by
  refine zev_calls (Nat.le_of_ble_eq_true rfl) ?_
  show zev 151 0 [some (.ref c), some (.int x), some (.int w), some (.int z)] [] _ _
  refine zev_of (fun _ kk => zr_aload_n (pc' := 1) zi_151_0 rfl rfl kk) ?_
  refine zev_of (fun _ kk => zr_iconst (v := (nI 0)) (pc' := 2) zi_151_1 rfl rfl kk) ?_
  refine zev_of (fun _ kk => zr_put (pc' := 5) zi_151_2 (by omega) (mput_at hc (k := 0) rfl) (Nat.le_of_ble_eq_true rfl) rfl rfl (mput_set (k := 0) (v' := upd _ 0 _) hc (by decide) rfl) kk) ?_
  refine zev_of (fun _ kk => zr_aload_n (pc' := 6) zi_151_5 rfl rfl kk) ?_
  refine zev_of (fun _ kk => zr_iload_n (pc' := 7) zi_151_6 rfl rfl kk) ?_
  refine zev_of (fun _ kk => zr_v1 (pc' := 10) zi_151_7 (mput_at hc (k := 0) rfl) rfl (m_isTemplate hc (by exact h3) _) rfl kk) ?_
  refine zev_of (fun _ kk => zr_iff (pc' := 13) zi_151_10 rfl rfl kk) ?_
  refine zev_of (fun _ kk => zr_aload_n (pc' := 14) zi_151_13 rfl rfl kk) ?_
  refine zev_of (fun _ kk => zr_iconst (v := (nI 1)) (pc' := 15) zi_151_14 rfl rfl kk) ?_
  refine zev_of (fun _ kk => zr_v1 (pc' := 18) zi_151_15 (mput_at hc (k := 0) rfl) rfl (m_no h1 hc _) rfl kk) ?_
  refine zev_ret (zr_ireturn zi_151_18 rfl) ?_
  exact mq_of hc rfl rfl
theorem mo_because (h1 : 1 ≤ c) (hc : c + 16 ≤ h.length) (hl : v 1 = 0) (h2 : v 2 = 0) (h3 : v 3 = 0) (x : Int32) : zMo c (mput c G v r h) 152 [.ref c, .int x] 1 (.int 0) := by
  refine zev_calls (Nat.le_of_ble_eq_true rfl) ?_
  show zev 152 0 [some (.ref c), some (.int x)] [] _ _
  refine zev_of (fun _ kk => zr_aload_n (pc' := 1) zi_152_0 rfl rfl kk) ?_
  refine zev_of (fun _ kk => zr_iconst (v := (nI 0)) (pc' := 2) zi_152_1 rfl rfl kk) ?_
  refine zev_of (fun _ kk => zr_put (pc' := 5) zi_152_2 (by omega) (mput_at hc (k := 0) rfl) (Nat.le_of_ble_eq_true rfl) rfl rfl (mput_set (k := 0) (v' := upd _ 0 _) hc (by decide) rfl) kk) ?_
  refine zev_of (fun _ kk => zr_aload_n (pc' := 6) zi_152_5 rfl rfl kk) ?_
  refine zev_of (fun _ kk => zr_iload_n (pc' := 7) zi_152_6 rfl rfl kk) ?_
  refine zev_of (fun _ kk => zr_v1 (pc' := 10) zi_152_7 (mput_at hc (k := 0) rfl) rfl (m_isLine hc (by exact hl) _) rfl kk) ?_
  refine zev_of (fun _ kk => zr_ift zi_152_10 rfl kk) ?_
  refine zev_of (fun _ kk => zr_aload_n (pc' := 22) zi_152_21 rfl rfl kk) ?_
  refine zev_of (fun _ kk => zr_iconst (v := (nI 1)) (pc' := 23) zi_152_22 rfl rfl kk) ?_
  refine zev_of (fun _ kk => zr_v1 (pc' := 26) zi_152_23 (mput_at hc (k := 0) rfl) rfl (m_no h1 hc _) rfl kk) ?_
  refine zev_ret (zr_ireturn zi_152_26 rfl) ?_
  exact mq_of hc rfl rfl
theorem mo_wouldBe (h1 : 1 ≤ c) (hc : c + 16 ≤ h.length) (hl : v 1 = 0) (h2 : v 2 = 0) (h3 : v 3 = 0) (x : Int32) : zMo c (mput c G v r h) 155 [.ref c, .int x] 1 (.int 0) := by
  refine zev_calls (Nat.le_of_ble_eq_true rfl) ?_
  show zev 155 0 [some (.ref c), some (.int x), none, none] [] _ _
  refine zev_of (fun _ kk => zr_aload_n (pc' := 1) zi_155_0 rfl rfl kk) ?_
  refine zev_of (fun _ kk => zr_iconst (v := (nI 0)) (pc' := 2) zi_155_1 rfl rfl kk) ?_
  refine zev_of (fun _ kk => zr_put (pc' := 5) zi_155_2 (by omega) (mput_at hc (k := 0) rfl) (Nat.le_of_ble_eq_true rfl) rfl rfl (mput_set (k := 0) (v' := upd _ 0 _) hc (by decide) rfl) kk) ?_
  refine zev_of (fun _ kk => zr_aload_n (pc' := 6) zi_155_5 rfl rfl kk) ?_
  refine zev_of (fun _ kk => zr_iload_n (pc' := 7) zi_155_6 rfl rfl kk) ?_
  refine zev_of (fun _ kk => zr_v1 (pc' := 10) zi_155_7 (mput_at hc (k := 0) rfl) rfl (m_isLine hc (by exact hl) _) rfl kk) ?_
  refine zev_of (fun _ kk => zr_iff (pc' := 13) zi_155_10 rfl rfl kk) ?_
  refine zev_of (fun _ kk => zr_aload_n (pc' := 14) zi_155_13 rfl rfl kk) ?_
  refine zev_of (fun _ kk => zr_iconst (v := (nI 1)) (pc' := 15) zi_155_14 rfl rfl kk) ?_
  refine zev_of (fun _ kk => zr_v1 (pc' := 18) zi_155_15 (mput_at hc (k := 0) rfl) rfl (m_no h1 hc _) rfl kk) ?_
  refine zev_ret (zr_ireturn zi_155_18 rfl) ?_
  exact mq_of hc rfl rfl
theorem mo_ofSession (h1 : 1 ≤ c) (hc : c + 16 ≤ h.length) (hl : v 1 = 0) (h2 : v 2 = 0) (h3 : v 3 = 0) (x : Int32) (w : Int32) : zMo c (mput c G v r h) 144 [.ref c, .int x, .int w] 1 (.int 0) := by
  refine zev_calls (Nat.le_of_ble_eq_true rfl) ?_
  show zev 144 0 [some (.ref c), some (.int x), some (.int w)] [] _ _
  refine zev_of (fun _ kk => zr_aload_n (pc' := 1) zi_144_0 rfl rfl kk) ?_
  refine zev_of (fun _ kk => zr_iconst (v := (nI 0)) (pc' := 2) zi_144_1 rfl rfl kk) ?_
  refine zev_of (fun _ kk => zr_put (pc' := 5) zi_144_2 (by omega) (mput_at hc (k := 0) rfl) (Nat.le_of_ble_eq_true rfl) rfl rfl (mput_set (k := 0) (v' := upd _ 0 _) hc (by decide) rfl) kk) ?_
  refine zev_of (fun _ kk => zr_aload_n (pc' := 6) zi_144_5 rfl rfl kk) ?_
  refine zev_of (fun _ kk => zr_n0 (pc' := 9) zi_144_6 (mput_at hc (k := 0) rfl) rfl (m_tellSessions_ h1 hc (by exact hl)) rfl kk) ?_
  refine zev_of (fun _ kk => zr_iload_n (pc' := 10) zi_144_9 rfl rfl kk) ?_
  refine zev_of (fun _ kk => zr_iconst (v := (nI 0)) (pc' := 11) zi_144_10 rfl rfl kk) ?_
  refine zev_of (fun _ kk => zr_aload_n (pc' := 12) zi_144_11 rfl rfl kk) ?_
  refine zev_of (fun _ kk => zr_get (pc' := 15) zi_144_12 (mput_at hc (k := 0) rfl) rfl rfl kk) ?_
  refine zev_of (fun _ kk => zr_iconst (v := (nI 1)) (pc' := 16) zi_144_15 rfl rfl kk) ?_
  refine zev_of (fun _ kk => zr_isub (pc' := 17) zi_144_16 (by first | exact pk_sub (by omega) | rfl) rfl kk) ?_
  refine zev_of (fun _ kk => zr_s3 (pc' := 20) zi_144_17 rfl (m_isIn0 (m_none rfl)) rfl kk) ?_
  refine zev_of (fun _ kk => zr_iff (pc' := 23) zi_144_20 rfl rfl kk) ?_
  refine zev_of (fun _ kk => zr_aload_n (pc' := 24) zi_144_23 rfl rfl kk) ?_
  refine zev_of (fun _ kk => zr_iconst (v := (nI 1)) (pc' := 25) zi_144_24 rfl rfl kk) ?_
  refine zev_of (fun _ kk => zr_v1 (pc' := 28) zi_144_25 (mput_at hc (k := 0) rfl) rfl (m_no h1 hc _) rfl kk) ?_
  refine zev_ret (zr_ireturn zi_144_28 rfl) ?_
  exact mq_of hc rfl rfl
theorem mo_inSession (h1 : 1 ≤ c) (hc : c + 16 ≤ h.length) (hl : v 1 = 0) (h2 : v 2 = 0) (h3 : v 3 = 0) (x : Int32) (w : Int32) : zMo c (mput c G v r h) 145 [.ref c, .int x, .int w] 1 (.int 0) := by
  refine zev_calls (Nat.le_of_ble_eq_true rfl) ?_
  show zev 145 0 [some (.ref c), some (.int x), some (.int w), none, none] [] _ _
  refine zev_of (fun _ kk => zr_aload_n (pc' := 1) zi_145_0 rfl rfl kk) ?_
  refine zev_of (fun _ kk => zr_iconst (v := (nI 0)) (pc' := 2) zi_145_1 rfl rfl kk) ?_
  refine zev_of (fun _ kk => zr_put (pc' := 5) zi_145_2 (by omega) (mput_at hc (k := 0) rfl) (Nat.le_of_ble_eq_true rfl) rfl rfl (mput_set (k := 0) (v' := upd _ 0 _) hc (by decide) rfl) kk) ?_
  refine zev_of (fun _ kk => zr_aload_n (pc' := 6) zi_145_5 rfl rfl kk) ?_
  refine zev_of (fun _ kk => zr_n0 (pc' := 9) zi_145_6 (mput_at hc (k := 0) rfl) rfl (m_tellSessions_ h1 hc (by exact hl)) rfl kk) ?_
  refine zev_of (fun _ kk => zr_iload_n (pc' := 10) zi_145_9 rfl rfl kk) ?_
  refine zev_of (fun _ kk => zr_iconst (v := (nI 0)) (pc' := 11) zi_145_10 rfl rfl kk) ?_
  refine zev_of (fun _ kk => zr_aload_n (pc' := 12) zi_145_11 rfl rfl kk) ?_
  refine zev_of (fun _ kk => zr_get (pc' := 15) zi_145_12 (mput_at hc (k := 0) rfl) rfl rfl kk) ?_
  refine zev_of (fun _ kk => zr_iconst (v := (nI 1)) (pc' := 16) zi_145_15 rfl rfl kk) ?_
  refine zev_of (fun _ kk => zr_isub (pc' := 17) zi_145_16 (by first | exact pk_sub (by omega) | rfl) rfl kk) ?_
  refine zev_of (fun _ kk => zr_s3 (pc' := 20) zi_145_17 rfl (m_isIn0 (m_none rfl)) rfl kk) ?_
  refine zev_of (fun _ kk => zr_ift zi_145_20 rfl kk) ?_
  refine zev_of (fun _ kk => zr_aload_n (pc' := 28) zi_145_27 rfl rfl kk) ?_
  refine zev_of (fun _ kk => zr_iconst (v := (nI 1)) (pc' := 29) zi_145_28 rfl rfl kk) ?_
  refine zev_of (fun _ kk => zr_v1 (pc' := 32) zi_145_29 (mput_at hc (k := 0) rfl) rfl (m_no h1 hc _) rfl kk) ?_
  refine zev_ret (zr_ireturn zi_145_32 rfl) ?_
  exact mq_of hc rfl rfl
theorem mo_spike (h1 : 1 ≤ c) (hc : c + 16 ≤ h.length) (hl : v 1 = 0) (h2 : v 2 = 0) (h3 : v 3 = 0) (x : Int32) (w : Int32) : zMo c (mput c G v r h) 149 [.ref c, .int x, .int w] 1 (.int 0) := by
  refine zev_calls (Nat.le_of_ble_eq_true rfl) ?_
  show zev 149 0 [some (.ref c), some (.int x), some (.int w)] [] _ _
  refine zev_of (fun _ kk => zr_aload_n (pc' := 1) zi_149_0 rfl rfl kk) ?_
  refine zev_of (fun _ kk => zr_iconst (v := (nI 0)) (pc' := 2) zi_149_1 rfl rfl kk) ?_
  refine zev_of (fun _ kk => zr_put (pc' := 5) zi_149_2 (by omega) (mput_at hc (k := 0) rfl) (Nat.le_of_ble_eq_true rfl) rfl rfl (mput_set (k := 0) (v' := upd _ 0 _) hc (by decide) rfl) kk) ?_
  refine zev_of (fun _ kk => zr_aload_n (pc' := 6) zi_149_5 rfl rfl kk) ?_
  refine zev_of (fun _ kk => zr_n0 (pc' := 9) zi_149_6 (mput_at hc (k := 0) rfl) rfl (m_tellSpikes h1 hc (by exact h2)) rfl kk) ?_
  refine zev_of (fun _ kk => zr_iload_n (pc' := 10) zi_149_9 rfl rfl kk) ?_
  refine zev_of (fun _ kk => zr_iconst (v := (nI 0)) (pc' := 11) zi_149_10 rfl rfl kk) ?_
  refine zev_of (fun _ kk => zr_aload_n (pc' := 12) zi_149_11 rfl rfl kk) ?_
  refine zev_of (fun _ kk => zr_get (pc' := 15) zi_149_12 (mput_at hc (k := 0) rfl) rfl rfl kk) ?_
  refine zev_of (fun _ kk => zr_iconst (v := (nI 1)) (pc' := 16) zi_149_15 rfl rfl kk) ?_
  refine zev_of (fun _ kk => zr_isub (pc' := 17) zi_149_16 (by first | exact pk_sub (by omega) | rfl) rfl kk) ?_
  refine zev_of (fun _ kk => zr_s3 (pc' := 20) zi_149_17 rfl (m_isIn0 (m_none rfl)) rfl kk) ?_
  refine zev_of (fun _ kk => zr_iff (pc' := 23) zi_149_20 rfl rfl kk) ?_
  refine zev_of (fun _ kk => zr_aload_n (pc' := 24) zi_149_23 rfl rfl kk) ?_
  refine zev_of (fun _ kk => zr_iconst (v := (nI 1)) (pc' := 25) zi_149_24 rfl rfl kk) ?_
  refine zev_of (fun _ kk => zr_v1 (pc' := 28) zi_149_25 (mput_at hc (k := 0) rfl) rfl (m_no h1 hc _) rfl kk) ?_
  refine zev_ret (zr_ireturn zi_149_28 rfl) ?_
  exact mq_of hc rfl rfl
/-! what has a range -/
theorem mo_line_a (h1 : 1 ≤ c) (hc : c + 16 ≤ h.length) (hl : v 1 = 0) (h2 : v 2 = 0) (h3 : v 3 = 0) (t : Int32) (y : Int32) (z : Int32) (q : ¬ (nI 0 ≤ t ∧ t ≤ nI 9999)) : zMo c (mput c G v r h) 132 [.ref c, .int t, .int y, .int z] 1 (.int 0) := by
  refine zev_calls (Nat.le_of_ble_eq_true rfl) ?_
  show zev 132 0 [some (.ref c), some (.int t), some (.int y), some (.int z)] [] _ _
  refine zev_of (fun _ kk => zr_aload_n (pc' := 1) zi_132_0 rfl rfl kk) ?_
  refine zev_of (fun _ kk => zr_iconst (v := (nI 0)) (pc' := 2) zi_132_1 rfl rfl kk) ?_
  refine zev_of (fun _ kk => zr_put (pc' := 5) zi_132_2 (by omega) (mput_at hc (k := 0) rfl) (Nat.le_of_ble_eq_true rfl) rfl rfl (mput_set (k := 0) (v' := upd _ 0 _) hc (by decide) rfl) kk) ?_
  refine zev_of (fun _ kk => zr_iload_n (pc' := 6) zi_132_5 rfl rfl kk) ?_
  refine zev_of (fun _ kk => zr_iconst (v := (nI 0)) (pc' := 7) zi_132_6 rfl rfl kk) ?_
  refine zev_of (fun _ kk => zr_sipush (v := (nI 9999)) (pc' := 10) zi_132_7 rfl rfl kk) ?_
  refine zev_of (fun _ kk => zr_s3 (pc' := 13) zi_132_10 rfl (m_isIn0 q) rfl kk) ?_
  refine zev_of (fun _ kk => zr_ift zi_132_13 rfl kk) ?_
  refine zev_of (fun _ kk => zr_aload_n (pc' := 36) zi_132_35 rfl rfl kk) ?_
  refine zev_of (fun _ kk => zr_iconst (v := (nI 1)) (pc' := 37) zi_132_36 rfl rfl kk) ?_
  refine zev_of (fun _ kk => zr_v1 (pc' := 40) zi_132_37 (mput_at hc (k := 0) rfl) rfl (m_no h1 hc _) rfl kk) ?_
  refine zev_ret (zr_ireturn zi_132_40 rfl) ?_
  exact mq_of hc rfl rfl
theorem mo_line_b (h1 : 1 ≤ c) (hc : c + 16 ≤ h.length) (hl : v 1 = 0) (h2 : v 2 = 0) (h3 : v 3 = 0) (t : Int32) (y : Int32) (z : Int32) (p : (nI 0 ≤ t ∧ t ≤ nI 9999)) (q : ¬ (nI 0 ≤ y ∧ y ≤ nI 7)) : zMo c (mput c G v r h) 132 [.ref c, .int t, .int y, .int z] 1 (.int 0) := by
  refine zev_calls (Nat.le_of_ble_eq_true rfl) ?_
  show zev 132 0 [some (.ref c), some (.int t), some (.int y), some (.int z)] [] _ _
  refine zev_of (fun _ kk => zr_aload_n (pc' := 1) zi_132_0 rfl rfl kk) ?_
  refine zev_of (fun _ kk => zr_iconst (v := (nI 0)) (pc' := 2) zi_132_1 rfl rfl kk) ?_
  refine zev_of (fun _ kk => zr_put (pc' := 5) zi_132_2 (by omega) (mput_at hc (k := 0) rfl) (Nat.le_of_ble_eq_true rfl) rfl rfl (mput_set (k := 0) (v' := upd _ 0 _) hc (by decide) rfl) kk) ?_
  refine zev_of (fun _ kk => zr_iload_n (pc' := 6) zi_132_5 rfl rfl kk) ?_
  refine zev_of (fun _ kk => zr_iconst (v := (nI 0)) (pc' := 7) zi_132_6 rfl rfl kk) ?_
  refine zev_of (fun _ kk => zr_sipush (v := (nI 9999)) (pc' := 10) zi_132_7 rfl rfl kk) ?_
  refine zev_of (fun _ kk => zr_s3 (pc' := 13) zi_132_10 rfl (m_isIn1 p) rfl kk) ?_
  refine zev_of (fun _ kk => zr_iff (pc' := 16) zi_132_13 rfl rfl kk) ?_
  refine zev_of (fun _ kk => zr_iload_n (pc' := 17) zi_132_16 rfl rfl kk) ?_
  refine zev_of (fun _ kk => zr_iconst (v := (nI 0)) (pc' := 18) zi_132_17 rfl rfl kk) ?_
  refine zev_of (fun _ kk => zr_bipush (v := (nI 7)) (pc' := 20) zi_132_18 rfl rfl kk) ?_
  refine zev_of (fun _ kk => zr_s3 (pc' := 23) zi_132_20 rfl (m_isIn0 q) rfl kk) ?_
  refine zev_of (fun _ kk => zr_ift zi_132_23 rfl kk) ?_
  refine zev_of (fun _ kk => zr_aload_n (pc' := 36) zi_132_35 rfl rfl kk) ?_
  refine zev_of (fun _ kk => zr_iconst (v := (nI 1)) (pc' := 37) zi_132_36 rfl rfl kk) ?_
  refine zev_of (fun _ kk => zr_v1 (pc' := 40) zi_132_37 (mput_at hc (k := 0) rfl) rfl (m_no h1 hc _) rfl kk) ?_
  refine zev_ret (zr_ireturn zi_132_40 rfl) ?_
  exact mq_of hc rfl rfl
theorem mo_line_c (h1 : 1 ≤ c) (hc : c + 16 ≤ h.length) (hl : v 1 = 0) (h2 : v 2 = 0) (h3 : v 3 = 0) (t : Int32) (y : Int32) (z : Int32) (p : (nI 0 ≤ t ∧ t ≤ nI 9999)) (p2 : (nI 0 ≤ y ∧ y ≤ nI 7)) (q : ¬ (nI 0 ≤ z ∧ z ≤ nI 3)) : zMo c (mput c G v r h) 132 [.ref c, .int t, .int y, .int z] 1 (.int 0) := by
  refine zev_calls (Nat.le_of_ble_eq_true rfl) ?_
  show zev 132 0 [some (.ref c), some (.int t), some (.int y), some (.int z)] [] _ _
  refine zev_of (fun _ kk => zr_aload_n (pc' := 1) zi_132_0 rfl rfl kk) ?_
  refine zev_of (fun _ kk => zr_iconst (v := (nI 0)) (pc' := 2) zi_132_1 rfl rfl kk) ?_
  refine zev_of (fun _ kk => zr_put (pc' := 5) zi_132_2 (by omega) (mput_at hc (k := 0) rfl) (Nat.le_of_ble_eq_true rfl) rfl rfl (mput_set (k := 0) (v' := upd _ 0 _) hc (by decide) rfl) kk) ?_
  refine zev_of (fun _ kk => zr_iload_n (pc' := 6) zi_132_5 rfl rfl kk) ?_
  refine zev_of (fun _ kk => zr_iconst (v := (nI 0)) (pc' := 7) zi_132_6 rfl rfl kk) ?_
  refine zev_of (fun _ kk => zr_sipush (v := (nI 9999)) (pc' := 10) zi_132_7 rfl rfl kk) ?_
  refine zev_of (fun _ kk => zr_s3 (pc' := 13) zi_132_10 rfl (m_isIn1 p) rfl kk) ?_
  refine zev_of (fun _ kk => zr_iff (pc' := 16) zi_132_13 rfl rfl kk) ?_
  refine zev_of (fun _ kk => zr_iload_n (pc' := 17) zi_132_16 rfl rfl kk) ?_
  refine zev_of (fun _ kk => zr_iconst (v := (nI 0)) (pc' := 18) zi_132_17 rfl rfl kk) ?_
  refine zev_of (fun _ kk => zr_bipush (v := (nI 7)) (pc' := 20) zi_132_18 rfl rfl kk) ?_
  refine zev_of (fun _ kk => zr_s3 (pc' := 23) zi_132_20 rfl (m_isIn1 p2) rfl kk) ?_
  refine zev_of (fun _ kk => zr_iff (pc' := 26) zi_132_23 rfl rfl kk) ?_
  refine zev_of (fun _ kk => zr_iload_n (pc' := 27) zi_132_26 rfl rfl kk) ?_
  refine zev_of (fun _ kk => zr_iconst (v := (nI 0)) (pc' := 28) zi_132_27 rfl rfl kk) ?_
  refine zev_of (fun _ kk => zr_iconst (v := (nI 3)) (pc' := 29) zi_132_28 rfl rfl kk) ?_
  refine zev_of (fun _ kk => zr_s3 (pc' := 32) zi_132_29 rfl (m_isIn0 q) rfl kk) ?_
  refine zev_of (fun _ kk => zr_iff (pc' := 35) zi_132_32 rfl rfl kk) ?_
  refine zev_of (fun _ kk => zr_aload_n (pc' := 36) zi_132_35 rfl rfl kk) ?_
  refine zev_of (fun _ kk => zr_iconst (v := (nI 1)) (pc' := 37) zi_132_36 rfl rfl kk) ?_
  refine zev_of (fun _ kk => zr_v1 (pc' := 40) zi_132_37 (mput_at hc (k := 0) rfl) rfl (m_no h1 hc _) rfl kk) ?_
  refine zev_ret (zr_ireturn zi_132_40 rfl) ?_
  exact mq_of hc rfl rfl
theorem mo_line (h1 : 1 ≤ c) (hc : c + 16 ≤ h.length) (hl : v 1 = 0) (h2 : v 2 = 0) (h3 : v 3 = 0) (t : Int32) (y : Int32) (z : Int32) (p : (nI 0 ≤ t ∧ t ≤ nI 9999)) (p2 : (nI 0 ≤ y ∧ y ≤ nI 7)) (p3 : (nI 0 ≤ z ∧ z ≤ nI 3)) : zMo c (mput c G v r h) 132 [.ref c, .int t, .int y, .int z] 0 (.int 0) := by
  refine zev_calls (Nat.le_of_ble_eq_true rfl) ?_
  show zev 132 0 [some (.ref c), some (.int t), some (.int y), some (.int z)] [] _ _
  refine zev_of (fun _ kk => zr_aload_n (pc' := 1) zi_132_0 rfl rfl kk) ?_
  refine zev_of (fun _ kk => zr_iconst (v := (nI 0)) (pc' := 2) zi_132_1 rfl rfl kk) ?_
  refine zev_of (fun _ kk => zr_put (pc' := 5) zi_132_2 (by omega) (mput_at hc (k := 0) rfl) (Nat.le_of_ble_eq_true rfl) rfl rfl (mput_set (k := 0) (v' := upd _ 0 _) hc (by decide) rfl) kk) ?_
  refine zev_of (fun _ kk => zr_iload_n (pc' := 6) zi_132_5 rfl rfl kk) ?_
  refine zev_of (fun _ kk => zr_iconst (v := (nI 0)) (pc' := 7) zi_132_6 rfl rfl kk) ?_
  refine zev_of (fun _ kk => zr_sipush (v := (nI 9999)) (pc' := 10) zi_132_7 rfl rfl kk) ?_
  refine zev_of (fun _ kk => zr_s3 (pc' := 13) zi_132_10 rfl (m_isIn1 p) rfl kk) ?_
  refine zev_of (fun _ kk => zr_iff (pc' := 16) zi_132_13 rfl rfl kk) ?_
  refine zev_of (fun _ kk => zr_iload_n (pc' := 17) zi_132_16 rfl rfl kk) ?_
  refine zev_of (fun _ kk => zr_iconst (v := (nI 0)) (pc' := 18) zi_132_17 rfl rfl kk) ?_
  refine zev_of (fun _ kk => zr_bipush (v := (nI 7)) (pc' := 20) zi_132_18 rfl rfl kk) ?_
  refine zev_of (fun _ kk => zr_s3 (pc' := 23) zi_132_20 rfl (m_isIn1 p2) rfl kk) ?_
  refine zev_of (fun _ kk => zr_iff (pc' := 26) zi_132_23 rfl rfl kk) ?_
  refine zev_of (fun _ kk => zr_iload_n (pc' := 27) zi_132_26 rfl rfl kk) ?_
  refine zev_of (fun _ kk => zr_iconst (v := (nI 0)) (pc' := 28) zi_132_27 rfl rfl kk) ?_
  refine zev_of (fun _ kk => zr_iconst (v := (nI 3)) (pc' := 29) zi_132_28 rfl rfl kk) ?_
  refine zev_of (fun _ kk => zr_s3 (pc' := 32) zi_132_29 rfl (m_isIn1 p3) rfl kk) ?_
  refine zev_of (fun _ kk => zr_ift zi_132_32 rfl kk) ?_
  refine zev_of (fun _ kk => zr_aload_n (pc' := 42) zi_132_41 rfl rfl kk) ?_
  refine zev_of (fun _ kk => zr_get (pc' := 45) zi_132_42 (mput_at hc (k := 0) rfl) rfl rfl kk) ?_
  refine zev_of (fun _ kk => zr_bipush (v := (nI 70)) (pc' := 47) zi_132_45 rfl rfl kk) ?_
  refine zev_of (fun _ kk => zr_icmpf (pc' := 50) zi_132_47 rfl (by show zcnd _ (v 1) _ = _; rw [hl]; rfl) kk) ?_
  refine zev_of (fun _ kk => zr_aload_n (pc' := 51) zi_132_50 rfl rfl kk) ?_
  refine zev_of (fun _ kk => zr_get (pc' := 54) zi_132_51 (mput_at hc (k := 0) rfl) rfl rfl kk) ?_
  refine zev_of (fun _ kk => zr_ift zi_132_54 (by show zcnd _ (v 1) _ = _; rw [hl]; rfl) kk) ?_
  refine zev_of (fun _ kk => zr_aload_n (pc' := 79) zi_132_78 rfl rfl kk) ?_
  refine zev_of (fun _ kk => zr_get (pc' := 82) zi_132_79 (mput_at hc (k := 0) rfl) rfl rfl kk) ?_
  refine zev_of (fun _ kk => zr_aload_n (pc' := 83) zi_132_82 rfl rfl kk) ?_
  refine zev_of (fun _ kk => zr_get (pc' := 86) zi_132_83 (mput_at hc (k := 0) rfl) rfl rfl kk) ?_
  refine zev_of (fun _ kk => zr_iload_n (pc' := 87) zi_132_86 rfl rfl kk) ?_
  refine zev_of (fun _ kk => zr_iast (pc' := 88) zi_132_87 (by omega) (mput_at hc (k := 1) rfl) (by show ¬ (v 1 < 0 ∨ 70 ≤ (v 1).toNatClampNeg); rw [hl]; decide) rfl (mput_set (k := 1) (G' := (updR G 0 (upd (G 0) (upd v 0 (nI 0) 1).toNatClampNeg t))) hc (by decide) rfl) kk) ?_
  refine zev_of (fun _ kk => zr_aload_n (pc' := 89) zi_132_88 rfl rfl kk) ?_
  refine zev_of (fun _ kk => zr_get (pc' := 92) zi_132_89 (mput_at hc (k := 0) rfl) rfl rfl kk) ?_
  refine zev_of (fun _ kk => zr_aload_n (pc' := 93) zi_132_92 rfl rfl kk) ?_
  refine zev_of (fun _ kk => zr_get (pc' := 96) zi_132_93 (mput_at hc (k := 0) rfl) rfl rfl kk) ?_
  refine zev_of (fun _ kk => zr_iload_n (pc' := 97) zi_132_96 rfl rfl kk) ?_
  refine zev_of (fun _ kk => zr_iast (pc' := 98) zi_132_97 (by omega) (mput_at hc (k := 2) rfl) (by show ¬ (v 1 < 0 ∨ 70 ≤ (v 1).toNatClampNeg); rw [hl]; decide) rfl (mput_set (k := 2) (G' := (updR (updR G 0 (upd (G 0) (upd v 0 (nI 0) 1).toNatClampNeg t)) 1 (upd (G 1) (upd v 0 (nI 0) 1).toNatClampNeg y))) hc (by decide) rfl) kk) ?_
  refine zev_of (fun _ kk => zr_aload_n (pc' := 99) zi_132_98 rfl rfl kk) ?_
  refine zev_of (fun _ kk => zr_get (pc' := 102) zi_132_99 (mput_at hc (k := 0) rfl) rfl rfl kk) ?_
  refine zev_of (fun _ kk => zr_aload_n (pc' := 103) zi_132_102 rfl rfl kk) ?_
  refine zev_of (fun _ kk => zr_get (pc' := 106) zi_132_103 (mput_at hc (k := 0) rfl) rfl rfl kk) ?_
  refine zev_of (fun _ kk => zr_iload_n (pc' := 107) zi_132_106 rfl rfl kk) ?_
  refine zev_of (fun _ kk => zr_iast (pc' := 108) zi_132_107 (by omega) (mput_at hc (k := 3) rfl) (by show ¬ (v 1 < 0 ∨ 70 ≤ (v 1).toNatClampNeg); rw [hl]; decide) rfl (mput_set (k := 3) (G' := (updR (updR (updR G 0 (upd (G 0) (upd v 0 (nI 0) 1).toNatClampNeg t)) 1 (upd (G 1) (upd v 0 (nI 0) 1).toNatClampNeg y)) 2 (upd (G 2) (upd v 0 (nI 0) 1).toNatClampNeg z))) hc (by decide) rfl) kk) ?_
  refine zev_of (fun _ kk => zr_aload_n (pc' := 109) zi_132_108 rfl rfl kk) ?_
  refine zev_of (fun _ kk => zr_dup (pc' := 110) zi_132_109 rfl rfl kk) ?_
  refine zev_of (fun _ kk => zr_get (pc' := 113) zi_132_110 (mput_at hc (k := 0) rfl) rfl rfl kk) ?_
  refine zev_of (fun _ kk => zr_dup_x1 (pc' := 114) zi_132_113 ⟨rfl, rfl⟩ rfl kk) ?_
  refine zev_of (fun _ kk => zr_iconst (v := (nI 1)) (pc' := 115) zi_132_114 rfl rfl kk) ?_
  refine zev_of (fun _ kk => zr_iadd (pc' := 116) zi_132_115 (by first | exact nI_add _ _ | rfl) rfl kk) ?_
  refine zev_of (fun _ kk => zr_put (pc' := 119) zi_132_116 (by omega) (mput_at hc (k := 0) rfl) (Nat.le_of_ble_eq_true rfl) rfl rfl (mput_set (k := 0) (v' := upd (upd v 0 (nI 0)) 1 (upd v 0 (nI 0) 1 + nI 1)) hc (by decide) rfl) kk) ?_
  refine zev_ret (zr_ireturn zi_132_119 rfl) ?_
  exact mq_of hc (congrArg Value.int (by exact hl)) rfl
theorem mo_word_a (h1 : 1 ≤ c) (hc : c + 16 ≤ h.length) (hl : v 1 = 0) (h2 : v 2 = 0) (h3 : v 3 = 0) (x : Int32) (q : ¬ (nI 0 ≤ x ∧ x ≤ nI 999)) : zMo c (mput c G v r h) 133 [.ref c, .int x] 1 (.int 0) := by
  refine zev_calls (Nat.le_of_ble_eq_true rfl) ?_
  show zev 133 0 [some (.ref c), some (.int x)] [] _ _
  refine zev_of (fun _ kk => zr_aload_n (pc' := 1) zi_133_0 rfl rfl kk) ?_
  refine zev_of (fun _ kk => zr_iconst (v := (nI 0)) (pc' := 2) zi_133_1 rfl rfl kk) ?_
  refine zev_of (fun _ kk => zr_put (pc' := 5) zi_133_2 (by omega) (mput_at hc (k := 0) rfl) (Nat.le_of_ble_eq_true rfl) rfl rfl (mput_set (k := 0) (v' := upd _ 0 _) hc (by decide) rfl) kk) ?_
  refine zev_of (fun _ kk => zr_iload_n (pc' := 6) zi_133_5 rfl rfl kk) ?_
  refine zev_of (fun _ kk => zr_iconst (v := (nI 0)) (pc' := 7) zi_133_6 rfl rfl kk) ?_
  refine zev_of (fun _ kk => zr_sipush (v := (nI 999)) (pc' := 10) zi_133_7 rfl rfl kk) ?_
  refine zev_of (fun _ kk => zr_s3 (pc' := 13) zi_133_10 rfl (m_isIn0 q) rfl kk) ?_
  refine zev_of (fun _ kk => zr_iff (pc' := 16) zi_133_13 rfl rfl kk) ?_
  refine zev_of (fun _ kk => zr_aload_n (pc' := 17) zi_133_16 rfl rfl kk) ?_
  refine zev_of (fun _ kk => zr_iconst (v := (nI 1)) (pc' := 18) zi_133_17 rfl rfl kk) ?_
  refine zev_of (fun _ kk => zr_v1 (pc' := 21) zi_133_18 (mput_at hc (k := 0) rfl) rfl (m_no h1 hc _) rfl kk) ?_
  refine zev_ret (zr_ireturn zi_133_21 rfl) ?_
  exact mq_of hc rfl rfl
theorem mo_word (h1 : 1 ≤ c) (hc : c + 16 ≤ h.length) (hl : v 1 = 0) (h2 : v 2 = 0) (h3 : v 3 = 0) (x : Int32) (q : (nI 0 ≤ x ∧ x ≤ nI 999)) : zMo c (mput c G v r h) 133 [.ref c, .int x] 2 (.int 0) := by
  refine zev_calls (Nat.le_of_ble_eq_true rfl) ?_
  show zev 133 0 [some (.ref c), some (.int x)] [] _ _
  refine zev_of (fun _ kk => zr_aload_n (pc' := 1) zi_133_0 rfl rfl kk) ?_
  refine zev_of (fun _ kk => zr_iconst (v := (nI 0)) (pc' := 2) zi_133_1 rfl rfl kk) ?_
  refine zev_of (fun _ kk => zr_put (pc' := 5) zi_133_2 (by omega) (mput_at hc (k := 0) rfl) (Nat.le_of_ble_eq_true rfl) rfl rfl (mput_set (k := 0) (v' := upd _ 0 _) hc (by decide) rfl) kk) ?_
  refine zev_of (fun _ kk => zr_iload_n (pc' := 6) zi_133_5 rfl rfl kk) ?_
  refine zev_of (fun _ kk => zr_iconst (v := (nI 0)) (pc' := 7) zi_133_6 rfl rfl kk) ?_
  refine zev_of (fun _ kk => zr_sipush (v := (nI 999)) (pc' := 10) zi_133_7 rfl rfl kk) ?_
  refine zev_of (fun _ kk => zr_s3 (pc' := 13) zi_133_10 rfl (m_isIn1 q) rfl kk) ?_
  refine zev_of (fun _ kk => zr_ift zi_133_13 rfl kk) ?_
  refine zev_of (fun _ kk => zr_aload_n (pc' := 23) zi_133_22 rfl rfl kk) ?_
  refine zev_of (fun _ kk => zr_get (pc' := 26) zi_133_23 (mput_at hc (k := 0) rfl) rfl rfl kk) ?_
  refine zev_of (fun _ kk => zr_ift zi_133_26 (by show zcnd _ (v 1) _ = _; rw [hl]; rfl) kk) ?_
  refine zev_of (fun _ kk => zr_aload_n (pc' := 57) zi_133_56 rfl rfl kk) ?_
  refine zev_of (fun _ kk => zr_iconst (v := (nI 2)) (pc' := 58) zi_133_57 rfl rfl kk) ?_
  refine zev_of (fun _ kk => zr_v1 (pc' := 61) zi_133_58 (mput_at hc (k := 0) rfl) rfl (m_no h1 hc _) rfl kk) ?_
  refine zev_ret (zr_ireturn zi_133_61 rfl) ?_
  exact mq_of hc rfl rfl
theorem mo_learn_a (h1 : 1 ≤ c) (hc : c + 16 ≤ h.length) (hl : v 1 = 0) (h2 : v 2 = 0) (h3 : v 3 = 0) (x : Int32) (q : ¬ (nI 1 ≤ x ∧ x ≤ nI 70)) : zMo c (mput c G v r h) 134 [.ref c, .int x] 1 (.int 0) := by
  refine zev_calls (Nat.le_of_ble_eq_true rfl) ?_
  show zev 134 0 [some (.ref c), some (.int x), none] [] _ _
  refine zev_of (fun _ kk => zr_aload_n (pc' := 1) zi_134_0 rfl rfl kk) ?_
  refine zev_of (fun _ kk => zr_iconst (v := (nI 0)) (pc' := 2) zi_134_1 rfl rfl kk) ?_
  refine zev_of (fun _ kk => zr_put (pc' := 5) zi_134_2 (by omega) (mput_at hc (k := 0) rfl) (Nat.le_of_ble_eq_true rfl) rfl rfl (mput_set (k := 0) (v' := upd _ 0 _) hc (by decide) rfl) kk) ?_
  refine zev_of (fun _ kk => zr_iload_n (pc' := 6) zi_134_5 rfl rfl kk) ?_
  refine zev_of (fun _ kk => zr_iconst (v := (nI 1)) (pc' := 7) zi_134_6 rfl rfl kk) ?_
  refine zev_of (fun _ kk => zr_bipush (v := (nI 70)) (pc' := 9) zi_134_7 rfl rfl kk) ?_
  refine zev_of (fun _ kk => zr_s3 (pc' := 12) zi_134_9 rfl (m_isIn0 q) rfl kk) ?_
  refine zev_of (fun _ kk => zr_iff (pc' := 15) zi_134_12 rfl rfl kk) ?_
  refine zev_of (fun _ kk => zr_aload_n (pc' := 16) zi_134_15 rfl rfl kk) ?_
  refine zev_of (fun _ kk => zr_iconst (v := (nI 1)) (pc' := 17) zi_134_16 rfl rfl kk) ?_
  refine zev_of (fun _ kk => zr_v1 (pc' := 20) zi_134_17 (mput_at hc (k := 0) rfl) rfl (m_no h1 hc _) rfl kk) ?_
  refine zev_ret (zr_ireturn zi_134_20 rfl) ?_
  exact mq_of hc rfl rfl
theorem mo_learn (h1 : 1 ≤ c) (hc : c + 16 ≤ h.length) (hl : v 1 = 0) (h2 : v 2 = 0) (h3 : v 3 = 0) (x : Int32) (q : nI 1 ≤ x ∧ x ≤ nI 70) : zMo c (mput c G v r h) 134 [.ref c, .int x] 0 (.int 0) := by
  refine zev_calls (Nat.le_of_ble_eq_true rfl) ?_
  show zev 134 0 [some (.ref c), some (.int x), none] [] _ _
  refine zev_of (fun _ kk => zr_aload_n (pc' := 1) zi_134_0 rfl rfl kk) ?_
  refine zev_of (fun _ kk => zr_iconst (v := (nI 0)) (pc' := 2) zi_134_1 rfl rfl kk) ?_
  refine zev_of (fun _ kk => zr_put (pc' := 5) zi_134_2 (by omega) (mput_at hc (k := 0) rfl) (Nat.le_of_ble_eq_true rfl) rfl rfl (mput_set (k := 0) (v' := upd _ 0 _) hc (by decide) rfl) kk) ?_
  refine zev_of (fun _ kk => zr_iload_n (pc' := 6) zi_134_5 rfl rfl kk) ?_
  refine zev_of (fun _ kk => zr_iconst (v := (nI 1)) (pc' := 7) zi_134_6 rfl rfl kk) ?_
  refine zev_of (fun _ kk => zr_bipush (v := (nI 70)) (pc' := 9) zi_134_7 rfl rfl kk) ?_
  refine zev_of (fun _ kk => zr_s3 (pc' := 12) zi_134_9 rfl (m_isIn1 q) rfl kk) ?_
  refine zev_of (fun _ kk => zr_ift zi_134_12 rfl kk) ?_
  refine zev_of (fun _ kk => zr_aload_n (pc' := 22) zi_134_21 rfl rfl kk) ?_
  refine zev_of (fun _ kk => zr_get (pc' := 25) zi_134_22 (mput_at hc (k := 0) rfl) rfl rfl kk) ?_
  refine zev_of (fun _ kk => zr_istore_n (pc' := 26) zi_134_25 (Nat.le_of_ble_eq_true rfl) rfl rfl kk) ?_
  dsimp only [zst1, zst2, zkill, List.set, List.getElem?_cons_succ, List.getElem?_cons_zero]
  refine zev_of (fun _ kk => zr_aload_n (pc' := 27) zi_134_26 rfl rfl kk) ?_
  refine zev_of (fun _ kk => zr_get (pc' := 30) zi_134_27 (mput_at hc (k := 0) rfl) rfl rfl kk) ?_
  refine zev_of (fun _ kk => zr_aload_n (pc' := 31) zi_134_30 rfl rfl kk) ?_
  refine zev_of (fun _ kk => zr_get (pc' := 34) zi_134_31 (mput_at hc (k := 0) rfl) rfl rfl kk) ?_
  refine zev_of (fun _ kk => zr_icmpt zi_134_34 (by show zcnd _ (v 2) (v 1) = _; rw [hl, h2]; rfl) kk) ?_
  refine zev_of (fun _ kk => zr_aload_n (pc' := 75) zi_134_74 rfl rfl kk) ?_
  refine zev_of (fun _ kk => zr_get (pc' := 78) zi_134_75 (mput_at hc (k := 0) rfl) rfl rfl kk) ?_
  refine zev_of (fun _ kk => zr_iload_n (pc' := 79) zi_134_78 rfl rfl kk) ?_
  refine zev_of (fun _ kk => zr_isub (pc' := 80) zi_134_79 (by first | exact pk_sub (by omega) | rfl) rfl kk) ?_
  refine zev_ret (zr_ireturn zi_134_80 rfl) ?_
  exact mq_of hc (congrArg Value.int (by show v 2 - v 2 = 0; rw [h2]; rfl)) rfl
theorem mo_set_a (h1 : 1 ≤ c) (hc : c + 16 ≤ h.length) (hl : v 1 = 0) (h2 : v 2 = 0) (h3 : v 3 = 0) (x : Int32) (w : Int32) (q : ¬ (nI 0 ≤ x ∧ x ≤ nI 3)) : zMo c (mput c G v r h) 135 [.ref c, .int x, .int w] 1 (.int 0) := by
  refine zev_calls (Nat.le_of_ble_eq_true rfl) ?_
  show zev 135 0 [some (.ref c), some (.int x), some (.int w), none] [] _ _
  refine zev_of (fun _ kk => zr_aload_n (pc' := 1) zi_135_0 rfl rfl kk) ?_
  refine zev_of (fun _ kk => zr_iconst (v := (nI 0)) (pc' := 2) zi_135_1 rfl rfl kk) ?_
  refine zev_of (fun _ kk => zr_put (pc' := 5) zi_135_2 (by omega) (mput_at hc (k := 0) rfl) (Nat.le_of_ble_eq_true rfl) rfl rfl (mput_set (k := 0) (v' := upd _ 0 _) hc (by decide) rfl) kk) ?_
  refine zev_of (fun _ kk => zr_iload_n (pc' := 6) zi_135_5 rfl rfl kk) ?_
  refine zev_of (fun _ kk => zr_iconst (v := (nI 0)) (pc' := 7) zi_135_6 rfl rfl kk) ?_
  refine zev_of (fun _ kk => zr_iconst (v := (nI 3)) (pc' := 8) zi_135_7 rfl rfl kk) ?_
  refine zev_of (fun _ kk => zr_s3 (pc' := 11) zi_135_8 rfl (m_isIn0 q) rfl kk) ?_
  refine zev_of (fun _ kk => zr_ift zi_135_11 rfl kk) ?_
  refine zev_of (fun _ kk => zr_aload_n (pc' := 44) zi_135_43 rfl rfl kk) ?_
  refine zev_of (fun _ kk => zr_iconst (v := (nI 1)) (pc' := 45) zi_135_44 rfl rfl kk) ?_
  refine zev_of (fun _ kk => zr_v1 (pc' := 48) zi_135_45 (mput_at hc (k := 0) rfl) rfl (m_no h1 hc _) rfl kk) ?_
  refine zev_ret (zr_ireturn zi_135_48 rfl) ?_
  exact mq_of hc rfl rfl
theorem mo_set_b0 (h1 : 1 ≤ c) (hc : c + 16 ≤ h.length) (hl : v 1 = 0) (h2 : v 2 = 0) (h3 : v 3 = 0) (w : Int32) (q : ¬ (nI 0 ≤ w ∧ w ≤ nI 100)) : zMo c (mput c G v r h) 135 [.ref c, .int (nI 0), .int w] 1 (.int 0) := by
  refine zev_calls (Nat.le_of_ble_eq_true rfl) ?_
  show zev 135 0 [some (.ref c), some (.int (nI 0)), some (.int w), none] [] _ _
  refine zev_of (fun _ kk => zr_aload_n (pc' := 1) zi_135_0 rfl rfl kk) ?_
  refine zev_of (fun _ kk => zr_iconst (v := (nI 0)) (pc' := 2) zi_135_1 rfl rfl kk) ?_
  refine zev_of (fun _ kk => zr_put (pc' := 5) zi_135_2 (by omega) (mput_at hc (k := 0) rfl) (Nat.le_of_ble_eq_true rfl) rfl rfl (mput_set (k := 0) (v' := upd _ 0 _) hc (by decide) rfl) kk) ?_
  refine zev_of (fun _ kk => zr_iload_n (pc' := 6) zi_135_5 rfl rfl kk) ?_
  refine zev_of (fun _ kk => zr_iconst (v := (nI 0)) (pc' := 7) zi_135_6 rfl rfl kk) ?_
  refine zev_of (fun _ kk => zr_iconst (v := (nI 3)) (pc' := 8) zi_135_7 rfl rfl kk) ?_
  refine zev_of (fun _ kk => zr_s3 (pc' := 11) zi_135_8 rfl (m_isIn1 (by decide)) rfl kk) ?_
  refine zev_of (fun _ kk => zr_iff (pc' := 14) zi_135_11 rfl rfl kk) ?_
  refine zev_of (fun _ kk => zr_iload_n (pc' := 15) zi_135_14 rfl rfl kk) ?_
  refine zev_of (fun _ kk => zr_iload_n (pc' := 16) zi_135_15 rfl rfl kk) ?_
  refine zev_of (fun _ kk => zr_iconst (v := (nI 2)) (pc' := 17) zi_135_16 rfl rfl kk) ?_
  refine zev_of (fun _ kk => zr_icmpt zi_135_17 rfl kk) ?_
  refine zev_of (fun _ kk => zr_iconst (v := (nI 0)) (pc' := 25) zi_135_24 rfl rfl kk) ?_
  refine zev_of (fun _ kk => zr_iload_n (pc' := 26) zi_135_25 rfl rfl kk) ?_
  refine zev_of (fun _ kk => zr_iff (pc' := 29) zi_135_26 rfl rfl kk) ?_
  refine zev_of (fun _ kk => zr_bipush (v := (nI 100)) (pc' := 31) zi_135_29 rfl rfl kk) ?_
  refine zev_of (fun _ kk => zr_goto zi_135_31 kk) ?_
  refine zev_of (fun _ kk => zr_s3 (pc' := 40) zi_135_37 rfl (m_isIn0 q) rfl kk) ?_
  refine zev_of (fun _ kk => zr_iff (pc' := 43) zi_135_40 rfl rfl kk) ?_
  refine zev_of (fun _ kk => zr_aload_n (pc' := 44) zi_135_43 rfl rfl kk) ?_
  refine zev_of (fun _ kk => zr_iconst (v := (nI 1)) (pc' := 45) zi_135_44 rfl rfl kk) ?_
  refine zev_of (fun _ kk => zr_v1 (pc' := 48) zi_135_45 (mput_at hc (k := 0) rfl) rfl (m_no h1 hc _) rfl kk) ?_
  refine zev_ret (zr_ireturn zi_135_48 rfl) ?_
  exact mq_of hc rfl rfl
theorem mo_set0 (h1 : 1 ≤ c) (hc : c + 16 ≤ h.length) (hl : v 1 = 0) (h2 : v 2 = 0) (h3 : v 3 = 0) (w : Int32) (q : nI 0 ≤ w ∧ w ≤ nI 100) : zMo c (mput c G v r h) 135 [.ref c, .int (nI 0), .int w] 0 (.int (G 5 0)) := by
  refine zev_calls (Nat.le_of_ble_eq_true rfl) ?_
  show zev 135 0 [some (.ref c), some (.int (nI 0)), some (.int w), none] [] _ _
  refine zev_of (fun _ kk => zr_aload_n (pc' := 1) zi_135_0 rfl rfl kk) ?_
  refine zev_of (fun _ kk => zr_iconst (v := (nI 0)) (pc' := 2) zi_135_1 rfl rfl kk) ?_
  refine zev_of (fun _ kk => zr_put (pc' := 5) zi_135_2 (by omega) (mput_at hc (k := 0) rfl) (Nat.le_of_ble_eq_true rfl) rfl rfl (mput_set (k := 0) (v' := upd _ 0 _) hc (by decide) rfl) kk) ?_
  refine zev_of (fun _ kk => zr_iload_n (pc' := 6) zi_135_5 rfl rfl kk) ?_
  refine zev_of (fun _ kk => zr_iconst (v := (nI 0)) (pc' := 7) zi_135_6 rfl rfl kk) ?_
  refine zev_of (fun _ kk => zr_iconst (v := (nI 3)) (pc' := 8) zi_135_7 rfl rfl kk) ?_
  refine zev_of (fun _ kk => zr_s3 (pc' := 11) zi_135_8 rfl (m_isIn1 (by decide)) rfl kk) ?_
  refine zev_of (fun _ kk => zr_iff (pc' := 14) zi_135_11 rfl rfl kk) ?_
  refine zev_of (fun _ kk => zr_iload_n (pc' := 15) zi_135_14 rfl rfl kk) ?_
  refine zev_of (fun _ kk => zr_iload_n (pc' := 16) zi_135_15 rfl rfl kk) ?_
  refine zev_of (fun _ kk => zr_iconst (v := (nI 2)) (pc' := 17) zi_135_16 rfl rfl kk) ?_
  refine zev_of (fun _ kk => zr_icmpt zi_135_17 rfl kk) ?_
  refine zev_of (fun _ kk => zr_iconst (v := (nI 0)) (pc' := 25) zi_135_24 rfl rfl kk) ?_
  refine zev_of (fun _ kk => zr_iload_n (pc' := 26) zi_135_25 rfl rfl kk) ?_
  refine zev_of (fun _ kk => zr_iff (pc' := 29) zi_135_26 rfl rfl kk) ?_
  refine zev_of (fun _ kk => zr_bipush (v := (nI 100)) (pc' := 31) zi_135_29 rfl rfl kk) ?_
  refine zev_of (fun _ kk => zr_goto zi_135_31 kk) ?_
  refine zev_of (fun _ kk => zr_s3 (pc' := 40) zi_135_37 rfl (m_isIn1 q) rfl kk) ?_
  refine zev_of (fun _ kk => zr_ift zi_135_40 rfl kk) ?_
  refine zev_of (fun _ kk => zr_aload_n (pc' := 50) zi_135_49 rfl rfl kk) ?_
  refine zev_of (fun _ kk => zr_get (pc' := 53) zi_135_50 (mput_at hc (k := 0) rfl) rfl rfl kk) ?_
  refine zev_of (fun _ kk => zr_iload_n (pc' := 54) zi_135_53 rfl rfl kk) ?_
  refine zev_of (fun _ kk => zr_iald (pc' := 55) zi_135_54 (mput_at hc (k := 6) rfl) (by decide) rfl rfl kk) ?_
  refine zev_of (fun _ kk => zr_istore_n (pc' := 56) zi_135_55 (Nat.le_of_ble_eq_true rfl) rfl rfl kk) ?_
  dsimp only [zst1, zst2, zkill, List.set, List.getElem?_cons_succ, List.getElem?_cons_zero]
  refine zev_of (fun _ kk => zr_aload_n (pc' := 57) zi_135_56 rfl rfl kk) ?_
  refine zev_of (fun _ kk => zr_get (pc' := 60) zi_135_57 (mput_at hc (k := 0) rfl) rfl rfl kk) ?_
  refine zev_of (fun _ kk => zr_iload_n (pc' := 61) zi_135_60 rfl rfl kk) ?_
  refine zev_of (fun _ kk => zr_iload_n (pc' := 62) zi_135_61 rfl rfl kk) ?_
  refine zev_of (fun _ kk => zr_iast (pc' := 63) zi_135_62 (by omega) (mput_at hc (k := 6) rfl) (by decide) rfl (mput_set (k := 6) (G' := updR _ 5 _) hc (by decide) rfl) kk) ?_
  refine zev_of (fun _ kk => zr_iload_n (pc' := 64) zi_135_63 rfl rfl kk) ?_
  refine zev_ret (zr_ireturn zi_135_64 rfl) ?_
  exact mq_of hc rfl rfl
theorem mo_set_b1 (h1 : 1 ≤ c) (hc : c + 16 ≤ h.length) (hl : v 1 = 0) (h2 : v 2 = 0) (h3 : v 3 = 0) (w : Int32) (q : ¬ (nI 0 ≤ w ∧ w ≤ nI 1000)) : zMo c (mput c G v r h) 135 [.ref c, .int (nI 1), .int w] 1 (.int 0) := by
  refine zev_calls (Nat.le_of_ble_eq_true rfl) ?_
  show zev 135 0 [some (.ref c), some (.int (nI 1)), some (.int w), none] [] _ _
  refine zev_of (fun _ kk => zr_aload_n (pc' := 1) zi_135_0 rfl rfl kk) ?_
  refine zev_of (fun _ kk => zr_iconst (v := (nI 0)) (pc' := 2) zi_135_1 rfl rfl kk) ?_
  refine zev_of (fun _ kk => zr_put (pc' := 5) zi_135_2 (by omega) (mput_at hc (k := 0) rfl) (Nat.le_of_ble_eq_true rfl) rfl rfl (mput_set (k := 0) (v' := upd _ 0 _) hc (by decide) rfl) kk) ?_
  refine zev_of (fun _ kk => zr_iload_n (pc' := 6) zi_135_5 rfl rfl kk) ?_
  refine zev_of (fun _ kk => zr_iconst (v := (nI 0)) (pc' := 7) zi_135_6 rfl rfl kk) ?_
  refine zev_of (fun _ kk => zr_iconst (v := (nI 3)) (pc' := 8) zi_135_7 rfl rfl kk) ?_
  refine zev_of (fun _ kk => zr_s3 (pc' := 11) zi_135_8 rfl (m_isIn1 (by decide)) rfl kk) ?_
  refine zev_of (fun _ kk => zr_iff (pc' := 14) zi_135_11 rfl rfl kk) ?_
  refine zev_of (fun _ kk => zr_iload_n (pc' := 15) zi_135_14 rfl rfl kk) ?_
  refine zev_of (fun _ kk => zr_iload_n (pc' := 16) zi_135_15 rfl rfl kk) ?_
  refine zev_of (fun _ kk => zr_iconst (v := (nI 2)) (pc' := 17) zi_135_16 rfl rfl kk) ?_
  refine zev_of (fun _ kk => zr_icmpt zi_135_17 rfl kk) ?_
  refine zev_of (fun _ kk => zr_iconst (v := (nI 0)) (pc' := 25) zi_135_24 rfl rfl kk) ?_
  refine zev_of (fun _ kk => zr_iload_n (pc' := 26) zi_135_25 rfl rfl kk) ?_
  refine zev_of (fun _ kk => zr_ift zi_135_26 rfl kk) ?_
  refine zev_of (fun _ kk => zr_sipush (v := (nI 1000)) (pc' := 37) zi_135_34 rfl rfl kk) ?_
  refine zev_of (fun _ kk => zr_s3 (pc' := 40) zi_135_37 rfl (m_isIn0 q) rfl kk) ?_
  refine zev_of (fun _ kk => zr_iff (pc' := 43) zi_135_40 rfl rfl kk) ?_
  refine zev_of (fun _ kk => zr_aload_n (pc' := 44) zi_135_43 rfl rfl kk) ?_
  refine zev_of (fun _ kk => zr_iconst (v := (nI 1)) (pc' := 45) zi_135_44 rfl rfl kk) ?_
  refine zev_of (fun _ kk => zr_v1 (pc' := 48) zi_135_45 (mput_at hc (k := 0) rfl) rfl (m_no h1 hc _) rfl kk) ?_
  refine zev_ret (zr_ireturn zi_135_48 rfl) ?_
  exact mq_of hc rfl rfl
theorem mo_set1 (h1 : 1 ≤ c) (hc : c + 16 ≤ h.length) (hl : v 1 = 0) (h2 : v 2 = 0) (h3 : v 3 = 0) (w : Int32) (q : nI 0 ≤ w ∧ w ≤ nI 1000) : zMo c (mput c G v r h) 135 [.ref c, .int (nI 1), .int w] 0 (.int (G 5 1)) := by
  refine zev_calls (Nat.le_of_ble_eq_true rfl) ?_
  show zev 135 0 [some (.ref c), some (.int (nI 1)), some (.int w), none] [] _ _
  refine zev_of (fun _ kk => zr_aload_n (pc' := 1) zi_135_0 rfl rfl kk) ?_
  refine zev_of (fun _ kk => zr_iconst (v := (nI 0)) (pc' := 2) zi_135_1 rfl rfl kk) ?_
  refine zev_of (fun _ kk => zr_put (pc' := 5) zi_135_2 (by omega) (mput_at hc (k := 0) rfl) (Nat.le_of_ble_eq_true rfl) rfl rfl (mput_set (k := 0) (v' := upd _ 0 _) hc (by decide) rfl) kk) ?_
  refine zev_of (fun _ kk => zr_iload_n (pc' := 6) zi_135_5 rfl rfl kk) ?_
  refine zev_of (fun _ kk => zr_iconst (v := (nI 0)) (pc' := 7) zi_135_6 rfl rfl kk) ?_
  refine zev_of (fun _ kk => zr_iconst (v := (nI 3)) (pc' := 8) zi_135_7 rfl rfl kk) ?_
  refine zev_of (fun _ kk => zr_s3 (pc' := 11) zi_135_8 rfl (m_isIn1 (by decide)) rfl kk) ?_
  refine zev_of (fun _ kk => zr_iff (pc' := 14) zi_135_11 rfl rfl kk) ?_
  refine zev_of (fun _ kk => zr_iload_n (pc' := 15) zi_135_14 rfl rfl kk) ?_
  refine zev_of (fun _ kk => zr_iload_n (pc' := 16) zi_135_15 rfl rfl kk) ?_
  refine zev_of (fun _ kk => zr_iconst (v := (nI 2)) (pc' := 17) zi_135_16 rfl rfl kk) ?_
  refine zev_of (fun _ kk => zr_icmpt zi_135_17 rfl kk) ?_
  refine zev_of (fun _ kk => zr_iconst (v := (nI 0)) (pc' := 25) zi_135_24 rfl rfl kk) ?_
  refine zev_of (fun _ kk => zr_iload_n (pc' := 26) zi_135_25 rfl rfl kk) ?_
  refine zev_of (fun _ kk => zr_ift zi_135_26 rfl kk) ?_
  refine zev_of (fun _ kk => zr_sipush (v := (nI 1000)) (pc' := 37) zi_135_34 rfl rfl kk) ?_
  refine zev_of (fun _ kk => zr_s3 (pc' := 40) zi_135_37 rfl (m_isIn1 q) rfl kk) ?_
  refine zev_of (fun _ kk => zr_ift zi_135_40 rfl kk) ?_
  refine zev_of (fun _ kk => zr_aload_n (pc' := 50) zi_135_49 rfl rfl kk) ?_
  refine zev_of (fun _ kk => zr_get (pc' := 53) zi_135_50 (mput_at hc (k := 0) rfl) rfl rfl kk) ?_
  refine zev_of (fun _ kk => zr_iload_n (pc' := 54) zi_135_53 rfl rfl kk) ?_
  refine zev_of (fun _ kk => zr_iald (pc' := 55) zi_135_54 (mput_at hc (k := 6) rfl) (by decide) rfl rfl kk) ?_
  refine zev_of (fun _ kk => zr_istore_n (pc' := 56) zi_135_55 (Nat.le_of_ble_eq_true rfl) rfl rfl kk) ?_
  dsimp only [zst1, zst2, zkill, List.set, List.getElem?_cons_succ, List.getElem?_cons_zero]
  refine zev_of (fun _ kk => zr_aload_n (pc' := 57) zi_135_56 rfl rfl kk) ?_
  refine zev_of (fun _ kk => zr_get (pc' := 60) zi_135_57 (mput_at hc (k := 0) rfl) rfl rfl kk) ?_
  refine zev_of (fun _ kk => zr_iload_n (pc' := 61) zi_135_60 rfl rfl kk) ?_
  refine zev_of (fun _ kk => zr_iload_n (pc' := 62) zi_135_61 rfl rfl kk) ?_
  refine zev_of (fun _ kk => zr_iast (pc' := 63) zi_135_62 (by omega) (mput_at hc (k := 6) rfl) (by decide) rfl (mput_set (k := 6) (G' := updR _ 5 _) hc (by decide) rfl) kk) ?_
  refine zev_of (fun _ kk => zr_iload_n (pc' := 64) zi_135_63 rfl rfl kk) ?_
  refine zev_ret (zr_ireturn zi_135_64 rfl) ?_
  exact mq_of hc rfl rfl
theorem mo_set_b2 (h1 : 1 ≤ c) (hc : c + 16 ≤ h.length) (hl : v 1 = 0) (h2 : v 2 = 0) (h3 : v 3 = 0) (w : Int32) (q : ¬ (nI 1 ≤ w ∧ w ≤ nI 1000)) : zMo c (mput c G v r h) 135 [.ref c, .int (nI 2), .int w] 1 (.int 0) := by
  refine zev_calls (Nat.le_of_ble_eq_true rfl) ?_
  show zev 135 0 [some (.ref c), some (.int (nI 2)), some (.int w), none] [] _ _
  refine zev_of (fun _ kk => zr_aload_n (pc' := 1) zi_135_0 rfl rfl kk) ?_
  refine zev_of (fun _ kk => zr_iconst (v := (nI 0)) (pc' := 2) zi_135_1 rfl rfl kk) ?_
  refine zev_of (fun _ kk => zr_put (pc' := 5) zi_135_2 (by omega) (mput_at hc (k := 0) rfl) (Nat.le_of_ble_eq_true rfl) rfl rfl (mput_set (k := 0) (v' := upd _ 0 _) hc (by decide) rfl) kk) ?_
  refine zev_of (fun _ kk => zr_iload_n (pc' := 6) zi_135_5 rfl rfl kk) ?_
  refine zev_of (fun _ kk => zr_iconst (v := (nI 0)) (pc' := 7) zi_135_6 rfl rfl kk) ?_
  refine zev_of (fun _ kk => zr_iconst (v := (nI 3)) (pc' := 8) zi_135_7 rfl rfl kk) ?_
  refine zev_of (fun _ kk => zr_s3 (pc' := 11) zi_135_8 rfl (m_isIn1 (by decide)) rfl kk) ?_
  refine zev_of (fun _ kk => zr_iff (pc' := 14) zi_135_11 rfl rfl kk) ?_
  refine zev_of (fun _ kk => zr_iload_n (pc' := 15) zi_135_14 rfl rfl kk) ?_
  refine zev_of (fun _ kk => zr_iload_n (pc' := 16) zi_135_15 rfl rfl kk) ?_
  refine zev_of (fun _ kk => zr_iconst (v := (nI 2)) (pc' := 17) zi_135_16 rfl rfl kk) ?_
  refine zev_of (fun _ kk => zr_icmpf (pc' := 20) zi_135_17 rfl rfl kk) ?_
  refine zev_of (fun _ kk => zr_iconst (v := (nI 1)) (pc' := 21) zi_135_20 rfl rfl kk) ?_
  refine zev_of (fun _ kk => zr_goto zi_135_21 kk) ?_
  refine zev_of (fun _ kk => zr_iload_n (pc' := 26) zi_135_25 rfl rfl kk) ?_
  refine zev_of (fun _ kk => zr_ift zi_135_26 rfl kk) ?_
  refine zev_of (fun _ kk => zr_sipush (v := (nI 1000)) (pc' := 37) zi_135_34 rfl rfl kk) ?_
  refine zev_of (fun _ kk => zr_s3 (pc' := 40) zi_135_37 rfl (m_isIn0 q) rfl kk) ?_
  refine zev_of (fun _ kk => zr_iff (pc' := 43) zi_135_40 rfl rfl kk) ?_
  refine zev_of (fun _ kk => zr_aload_n (pc' := 44) zi_135_43 rfl rfl kk) ?_
  refine zev_of (fun _ kk => zr_iconst (v := (nI 1)) (pc' := 45) zi_135_44 rfl rfl kk) ?_
  refine zev_of (fun _ kk => zr_v1 (pc' := 48) zi_135_45 (mput_at hc (k := 0) rfl) rfl (m_no h1 hc _) rfl kk) ?_
  refine zev_ret (zr_ireturn zi_135_48 rfl) ?_
  exact mq_of hc rfl rfl
theorem mo_set2 (h1 : 1 ≤ c) (hc : c + 16 ≤ h.length) (hl : v 1 = 0) (h2 : v 2 = 0) (h3 : v 3 = 0) (w : Int32) (q : nI 1 ≤ w ∧ w ≤ nI 1000) : zMo c (mput c G v r h) 135 [.ref c, .int (nI 2), .int w] 0 (.int (G 5 2)) := by
  refine zev_calls (Nat.le_of_ble_eq_true rfl) ?_
  show zev 135 0 [some (.ref c), some (.int (nI 2)), some (.int w), none] [] _ _
  refine zev_of (fun _ kk => zr_aload_n (pc' := 1) zi_135_0 rfl rfl kk) ?_
  refine zev_of (fun _ kk => zr_iconst (v := (nI 0)) (pc' := 2) zi_135_1 rfl rfl kk) ?_
  refine zev_of (fun _ kk => zr_put (pc' := 5) zi_135_2 (by omega) (mput_at hc (k := 0) rfl) (Nat.le_of_ble_eq_true rfl) rfl rfl (mput_set (k := 0) (v' := upd _ 0 _) hc (by decide) rfl) kk) ?_
  refine zev_of (fun _ kk => zr_iload_n (pc' := 6) zi_135_5 rfl rfl kk) ?_
  refine zev_of (fun _ kk => zr_iconst (v := (nI 0)) (pc' := 7) zi_135_6 rfl rfl kk) ?_
  refine zev_of (fun _ kk => zr_iconst (v := (nI 3)) (pc' := 8) zi_135_7 rfl rfl kk) ?_
  refine zev_of (fun _ kk => zr_s3 (pc' := 11) zi_135_8 rfl (m_isIn1 (by decide)) rfl kk) ?_
  refine zev_of (fun _ kk => zr_iff (pc' := 14) zi_135_11 rfl rfl kk) ?_
  refine zev_of (fun _ kk => zr_iload_n (pc' := 15) zi_135_14 rfl rfl kk) ?_
  refine zev_of (fun _ kk => zr_iload_n (pc' := 16) zi_135_15 rfl rfl kk) ?_
  refine zev_of (fun _ kk => zr_iconst (v := (nI 2)) (pc' := 17) zi_135_16 rfl rfl kk) ?_
  refine zev_of (fun _ kk => zr_icmpf (pc' := 20) zi_135_17 rfl rfl kk) ?_
  refine zev_of (fun _ kk => zr_iconst (v := (nI 1)) (pc' := 21) zi_135_20 rfl rfl kk) ?_
  refine zev_of (fun _ kk => zr_goto zi_135_21 kk) ?_
  refine zev_of (fun _ kk => zr_iload_n (pc' := 26) zi_135_25 rfl rfl kk) ?_
  refine zev_of (fun _ kk => zr_ift zi_135_26 rfl kk) ?_
  refine zev_of (fun _ kk => zr_sipush (v := (nI 1000)) (pc' := 37) zi_135_34 rfl rfl kk) ?_
  refine zev_of (fun _ kk => zr_s3 (pc' := 40) zi_135_37 rfl (m_isIn1 q) rfl kk) ?_
  refine zev_of (fun _ kk => zr_ift zi_135_40 rfl kk) ?_
  refine zev_of (fun _ kk => zr_aload_n (pc' := 50) zi_135_49 rfl rfl kk) ?_
  refine zev_of (fun _ kk => zr_get (pc' := 53) zi_135_50 (mput_at hc (k := 0) rfl) rfl rfl kk) ?_
  refine zev_of (fun _ kk => zr_iload_n (pc' := 54) zi_135_53 rfl rfl kk) ?_
  refine zev_of (fun _ kk => zr_iald (pc' := 55) zi_135_54 (mput_at hc (k := 6) rfl) (by decide) rfl rfl kk) ?_
  refine zev_of (fun _ kk => zr_istore_n (pc' := 56) zi_135_55 (Nat.le_of_ble_eq_true rfl) rfl rfl kk) ?_
  dsimp only [zst1, zst2, zkill, List.set, List.getElem?_cons_succ, List.getElem?_cons_zero]
  refine zev_of (fun _ kk => zr_aload_n (pc' := 57) zi_135_56 rfl rfl kk) ?_
  refine zev_of (fun _ kk => zr_get (pc' := 60) zi_135_57 (mput_at hc (k := 0) rfl) rfl rfl kk) ?_
  refine zev_of (fun _ kk => zr_iload_n (pc' := 61) zi_135_60 rfl rfl kk) ?_
  refine zev_of (fun _ kk => zr_iload_n (pc' := 62) zi_135_61 rfl rfl kk) ?_
  refine zev_of (fun _ kk => zr_iast (pc' := 63) zi_135_62 (by omega) (mput_at hc (k := 6) rfl) (by decide) rfl (mput_set (k := 6) (G' := updR _ 5 _) hc (by decide) rfl) kk) ?_
  refine zev_of (fun _ kk => zr_iload_n (pc' := 64) zi_135_63 rfl rfl kk) ?_
  refine zev_ret (zr_ireturn zi_135_64 rfl) ?_
  exact mq_of hc rfl rfl
theorem mo_set_b3 (h1 : 1 ≤ c) (hc : c + 16 ≤ h.length) (hl : v 1 = 0) (h2 : v 2 = 0) (h3 : v 3 = 0) (w : Int32) (q : ¬ (nI 0 ≤ w ∧ w ≤ nI 1000)) : zMo c (mput c G v r h) 135 [.ref c, .int (nI 3), .int w] 1 (.int 0) := by
  refine zev_calls (Nat.le_of_ble_eq_true rfl) ?_
  show zev 135 0 [some (.ref c), some (.int (nI 3)), some (.int w), none] [] _ _
  refine zev_of (fun _ kk => zr_aload_n (pc' := 1) zi_135_0 rfl rfl kk) ?_
  refine zev_of (fun _ kk => zr_iconst (v := (nI 0)) (pc' := 2) zi_135_1 rfl rfl kk) ?_
  refine zev_of (fun _ kk => zr_put (pc' := 5) zi_135_2 (by omega) (mput_at hc (k := 0) rfl) (Nat.le_of_ble_eq_true rfl) rfl rfl (mput_set (k := 0) (v' := upd _ 0 _) hc (by decide) rfl) kk) ?_
  refine zev_of (fun _ kk => zr_iload_n (pc' := 6) zi_135_5 rfl rfl kk) ?_
  refine zev_of (fun _ kk => zr_iconst (v := (nI 0)) (pc' := 7) zi_135_6 rfl rfl kk) ?_
  refine zev_of (fun _ kk => zr_iconst (v := (nI 3)) (pc' := 8) zi_135_7 rfl rfl kk) ?_
  refine zev_of (fun _ kk => zr_s3 (pc' := 11) zi_135_8 rfl (m_isIn1 (by decide)) rfl kk) ?_
  refine zev_of (fun _ kk => zr_iff (pc' := 14) zi_135_11 rfl rfl kk) ?_
  refine zev_of (fun _ kk => zr_iload_n (pc' := 15) zi_135_14 rfl rfl kk) ?_
  refine zev_of (fun _ kk => zr_iload_n (pc' := 16) zi_135_15 rfl rfl kk) ?_
  refine zev_of (fun _ kk => zr_iconst (v := (nI 2)) (pc' := 17) zi_135_16 rfl rfl kk) ?_
  refine zev_of (fun _ kk => zr_icmpt zi_135_17 rfl kk) ?_
  refine zev_of (fun _ kk => zr_iconst (v := (nI 0)) (pc' := 25) zi_135_24 rfl rfl kk) ?_
  refine zev_of (fun _ kk => zr_iload_n (pc' := 26) zi_135_25 rfl rfl kk) ?_
  refine zev_of (fun _ kk => zr_ift zi_135_26 rfl kk) ?_
  refine zev_of (fun _ kk => zr_sipush (v := (nI 1000)) (pc' := 37) zi_135_34 rfl rfl kk) ?_
  refine zev_of (fun _ kk => zr_s3 (pc' := 40) zi_135_37 rfl (m_isIn0 q) rfl kk) ?_
  refine zev_of (fun _ kk => zr_iff (pc' := 43) zi_135_40 rfl rfl kk) ?_
  refine zev_of (fun _ kk => zr_aload_n (pc' := 44) zi_135_43 rfl rfl kk) ?_
  refine zev_of (fun _ kk => zr_iconst (v := (nI 1)) (pc' := 45) zi_135_44 rfl rfl kk) ?_
  refine zev_of (fun _ kk => zr_v1 (pc' := 48) zi_135_45 (mput_at hc (k := 0) rfl) rfl (m_no h1 hc _) rfl kk) ?_
  refine zev_ret (zr_ireturn zi_135_48 rfl) ?_
  exact mq_of hc rfl rfl
theorem mo_set3 (h1 : 1 ≤ c) (hc : c + 16 ≤ h.length) (hl : v 1 = 0) (h2 : v 2 = 0) (h3 : v 3 = 0) (w : Int32) (q : nI 0 ≤ w ∧ w ≤ nI 1000) : zMo c (mput c G v r h) 135 [.ref c, .int (nI 3), .int w] 0 (.int (G 5 3)) := by
  refine zev_calls (Nat.le_of_ble_eq_true rfl) ?_
  show zev 135 0 [some (.ref c), some (.int (nI 3)), some (.int w), none] [] _ _
  refine zev_of (fun _ kk => zr_aload_n (pc' := 1) zi_135_0 rfl rfl kk) ?_
  refine zev_of (fun _ kk => zr_iconst (v := (nI 0)) (pc' := 2) zi_135_1 rfl rfl kk) ?_
  refine zev_of (fun _ kk => zr_put (pc' := 5) zi_135_2 (by omega) (mput_at hc (k := 0) rfl) (Nat.le_of_ble_eq_true rfl) rfl rfl (mput_set (k := 0) (v' := upd _ 0 _) hc (by decide) rfl) kk) ?_
  refine zev_of (fun _ kk => zr_iload_n (pc' := 6) zi_135_5 rfl rfl kk) ?_
  refine zev_of (fun _ kk => zr_iconst (v := (nI 0)) (pc' := 7) zi_135_6 rfl rfl kk) ?_
  refine zev_of (fun _ kk => zr_iconst (v := (nI 3)) (pc' := 8) zi_135_7 rfl rfl kk) ?_
  refine zev_of (fun _ kk => zr_s3 (pc' := 11) zi_135_8 rfl (m_isIn1 (by decide)) rfl kk) ?_
  refine zev_of (fun _ kk => zr_iff (pc' := 14) zi_135_11 rfl rfl kk) ?_
  refine zev_of (fun _ kk => zr_iload_n (pc' := 15) zi_135_14 rfl rfl kk) ?_
  refine zev_of (fun _ kk => zr_iload_n (pc' := 16) zi_135_15 rfl rfl kk) ?_
  refine zev_of (fun _ kk => zr_iconst (v := (nI 2)) (pc' := 17) zi_135_16 rfl rfl kk) ?_
  refine zev_of (fun _ kk => zr_icmpt zi_135_17 rfl kk) ?_
  refine zev_of (fun _ kk => zr_iconst (v := (nI 0)) (pc' := 25) zi_135_24 rfl rfl kk) ?_
  refine zev_of (fun _ kk => zr_iload_n (pc' := 26) zi_135_25 rfl rfl kk) ?_
  refine zev_of (fun _ kk => zr_ift zi_135_26 rfl kk) ?_
  refine zev_of (fun _ kk => zr_sipush (v := (nI 1000)) (pc' := 37) zi_135_34 rfl rfl kk) ?_
  refine zev_of (fun _ kk => zr_s3 (pc' := 40) zi_135_37 rfl (m_isIn1 q) rfl kk) ?_
  refine zev_of (fun _ kk => zr_ift zi_135_40 rfl kk) ?_
  refine zev_of (fun _ kk => zr_aload_n (pc' := 50) zi_135_49 rfl rfl kk) ?_
  refine zev_of (fun _ kk => zr_get (pc' := 53) zi_135_50 (mput_at hc (k := 0) rfl) rfl rfl kk) ?_
  refine zev_of (fun _ kk => zr_iload_n (pc' := 54) zi_135_53 rfl rfl kk) ?_
  refine zev_of (fun _ kk => zr_iald (pc' := 55) zi_135_54 (mput_at hc (k := 6) rfl) (by decide) rfl rfl kk) ?_
  refine zev_of (fun _ kk => zr_istore_n (pc' := 56) zi_135_55 (Nat.le_of_ble_eq_true rfl) rfl rfl kk) ?_
  dsimp only [zst1, zst2, zkill, List.set, List.getElem?_cons_succ, List.getElem?_cons_zero]
  refine zev_of (fun _ kk => zr_aload_n (pc' := 57) zi_135_56 rfl rfl kk) ?_
  refine zev_of (fun _ kk => zr_get (pc' := 60) zi_135_57 (mput_at hc (k := 0) rfl) rfl rfl kk) ?_
  refine zev_of (fun _ kk => zr_iload_n (pc' := 61) zi_135_60 rfl rfl kk) ?_
  refine zev_of (fun _ kk => zr_iload_n (pc' := 62) zi_135_61 rfl rfl kk) ?_
  refine zev_of (fun _ kk => zr_iast (pc' := 63) zi_135_62 (by omega) (mput_at hc (k := 6) rfl) (by decide) rfl (mput_set (k := 6) (G' := updR _ 5 _) hc (by decide) rfl) kk) ?_
  refine zev_of (fun _ kk => zr_iload_n (pc' := 64) zi_135_63 rfl rfl kk) ?_
  refine zev_ret (zr_ireturn zi_135_64 rfl) ?_
  exact mq_of hc rfl rfl
theorem mo_forget (h1 : 1 ≤ c) (hc : c + 16 ≤ h.length) (hl : v 1 = 0) (h2 : v 2 = 0) (h3 : v 3 = 0) : zMo c (mput c G v r h) 136 [.ref c] 0 (.int 0) := by
  refine zev_calls (Nat.le_of_ble_eq_true rfl) ?_
  show zev 136 0 [some (.ref c), none] [] _ _
  refine zev_of (fun _ kk => zr_aload_n (pc' := 1) zi_136_0 rfl rfl kk) ?_
  refine zev_of (fun _ kk => zr_iconst (v := (nI 0)) (pc' := 2) zi_136_1 rfl rfl kk) ?_
  refine zev_of (fun _ kk => zr_put (pc' := 5) zi_136_2 (by omega) (mput_at hc (k := 0) rfl) (Nat.le_of_ble_eq_true rfl) rfl rfl (mput_set (k := 0) (v' := upd _ 0 _) hc (by decide) rfl) kk) ?_
  refine zev_of (fun _ kk => zr_aload_n (pc' := 6) zi_136_5 rfl rfl kk) ?_
  refine zev_of (fun _ kk => zr_get (pc' := 9) zi_136_6 (mput_at hc (k := 0) rfl) rfl rfl kk) ?_
  refine zev_of (fun _ kk => zr_istore_n (pc' := 10) zi_136_9 (Nat.le_of_ble_eq_true rfl) rfl rfl kk) ?_
  dsimp only [zst1, zst2, zkill, List.set, List.getElem?_cons_succ, List.getElem?_cons_zero]
  refine zev_of (fun _ kk => zr_aload_n (pc' := 11) zi_136_10 rfl rfl kk) ?_
  refine zev_of (fun _ kk => zr_iconst (v := (nI 0)) (pc' := 12) zi_136_11 rfl rfl kk) ?_
  refine zev_of (fun _ kk => zr_put (pc' := 15) zi_136_12 (by omega) (mput_at hc (k := 0) rfl) (Nat.le_of_ble_eq_true rfl) rfl rfl (mput_set (k := 0) (v' := upd (upd v 0 (nI 0)) 2 (nI 0)) hc (by decide) rfl) kk) ?_
  refine zev_of (fun _ kk => zr_aload_n (pc' := 16) zi_136_15 rfl rfl kk) ?_
  refine zev_of (fun _ kk => zr_iconst (v := (nI 0)) (pc' := 17) zi_136_16 rfl rfl kk) ?_
  refine zev_of (fun _ kk => zr_put (pc' := 20) zi_136_17 (by omega) (mput_at hc (k := 0) rfl) (Nat.le_of_ble_eq_true rfl) rfl rfl (mput_set (k := 0) (v' := upd (upd (upd v 0 (nI 0)) 2 (nI 0)) 3 (nI 0)) hc (by decide) rfl) kk) ?_
  refine zev_of (fun _ kk => zr_iload_n (pc' := 21) zi_136_20 rfl rfl kk) ?_
  refine zev_ret (zr_ireturn zi_136_21 rfl) ?_
  exact mq_of hc (congrArg Value.int (by exact h2)) rfl
theorem mo_many_a (h1 : 1 ≤ c) (hc : c + 16 ≤ h.length) (hl : v 1 = 0) (h2 : v 2 = 0) (h3 : v 3 = 0) (x : Int32) (q : ¬ (nI 0 ≤ x ∧ x ≤ nI 5)) : zMo c (mput c G v r h) 137 [.ref c, .int x] 1 (.int 0) := by
  refine zev_calls (Nat.le_of_ble_eq_true rfl) ?_
  show zev 137 0 [some (.ref c), some (.int x)] [] _ _
  refine zev_of (fun _ kk => zr_aload_n (pc' := 1) zi_137_0 rfl rfl kk) ?_
  refine zev_of (fun _ kk => zr_iconst (v := (nI 0)) (pc' := 2) zi_137_1 rfl rfl kk) ?_
  refine zev_of (fun _ kk => zr_put (pc' := 5) zi_137_2 (by omega) (mput_at hc (k := 0) rfl) (Nat.le_of_ble_eq_true rfl) rfl rfl (mput_set (k := 0) (v' := upd _ 0 _) hc (by decide) rfl) kk) ?_
  refine zev_of (fun _ kk => zr_aload_n (pc' := 6) zi_137_5 rfl rfl kk) ?_
  refine zev_of (fun _ kk => zr_n0 (pc' := 9) zi_137_6 (mput_at hc (k := 0) rfl) rfl (m_tellAll h1 hc (by exact hl) (by exact h2)) rfl kk) ?_
  refine zev_of (fun _ kk => zr_iload_n (pc' := 10) zi_137_9 rfl rfl kk) ?_
  refine zev_of (fun _ kk => zr_iconst (v := (nI 0)) (pc' := 11) zi_137_10 rfl rfl kk) ?_
  refine zev_of (fun _ kk => zr_iconst (v := (nI 5)) (pc' := 12) zi_137_11 rfl rfl kk) ?_
  refine zev_of (fun _ kk => zr_s3 (pc' := 15) zi_137_12 rfl (m_isIn0 q) rfl kk) ?_
  refine zev_of (fun _ kk => zr_ift zi_137_15 rfl kk) ?_
  refine zev_of (fun _ kk => zr_aload_n (pc' := 27) zi_137_26 rfl rfl kk) ?_
  refine zev_of (fun _ kk => zr_iconst (v := (nI 1)) (pc' := 28) zi_137_27 rfl rfl kk) ?_
  refine zev_of (fun _ kk => zr_v1 (pc' := 31) zi_137_28 (mput_at hc (k := 0) rfl) rfl (m_no h1 hc _) rfl kk) ?_
  refine zev_ret (zr_ireturn zi_137_31 rfl) ?_
  exact mq_of hc rfl rfl
theorem mo_many0 (h1 : 1 ≤ c) (hc : c + 16 ≤ h.length) (hl : v 1 = 0) (h2 : v 2 = 0) (h3 : v 3 = 0) : zMo c (mput c G v r h) 137 [.ref c, .int (nI 0)] 0 (.int 0) := by
  refine zev_calls (Nat.le_of_ble_eq_true rfl) ?_
  show zev 137 0 [some (.ref c), some (.int (nI 0))] [] _ _
  refine zev_of (fun _ kk => zr_aload_n (pc' := 1) zi_137_0 rfl rfl kk) ?_
  refine zev_of (fun _ kk => zr_iconst (v := (nI 0)) (pc' := 2) zi_137_1 rfl rfl kk) ?_
  refine zev_of (fun _ kk => zr_put (pc' := 5) zi_137_2 (by omega) (mput_at hc (k := 0) rfl) (Nat.le_of_ble_eq_true rfl) rfl rfl (mput_set (k := 0) (v' := upd _ 0 _) hc (by decide) rfl) kk) ?_
  refine zev_of (fun _ kk => zr_aload_n (pc' := 6) zi_137_5 rfl rfl kk) ?_
  refine zev_of (fun _ kk => zr_n0 (pc' := 9) zi_137_6 (mput_at hc (k := 0) rfl) rfl (m_tellAll h1 hc (by exact hl) (by exact h2)) rfl kk) ?_
  refine zev_of (fun _ kk => zr_iload_n (pc' := 10) zi_137_9 rfl rfl kk) ?_
  refine zev_of (fun _ kk => zr_iconst (v := (nI 0)) (pc' := 11) zi_137_10 rfl rfl kk) ?_
  refine zev_of (fun _ kk => zr_iconst (v := (nI 5)) (pc' := 12) zi_137_11 rfl rfl kk) ?_
  refine zev_of (fun _ kk => zr_s3 (pc' := 15) zi_137_12 rfl (m_isIn1 (by decide)) rfl kk) ?_
  refine zev_of (fun _ kk => zr_iff (pc' := 18) zi_137_15 rfl rfl kk) ?_
  refine zev_of (fun _ kk => zr_aload_n (pc' := 19) zi_137_18 rfl rfl kk) ?_
  refine zev_of (fun _ kk => zr_iload_n (pc' := 20) zi_137_19 rfl rfl kk) ?_
  refine zev_of (fun _ kk => zr_v1 (pc' := 23) zi_137_20 (mput_at hc (k := 0) rfl) rfl (m_manyNow0 hc (by exact hl)) rfl kk) ?_
  refine zev_of (fun _ kk => zr_goto zi_137_23 kk) ?_
  refine zev_ret (zr_ireturn zi_137_31 rfl) ?_
  exact mq_of hc rfl rfl
theorem mo_many1 (h1 : 1 ≤ c) (hc : c + 16 ≤ h.length) (hl : v 1 = 0) (h2 : v 2 = 0) (h3 : v 3 = 0) : zMo c (mput c G v r h) 137 [.ref c, .int (nI 1)] 0 (.int 0) := by
  refine zev_calls (Nat.le_of_ble_eq_true rfl) ?_
  show zev 137 0 [some (.ref c), some (.int (nI 1))] [] _ _
  refine zev_of (fun _ kk => zr_aload_n (pc' := 1) zi_137_0 rfl rfl kk) ?_
  refine zev_of (fun _ kk => zr_iconst (v := (nI 0)) (pc' := 2) zi_137_1 rfl rfl kk) ?_
  refine zev_of (fun _ kk => zr_put (pc' := 5) zi_137_2 (by omega) (mput_at hc (k := 0) rfl) (Nat.le_of_ble_eq_true rfl) rfl rfl (mput_set (k := 0) (v' := upd _ 0 _) hc (by decide) rfl) kk) ?_
  refine zev_of (fun _ kk => zr_aload_n (pc' := 6) zi_137_5 rfl rfl kk) ?_
  refine zev_of (fun _ kk => zr_n0 (pc' := 9) zi_137_6 (mput_at hc (k := 0) rfl) rfl (m_tellAll h1 hc (by exact hl) (by exact h2)) rfl kk) ?_
  refine zev_of (fun _ kk => zr_iload_n (pc' := 10) zi_137_9 rfl rfl kk) ?_
  refine zev_of (fun _ kk => zr_iconst (v := (nI 0)) (pc' := 11) zi_137_10 rfl rfl kk) ?_
  refine zev_of (fun _ kk => zr_iconst (v := (nI 5)) (pc' := 12) zi_137_11 rfl rfl kk) ?_
  refine zev_of (fun _ kk => zr_s3 (pc' := 15) zi_137_12 rfl (m_isIn1 (by decide)) rfl kk) ?_
  refine zev_of (fun _ kk => zr_iff (pc' := 18) zi_137_15 rfl rfl kk) ?_
  refine zev_of (fun _ kk => zr_aload_n (pc' := 19) zi_137_18 rfl rfl kk) ?_
  refine zev_of (fun _ kk => zr_iload_n (pc' := 20) zi_137_19 rfl rfl kk) ?_
  refine zev_of (fun _ kk => zr_v1 (pc' := 23) zi_137_20 (mput_at hc (k := 0) rfl) rfl (m_manyNow1 hc (by exact h2)) rfl kk) ?_
  refine zev_of (fun _ kk => zr_goto zi_137_23 kk) ?_
  refine zev_ret (zr_ireturn zi_137_31 rfl) ?_
  exact mq_of hc rfl rfl
theorem mo_many2 (h1 : 1 ≤ c) (hc : c + 16 ≤ h.length) (hl : v 1 = 0) (h2 : v 2 = 0) (h3 : v 3 = 0) : zMo c (mput c G v r h) 137 [.ref c, .int (nI 2)] 0 (.int 0) := by
  refine zev_calls (Nat.le_of_ble_eq_true rfl) ?_
  show zev 137 0 [some (.ref c), some (.int (nI 2))] [] _ _
  refine zev_of (fun _ kk => zr_aload_n (pc' := 1) zi_137_0 rfl rfl kk) ?_
  refine zev_of (fun _ kk => zr_iconst (v := (nI 0)) (pc' := 2) zi_137_1 rfl rfl kk) ?_
  refine zev_of (fun _ kk => zr_put (pc' := 5) zi_137_2 (by omega) (mput_at hc (k := 0) rfl) (Nat.le_of_ble_eq_true rfl) rfl rfl (mput_set (k := 0) (v' := upd _ 0 _) hc (by decide) rfl) kk) ?_
  refine zev_of (fun _ kk => zr_aload_n (pc' := 6) zi_137_5 rfl rfl kk) ?_
  refine zev_of (fun _ kk => zr_n0 (pc' := 9) zi_137_6 (mput_at hc (k := 0) rfl) rfl (m_tellAll h1 hc (by exact hl) (by exact h2)) rfl kk) ?_
  refine zev_of (fun _ kk => zr_iload_n (pc' := 10) zi_137_9 rfl rfl kk) ?_
  refine zev_of (fun _ kk => zr_iconst (v := (nI 0)) (pc' := 11) zi_137_10 rfl rfl kk) ?_
  refine zev_of (fun _ kk => zr_iconst (v := (nI 5)) (pc' := 12) zi_137_11 rfl rfl kk) ?_
  refine zev_of (fun _ kk => zr_s3 (pc' := 15) zi_137_12 rfl (m_isIn1 (by decide)) rfl kk) ?_
  refine zev_of (fun _ kk => zr_iff (pc' := 18) zi_137_15 rfl rfl kk) ?_
  refine zev_of (fun _ kk => zr_aload_n (pc' := 19) zi_137_18 rfl rfl kk) ?_
  refine zev_of (fun _ kk => zr_iload_n (pc' := 20) zi_137_19 rfl rfl kk) ?_
  refine zev_of (fun _ kk => zr_v1 (pc' := 23) zi_137_20 (mput_at hc (k := 0) rfl) rfl (m_manyNow2 hc (by exact h3)) rfl kk) ?_
  refine zev_of (fun _ kk => zr_goto zi_137_23 kk) ?_
  refine zev_ret (zr_ireturn zi_137_31 rfl) ?_
  exact mq_of hc rfl rfl
theorem mo_many3 (h1 : 1 ≤ c) (hc : c + 16 ≤ h.length) (hl : v 1 = 0) (h2 : v 2 = 0) (h3 : v 3 = 0) : zMo c (mput c G v r h) 137 [.ref c, .int (nI 3)] 0 (.int 0) := by
  refine zev_calls (Nat.le_of_ble_eq_true rfl) ?_
  show zev 137 0 [some (.ref c), some (.int (nI 3))] [] _ _
  refine zev_of (fun _ kk => zr_aload_n (pc' := 1) zi_137_0 rfl rfl kk) ?_
  refine zev_of (fun _ kk => zr_iconst (v := (nI 0)) (pc' := 2) zi_137_1 rfl rfl kk) ?_
  refine zev_of (fun _ kk => zr_put (pc' := 5) zi_137_2 (by omega) (mput_at hc (k := 0) rfl) (Nat.le_of_ble_eq_true rfl) rfl rfl (mput_set (k := 0) (v' := upd _ 0 _) hc (by decide) rfl) kk) ?_
  refine zev_of (fun _ kk => zr_aload_n (pc' := 6) zi_137_5 rfl rfl kk) ?_
  refine zev_of (fun _ kk => zr_n0 (pc' := 9) zi_137_6 (mput_at hc (k := 0) rfl) rfl (m_tellAll h1 hc (by exact hl) (by exact h2)) rfl kk) ?_
  refine zev_of (fun _ kk => zr_iload_n (pc' := 10) zi_137_9 rfl rfl kk) ?_
  refine zev_of (fun _ kk => zr_iconst (v := (nI 0)) (pc' := 11) zi_137_10 rfl rfl kk) ?_
  refine zev_of (fun _ kk => zr_iconst (v := (nI 5)) (pc' := 12) zi_137_11 rfl rfl kk) ?_
  refine zev_of (fun _ kk => zr_s3 (pc' := 15) zi_137_12 rfl (m_isIn1 (by decide)) rfl kk) ?_
  refine zev_of (fun _ kk => zr_iff (pc' := 18) zi_137_15 rfl rfl kk) ?_
  refine zev_of (fun _ kk => zr_aload_n (pc' := 19) zi_137_18 rfl rfl kk) ?_
  refine zev_of (fun _ kk => zr_iload_n (pc' := 20) zi_137_19 rfl rfl kk) ?_
  refine zev_of (fun _ kk => zr_v1 (pc' := 23) zi_137_20 (mput_at hc (k := 0) rfl) rfl (m_manyNow3 hc rfl) rfl kk) ?_
  refine zev_of (fun _ kk => zr_goto zi_137_23 kk) ?_
  refine zev_ret (zr_ireturn zi_137_31 rfl) ?_
  exact mq_of hc rfl rfl
theorem mo_many4 (h1 : 1 ≤ c) (hc : c + 16 ≤ h.length) (hl : v 1 = 0) (h2 : v 2 = 0) (h3 : v 3 = 0) : zMo c (mput c G v r h) 137 [.ref c, .int (nI 4)] 0 (.int 0) := by
  refine zev_calls (Nat.le_of_ble_eq_true rfl) ?_
  show zev 137 0 [some (.ref c), some (.int (nI 4))] [] _ _
  refine zev_of (fun _ kk => zr_aload_n (pc' := 1) zi_137_0 rfl rfl kk) ?_
  refine zev_of (fun _ kk => zr_iconst (v := (nI 0)) (pc' := 2) zi_137_1 rfl rfl kk) ?_
  refine zev_of (fun _ kk => zr_put (pc' := 5) zi_137_2 (by omega) (mput_at hc (k := 0) rfl) (Nat.le_of_ble_eq_true rfl) rfl rfl (mput_set (k := 0) (v' := upd _ 0 _) hc (by decide) rfl) kk) ?_
  refine zev_of (fun _ kk => zr_aload_n (pc' := 6) zi_137_5 rfl rfl kk) ?_
  refine zev_of (fun _ kk => zr_n0 (pc' := 9) zi_137_6 (mput_at hc (k := 0) rfl) rfl (m_tellAll h1 hc (by exact hl) (by exact h2)) rfl kk) ?_
  refine zev_of (fun _ kk => zr_iload_n (pc' := 10) zi_137_9 rfl rfl kk) ?_
  refine zev_of (fun _ kk => zr_iconst (v := (nI 0)) (pc' := 11) zi_137_10 rfl rfl kk) ?_
  refine zev_of (fun _ kk => zr_iconst (v := (nI 5)) (pc' := 12) zi_137_11 rfl rfl kk) ?_
  refine zev_of (fun _ kk => zr_s3 (pc' := 15) zi_137_12 rfl (m_isIn1 (by decide)) rfl kk) ?_
  refine zev_of (fun _ kk => zr_iff (pc' := 18) zi_137_15 rfl rfl kk) ?_
  refine zev_of (fun _ kk => zr_aload_n (pc' := 19) zi_137_18 rfl rfl kk) ?_
  refine zev_of (fun _ kk => zr_iload_n (pc' := 20) zi_137_19 rfl rfl kk) ?_
  refine zev_of (fun _ kk => zr_v1 (pc' := 23) zi_137_20 (mput_at hc (k := 0) rfl) rfl (m_manyNow4 hc rfl) rfl kk) ?_
  refine zev_of (fun _ kk => zr_goto zi_137_23 kk) ?_
  refine zev_ret (zr_ireturn zi_137_31 rfl) ?_
  exact mq_of hc rfl rfl
theorem mo_many5 (h1 : 1 ≤ c) (hc : c + 16 ≤ h.length) (hl : v 1 = 0) (h2 : v 2 = 0) (h3 : v 3 = 0) : zMo c (mput c G v r h) 137 [.ref c, .int (nI 5)] 0 (.int 0) := by
  refine zev_calls (Nat.le_of_ble_eq_true rfl) ?_
  show zev 137 0 [some (.ref c), some (.int (nI 5))] [] _ _
  refine zev_of (fun _ kk => zr_aload_n (pc' := 1) zi_137_0 rfl rfl kk) ?_
  refine zev_of (fun _ kk => zr_iconst (v := (nI 0)) (pc' := 2) zi_137_1 rfl rfl kk) ?_
  refine zev_of (fun _ kk => zr_put (pc' := 5) zi_137_2 (by omega) (mput_at hc (k := 0) rfl) (Nat.le_of_ble_eq_true rfl) rfl rfl (mput_set (k := 0) (v' := upd _ 0 _) hc (by decide) rfl) kk) ?_
  refine zev_of (fun _ kk => zr_aload_n (pc' := 6) zi_137_5 rfl rfl kk) ?_
  refine zev_of (fun _ kk => zr_n0 (pc' := 9) zi_137_6 (mput_at hc (k := 0) rfl) rfl (m_tellAll h1 hc (by exact hl) (by exact h2)) rfl kk) ?_
  refine zev_of (fun _ kk => zr_iload_n (pc' := 10) zi_137_9 rfl rfl kk) ?_
  refine zev_of (fun _ kk => zr_iconst (v := (nI 0)) (pc' := 11) zi_137_10 rfl rfl kk) ?_
  refine zev_of (fun _ kk => zr_iconst (v := (nI 5)) (pc' := 12) zi_137_11 rfl rfl kk) ?_
  refine zev_of (fun _ kk => zr_s3 (pc' := 15) zi_137_12 rfl (m_isIn1 (by decide)) rfl kk) ?_
  refine zev_of (fun _ kk => zr_iff (pc' := 18) zi_137_15 rfl rfl kk) ?_
  refine zev_of (fun _ kk => zr_aload_n (pc' := 19) zi_137_18 rfl rfl kk) ?_
  refine zev_of (fun _ kk => zr_iload_n (pc' := 20) zi_137_19 rfl rfl kk) ?_
  refine zev_of (fun _ kk => zr_v1 (pc' := 23) zi_137_20 (mput_at hc (k := 0) rfl) rfl (m_manyNow5 hc rfl) rfl kk) ?_
  refine zev_of (fun _ kk => zr_goto zi_137_23 kk) ?_
  refine zev_ret (zr_ireturn zi_137_31 rfl) ?_
  exact mq_of hc rfl rfl
theorem mo_usual (h1 : 1 ≤ c) (hc : c + 16 ≤ h.length) (hl : v 1 = 0) (h2 : v 2 = 0) (h3 : v 3 = 0) : zMo c (mput c G v r h) 146 [.ref c] 0 (.int (-1)) := by
  refine zev_calls (Nat.le_of_ble_eq_true rfl) ?_
  show zev 146 0 [some (.ref c)] [] _ _
  refine zev_of (fun _ kk => zr_aload_n (pc' := 1) zi_146_0 rfl rfl kk) ?_
  refine zev_of (fun _ kk => zr_iconst (v := (nI 0)) (pc' := 2) zi_146_1 rfl rfl kk) ?_
  refine zev_of (fun _ kk => zr_put (pc' := 5) zi_146_2 (by omega) (mput_at hc (k := 0) rfl) (Nat.le_of_ble_eq_true rfl) rfl rfl (mput_set (k := 0) (v' := upd _ 0 _) hc (by decide) rfl) kk) ?_
  refine zev_of (fun _ kk => zr_aload_n (pc' := 6) zi_146_5 rfl rfl kk) ?_
  refine zev_of (fun _ kk => zr_n0 (pc' := 9) zi_146_6 (mput_at hc (k := 0) rfl) rfl (m_tellSessions_ h1 hc (by exact hl)) rfl kk) ?_
  refine zev_of (fun _ kk => zr_aload_n (pc' := 10) zi_146_9 rfl rfl kk) ?_
  refine zev_of (fun _ kk => zr_v0 (pc' := 13) zi_146_10 (mput_at hc (k := 0) rfl) rfl (m_usualNow hc rfl) rfl kk) ?_
  refine zev_ret (zr_ireturn zi_146_13 rfl) ?_
  exact mq_of hc rfl rfl
theorem mo_meanSession (h1 : 1 ≤ c) (hc : c + 16 ≤ h.length) (hl : v 1 = 0) (h2 : v 2 = 0) (h3 : v 3 = 0) : zMo c (mput c G v r h) 147 [.ref c] 0 (.double 0) := by
  refine zev_calls (Nat.le_of_ble_eq_true rfl) ?_
  show zev 147 0 [some (.ref c), none, none] [] _ _
  refine zev_of (fun _ kk => zr_aload_n (pc' := 1) zi_147_0 rfl rfl kk) ?_
  refine zev_of (fun _ kk => zr_iconst (v := (nI 0)) (pc' := 2) zi_147_1 rfl rfl kk) ?_
  refine zev_of (fun _ kk => zr_put (pc' := 5) zi_147_2 (by omega) (mput_at hc (k := 0) rfl) (Nat.le_of_ble_eq_true rfl) rfl rfl (mput_set (k := 0) (v' := upd _ 0 _) hc (by decide) rfl) kk) ?_
  refine zev_of (fun _ kk => zr_aload_n (pc' := 6) zi_147_5 rfl rfl kk) ?_
  refine zev_of (fun _ kk => zr_n0 (pc' := 9) zi_147_6 (mput_at hc (k := 0) rfl) rfl (m_tellSessions_ h1 hc (by exact hl)) rfl kk) ?_
  refine zev_of (fun _ kk => zr_iconst (v := (nI 0)) (pc' := 10) zi_147_9 rfl rfl kk) ?_
  refine zev_of (fun _ kk => zr_istore_n (pc' := 11) zi_147_10 (Nat.le_of_ble_eq_true rfl) rfl rfl kk) ?_
  dsimp only [zst1, zst2, zkill, List.set, List.getElem?_cons_succ, List.getElem?_cons_zero]
  refine zev_of (fun _ kk => zr_iconst (v := (nI 0)) (pc' := 12) zi_147_11 rfl rfl kk) ?_
  refine zev_of (fun _ kk => zr_istore_n (pc' := 13) zi_147_12 (Nat.le_of_ble_eq_true rfl) rfl rfl kk) ?_
  dsimp only [zst1, zst2, zkill, List.set, List.getElem?_cons_succ, List.getElem?_cons_zero]
  refine zev_of (fun _ kk => zr_iload_n (pc' := 14) zi_147_13 rfl rfl kk) ?_
  refine zev_of (fun _ kk => zr_aload_n (pc' := 15) zi_147_14 rfl rfl kk) ?_
  refine zev_of (fun _ kk => zr_get (pc' := 18) zi_147_15 (mput_at hc (k := 0) rfl) rfl rfl kk) ?_
  refine zev_of (fun _ kk => zr_icmpt zi_147_18 (by show zcnd _ _ (v 1) = _; rw [hl]; rfl) kk) ?_
  refine zev_of (fun _ kk => zr_aload_n (pc' := 46) zi_147_45 rfl rfl kk) ?_
  refine zev_of (fun _ kk => zr_get (pc' := 49) zi_147_46 (mput_at hc (k := 0) rfl) rfl rfl kk) ?_
  refine zev_of (fun _ kk => zr_iff (pc' := 52) zi_147_49 rfl rfl kk) ?_
  refine zev_of (fun _ kk => zr_dconst (pc' := 53) zi_147_52 rfl kk) ?_
  refine zev_of (fun _ kk => zr_goto zi_147_53 kk) ?_
  refine zev_ret (zr_dreturn zi_147_64 rfl) ?_
  exact mq_of hc rfl rfl
theorem mo_sessionsWith_a (h1 : 1 ≤ c) (hc : c + 16 ≤ h.length) (hl : v 1 = 0) (h2 : v 2 = 0) (h3 : v 3 = 0) (x : Int32) (q : ¬ (nI 0 ≤ x ∧ x ≤ nI 1000)) : zMo c (mput c G v r h) 154 [.ref c, .int x] 1 (.int 0) := by
  refine zev_calls (Nat.le_of_ble_eq_true rfl) ?_
  show zev 154 0 [some (.ref c), some (.int x)] [] _ _
  refine zev_of (fun _ kk => zr_aload_n (pc' := 1) zi_154_0 rfl rfl kk) ?_
  refine zev_of (fun _ kk => zr_iconst (v := (nI 0)) (pc' := 2) zi_154_1 rfl rfl kk) ?_
  refine zev_of (fun _ kk => zr_put (pc' := 5) zi_154_2 (by omega) (mput_at hc (k := 0) rfl) (Nat.le_of_ble_eq_true rfl) rfl rfl (mput_set (k := 0) (v' := upd _ 0 _) hc (by decide) rfl) kk) ?_
  refine zev_of (fun _ kk => zr_iload_n (pc' := 6) zi_154_5 rfl rfl kk) ?_
  refine zev_of (fun _ kk => zr_iconst (v := (nI 0)) (pc' := 7) zi_154_6 rfl rfl kk) ?_
  refine zev_of (fun _ kk => zr_sipush (v := (nI 1000)) (pc' := 10) zi_154_7 rfl rfl kk) ?_
  refine zev_of (fun _ kk => zr_s3 (pc' := 13) zi_154_10 rfl (m_isIn0 q) rfl kk) ?_
  refine zev_of (fun _ kk => zr_ift zi_154_13 rfl kk) ?_
  refine zev_of (fun _ kk => zr_aload_n (pc' := 25) zi_154_24 rfl rfl kk) ?_
  refine zev_of (fun _ kk => zr_iconst (v := (nI 1)) (pc' := 26) zi_154_25 rfl rfl kk) ?_
  refine zev_of (fun _ kk => zr_v1 (pc' := 29) zi_154_26 (mput_at hc (k := 0) rfl) rfl (m_no h1 hc _) rfl kk) ?_
  refine zev_ret (zr_ireturn zi_154_29 rfl) ?_
  exact mq_of hc rfl rfl
theorem mo_sessionsWith (h1 : 1 ≤ c) (hc : c + 16 ≤ h.length) (hl : v 1 = 0) (h2 : v 2 = 0) (h3 : v 3 = 0) (x : Int32) (q : (nI 0 ≤ x ∧ x ≤ nI 1000)) : zMo c (mput c G v r h) 154 [.ref c, .int x] 0 (.int 0) := by
  refine zev_calls (Nat.le_of_ble_eq_true rfl) ?_
  show zev 154 0 [some (.ref c), some (.int x)] [] _ _
  refine zev_of (fun _ kk => zr_aload_n (pc' := 1) zi_154_0 rfl rfl kk) ?_
  refine zev_of (fun _ kk => zr_iconst (v := (nI 0)) (pc' := 2) zi_154_1 rfl rfl kk) ?_
  refine zev_of (fun _ kk => zr_put (pc' := 5) zi_154_2 (by omega) (mput_at hc (k := 0) rfl) (Nat.le_of_ble_eq_true rfl) rfl rfl (mput_set (k := 0) (v' := upd _ 0 _) hc (by decide) rfl) kk) ?_
  refine zev_of (fun _ kk => zr_iload_n (pc' := 6) zi_154_5 rfl rfl kk) ?_
  refine zev_of (fun _ kk => zr_iconst (v := (nI 0)) (pc' := 7) zi_154_6 rfl rfl kk) ?_
  refine zev_of (fun _ kk => zr_sipush (v := (nI 1000)) (pc' := 10) zi_154_7 rfl rfl kk) ?_
  refine zev_of (fun _ kk => zr_s3 (pc' := 13) zi_154_10 rfl (m_isIn1 q) rfl kk) ?_
  refine zev_of (fun _ kk => zr_iff (pc' := 16) zi_154_13 rfl rfl kk) ?_
  refine zev_of (fun _ kk => zr_aload_n (pc' := 17) zi_154_16 rfl rfl kk) ?_
  refine zev_of (fun _ kk => zr_iload_n (pc' := 18) zi_154_17 rfl rfl kk) ?_
  refine zev_of (fun _ kk => zr_v1 (pc' := 21) zi_154_18 (mput_at hc (k := 0) rfl) rfl (m_tellSessions h1 hc (by exact hl) _) rfl kk) ?_
  refine zev_of (fun _ kk => zr_goto zi_154_21 kk) ?_
  refine zev_ret (zr_ireturn zi_154_29 rfl) ?_
  exact mq_of hc rfl rfl
theorem mo_templatesWith_a (h1 : 1 ≤ c) (hc : c + 16 ≤ h.length) (hl : v 1 = 0) (h2 : v 2 = 0) (h3 : v 3 = 0) (x : Int32) (q : ¬ (nI 0 ≤ x ∧ x ≤ nI 100)) : zMo c (mput c G v r h) 153 [.ref c, .int x] 1 (.int 0) := by
  refine zev_calls (Nat.le_of_ble_eq_true rfl) ?_
  show zev 153 0 [some (.ref c), some (.int x), none, none] [] _ _
  refine zev_of (fun _ kk => zr_aload_n (pc' := 1) zi_153_0 rfl rfl kk) ?_
  refine zev_of (fun _ kk => zr_iconst (v := (nI 0)) (pc' := 2) zi_153_1 rfl rfl kk) ?_
  refine zev_of (fun _ kk => zr_put (pc' := 5) zi_153_2 (by omega) (mput_at hc (k := 0) rfl) (Nat.le_of_ble_eq_true rfl) rfl rfl (mput_set (k := 0) (v' := upd _ 0 _) hc (by decide) rfl) kk) ?_
  refine zev_of (fun _ kk => zr_iload_n (pc' := 6) zi_153_5 rfl rfl kk) ?_
  refine zev_of (fun _ kk => zr_iconst (v := (nI 0)) (pc' := 7) zi_153_6 rfl rfl kk) ?_
  refine zev_of (fun _ kk => zr_bipush (v := (nI 100)) (pc' := 9) zi_153_7 rfl rfl kk) ?_
  refine zev_of (fun _ kk => zr_s3 (pc' := 12) zi_153_9 rfl (m_isIn0 q) rfl kk) ?_
  refine zev_of (fun _ kk => zr_iff (pc' := 15) zi_153_12 rfl rfl kk) ?_
  refine zev_of (fun _ kk => zr_aload_n (pc' := 16) zi_153_15 rfl rfl kk) ?_
  refine zev_of (fun _ kk => zr_iconst (v := (nI 1)) (pc' := 17) zi_153_16 rfl rfl kk) ?_
  refine zev_of (fun _ kk => zr_v1 (pc' := 20) zi_153_17 (mput_at hc (k := 0) rfl) rfl (m_no h1 hc _) rfl kk) ?_
  refine zev_ret (zr_ireturn zi_153_20 rfl) ?_
  exact mq_of hc rfl rfl
theorem mo_digest (h1 : 1 ≤ c) (hc : c + 16 ≤ h.length) (hl : v 1 = 0) (h2 : v 2 = 0) (h3 : v 3 = 0) : zMo c (mput c G v r h) 156 [.ref c] 0 (.long 1598070190637434) := by
  refine zev_calls (Nat.le_of_ble_eq_true rfl) ?_
  show zev 156 0 [some (.ref c), none, none, none, none] [] _ _
  refine zev_of (fun _ kk => zr_aload_n (pc' := 1) zi_156_0 rfl rfl kk) ?_
  refine zev_of (fun _ kk => zr_iconst (v := (nI 0)) (pc' := 2) zi_156_1 rfl rfl kk) ?_
  refine zev_of (fun _ kk => zr_put (pc' := 5) zi_156_2 (by omega) (mput_at hc (k := 0) rfl) (Nat.le_of_ble_eq_true rfl) rfl rfl (mput_set (k := 0) (v' := upd _ 0 _) hc (by decide) rfl) kk) ?_
  refine zev_of (fun _ kk => zr_aload_n (pc' := 6) zi_156_5 rfl rfl kk) ?_
  refine zev_of (fun _ kk => zr_n0 (pc' := 9) zi_156_6 (mput_at hc (k := 0) rfl) rfl (m_tellAll h1 hc (by exact hl) (by exact h2)) rfl kk) ?_
  refine zev_of (fun _ kk => zr_ldc2_w (pc' := 12) zi_156_9 rfl rfl kk) ?_
  refine zev_of (fun _ kk => zr_lstore_n (pc' := 13) zi_156_12 (Nat.le_of_ble_eq_true rfl) rfl rfl kk) ?_
  dsimp only [zst1, zst2, zkill, List.set, List.getElem?_cons_succ, List.getElem?_cons_zero]
  refine zev_of (fun _ kk => zr_iconst (v := (nI 0)) (pc' := 14) zi_156_13 rfl rfl kk) ?_
  refine zev_of (fun _ kk => zr_istore_n (pc' := 15) zi_156_14 (Nat.le_of_ble_eq_true rfl) rfl rfl kk) ?_
  dsimp only [zst1, zst2, zkill, List.set, List.getElem?_cons_succ, List.getElem?_cons_zero]
  refine zev_of (fun _ kk => zr_iload_n (pc' := 16) zi_156_15 rfl rfl kk) ?_
  refine zev_of (fun _ kk => zr_bipush (v := (nI 6)) (pc' := 18) zi_156_16 rfl rfl kk) ?_
  refine zev_of (fun _ kk => zr_icmpf (pc' := 21) zi_156_18 rfl rfl kk) ?_
  refine zev_of (fun _ kk => zr_lload_n (pc' := 22) zi_156_21 rfl rfl kk) ?_
  refine zev_of (fun _ kk => zr_ldc2_w (pc' := 25) zi_156_22 rfl rfl kk) ?_
  refine zev_of (fun _ kk => zr_lmul (pc' := 26) zi_156_25 rfl rfl kk) ?_
  refine zev_of (fun _ kk => zr_aload_n (pc' := 27) zi_156_26 rfl rfl kk) ?_
  refine zev_of (fun _ kk => zr_iload_n (pc' := 28) zi_156_27 rfl rfl kk) ?_
  refine zev_of (fun _ kk => zr_v1 (pc' := 31) zi_156_28 (mput_at hc (k := 0) rfl) rfl (m_manyNow0 hc (by exact hl)) rfl kk) ?_
  refine zev_of (fun _ kk => zr_i2l (pc' := 32) zi_156_31 rfl kk) ?_
  refine zev_of (fun _ kk => zr_ladd (pc' := 33) zi_156_32 rfl rfl kk) ?_
  refine zev_of (fun _ kk => zr_lstore_n (pc' := 34) zi_156_33 (Nat.le_of_ble_eq_true rfl) rfl rfl kk) ?_
  dsimp only [zst1, zst2, zkill, List.set, List.getElem?_cons_succ, List.getElem?_cons_zero]
  refine zev_of (fun _ kk => zr_iinc (pc' := 37) zi_156_34 rfl (by first | exact n_inc _ | rfl) rfl rfl kk) ?_
  dsimp only [zst1, zst2, zkill, List.set, List.getElem?_cons_succ, List.getElem?_cons_zero]
  refine zev_of (fun _ kk => zr_goto zi_156_37 kk) ?_
  refine zev_of (fun _ kk => zr_iload_n (pc' := 16) zi_156_15 rfl rfl kk) ?_
  refine zev_of (fun _ kk => zr_bipush (v := (nI 6)) (pc' := 18) zi_156_16 rfl rfl kk) ?_
  refine zev_of (fun _ kk => zr_icmpf (pc' := 21) zi_156_18 rfl rfl kk) ?_
  refine zev_of (fun _ kk => zr_lload_n (pc' := 22) zi_156_21 rfl rfl kk) ?_
  refine zev_of (fun _ kk => zr_ldc2_w (pc' := 25) zi_156_22 rfl rfl kk) ?_
  refine zev_of (fun _ kk => zr_lmul (pc' := 26) zi_156_25 rfl rfl kk) ?_
  refine zev_of (fun _ kk => zr_aload_n (pc' := 27) zi_156_26 rfl rfl kk) ?_
  refine zev_of (fun _ kk => zr_iload_n (pc' := 28) zi_156_27 rfl rfl kk) ?_
  refine zev_of (fun _ kk => zr_v1 (pc' := 31) zi_156_28 (mput_at hc (k := 0) rfl) rfl (m_manyNow1 hc (by exact h2)) rfl kk) ?_
  refine zev_of (fun _ kk => zr_i2l (pc' := 32) zi_156_31 rfl kk) ?_
  refine zev_of (fun _ kk => zr_ladd (pc' := 33) zi_156_32 rfl rfl kk) ?_
  refine zev_of (fun _ kk => zr_lstore_n (pc' := 34) zi_156_33 (Nat.le_of_ble_eq_true rfl) rfl rfl kk) ?_
  dsimp only [zst1, zst2, zkill, List.set, List.getElem?_cons_succ, List.getElem?_cons_zero]
  refine zev_of (fun _ kk => zr_iinc (pc' := 37) zi_156_34 rfl (by first | exact n_inc _ | rfl) rfl rfl kk) ?_
  dsimp only [zst1, zst2, zkill, List.set, List.getElem?_cons_succ, List.getElem?_cons_zero]
  refine zev_of (fun _ kk => zr_goto zi_156_37 kk) ?_
  refine zev_of (fun _ kk => zr_iload_n (pc' := 16) zi_156_15 rfl rfl kk) ?_
  refine zev_of (fun _ kk => zr_bipush (v := (nI 6)) (pc' := 18) zi_156_16 rfl rfl kk) ?_
  refine zev_of (fun _ kk => zr_icmpf (pc' := 21) zi_156_18 rfl rfl kk) ?_
  refine zev_of (fun _ kk => zr_lload_n (pc' := 22) zi_156_21 rfl rfl kk) ?_
  refine zev_of (fun _ kk => zr_ldc2_w (pc' := 25) zi_156_22 rfl rfl kk) ?_
  refine zev_of (fun _ kk => zr_lmul (pc' := 26) zi_156_25 rfl rfl kk) ?_
  refine zev_of (fun _ kk => zr_aload_n (pc' := 27) zi_156_26 rfl rfl kk) ?_
  refine zev_of (fun _ kk => zr_iload_n (pc' := 28) zi_156_27 rfl rfl kk) ?_
  refine zev_of (fun _ kk => zr_v1 (pc' := 31) zi_156_28 (mput_at hc (k := 0) rfl) rfl (m_manyNow2 hc (by exact h3)) rfl kk) ?_
  refine zev_of (fun _ kk => zr_i2l (pc' := 32) zi_156_31 rfl kk) ?_
  refine zev_of (fun _ kk => zr_ladd (pc' := 33) zi_156_32 rfl rfl kk) ?_
  refine zev_of (fun _ kk => zr_lstore_n (pc' := 34) zi_156_33 (Nat.le_of_ble_eq_true rfl) rfl rfl kk) ?_
  dsimp only [zst1, zst2, zkill, List.set, List.getElem?_cons_succ, List.getElem?_cons_zero]
  refine zev_of (fun _ kk => zr_iinc (pc' := 37) zi_156_34 rfl (by first | exact n_inc _ | rfl) rfl rfl kk) ?_
  dsimp only [zst1, zst2, zkill, List.set, List.getElem?_cons_succ, List.getElem?_cons_zero]
  refine zev_of (fun _ kk => zr_goto zi_156_37 kk) ?_
  refine zev_of (fun _ kk => zr_iload_n (pc' := 16) zi_156_15 rfl rfl kk) ?_
  refine zev_of (fun _ kk => zr_bipush (v := (nI 6)) (pc' := 18) zi_156_16 rfl rfl kk) ?_
  refine zev_of (fun _ kk => zr_icmpf (pc' := 21) zi_156_18 rfl rfl kk) ?_
  refine zev_of (fun _ kk => zr_lload_n (pc' := 22) zi_156_21 rfl rfl kk) ?_
  refine zev_of (fun _ kk => zr_ldc2_w (pc' := 25) zi_156_22 rfl rfl kk) ?_
  refine zev_of (fun _ kk => zr_lmul (pc' := 26) zi_156_25 rfl rfl kk) ?_
  refine zev_of (fun _ kk => zr_aload_n (pc' := 27) zi_156_26 rfl rfl kk) ?_
  refine zev_of (fun _ kk => zr_iload_n (pc' := 28) zi_156_27 rfl rfl kk) ?_
  refine zev_of (fun _ kk => zr_v1 (pc' := 31) zi_156_28 (mput_at hc (k := 0) rfl) rfl (m_manyNow3 hc rfl) rfl kk) ?_
  refine zev_of (fun _ kk => zr_i2l (pc' := 32) zi_156_31 rfl kk) ?_
  refine zev_of (fun _ kk => zr_ladd (pc' := 33) zi_156_32 rfl rfl kk) ?_
  refine zev_of (fun _ kk => zr_lstore_n (pc' := 34) zi_156_33 (Nat.le_of_ble_eq_true rfl) rfl rfl kk) ?_
  dsimp only [zst1, zst2, zkill, List.set, List.getElem?_cons_succ, List.getElem?_cons_zero]
  refine zev_of (fun _ kk => zr_iinc (pc' := 37) zi_156_34 rfl (by first | exact n_inc _ | rfl) rfl rfl kk) ?_
  dsimp only [zst1, zst2, zkill, List.set, List.getElem?_cons_succ, List.getElem?_cons_zero]
  refine zev_of (fun _ kk => zr_goto zi_156_37 kk) ?_
  refine zev_of (fun _ kk => zr_iload_n (pc' := 16) zi_156_15 rfl rfl kk) ?_
  refine zev_of (fun _ kk => zr_bipush (v := (nI 6)) (pc' := 18) zi_156_16 rfl rfl kk) ?_
  refine zev_of (fun _ kk => zr_icmpf (pc' := 21) zi_156_18 rfl rfl kk) ?_
  refine zev_of (fun _ kk => zr_lload_n (pc' := 22) zi_156_21 rfl rfl kk) ?_
  refine zev_of (fun _ kk => zr_ldc2_w (pc' := 25) zi_156_22 rfl rfl kk) ?_
  refine zev_of (fun _ kk => zr_lmul (pc' := 26) zi_156_25 rfl rfl kk) ?_
  refine zev_of (fun _ kk => zr_aload_n (pc' := 27) zi_156_26 rfl rfl kk) ?_
  refine zev_of (fun _ kk => zr_iload_n (pc' := 28) zi_156_27 rfl rfl kk) ?_
  refine zev_of (fun _ kk => zr_v1 (pc' := 31) zi_156_28 (mput_at hc (k := 0) rfl) rfl (m_manyNow4 hc rfl) rfl kk) ?_
  refine zev_of (fun _ kk => zr_i2l (pc' := 32) zi_156_31 rfl kk) ?_
  refine zev_of (fun _ kk => zr_ladd (pc' := 33) zi_156_32 rfl rfl kk) ?_
  refine zev_of (fun _ kk => zr_lstore_n (pc' := 34) zi_156_33 (Nat.le_of_ble_eq_true rfl) rfl rfl kk) ?_
  dsimp only [zst1, zst2, zkill, List.set, List.getElem?_cons_succ, List.getElem?_cons_zero]
  refine zev_of (fun _ kk => zr_iinc (pc' := 37) zi_156_34 rfl (by first | exact n_inc _ | rfl) rfl rfl kk) ?_
  dsimp only [zst1, zst2, zkill, List.set, List.getElem?_cons_succ, List.getElem?_cons_zero]
  refine zev_of (fun _ kk => zr_goto zi_156_37 kk) ?_
  refine zev_of (fun _ kk => zr_iload_n (pc' := 16) zi_156_15 rfl rfl kk) ?_
  refine zev_of (fun _ kk => zr_bipush (v := (nI 6)) (pc' := 18) zi_156_16 rfl rfl kk) ?_
  refine zev_of (fun _ kk => zr_icmpf (pc' := 21) zi_156_18 rfl rfl kk) ?_
  refine zev_of (fun _ kk => zr_lload_n (pc' := 22) zi_156_21 rfl rfl kk) ?_
  refine zev_of (fun _ kk => zr_ldc2_w (pc' := 25) zi_156_22 rfl rfl kk) ?_
  refine zev_of (fun _ kk => zr_lmul (pc' := 26) zi_156_25 rfl rfl kk) ?_
  refine zev_of (fun _ kk => zr_aload_n (pc' := 27) zi_156_26 rfl rfl kk) ?_
  refine zev_of (fun _ kk => zr_iload_n (pc' := 28) zi_156_27 rfl rfl kk) ?_
  refine zev_of (fun _ kk => zr_v1 (pc' := 31) zi_156_28 (mput_at hc (k := 0) rfl) rfl (m_manyNow5 hc rfl) rfl kk) ?_
  refine zev_of (fun _ kk => zr_i2l (pc' := 32) zi_156_31 rfl kk) ?_
  refine zev_of (fun _ kk => zr_ladd (pc' := 33) zi_156_32 rfl rfl kk) ?_
  refine zev_of (fun _ kk => zr_lstore_n (pc' := 34) zi_156_33 (Nat.le_of_ble_eq_true rfl) rfl rfl kk) ?_
  dsimp only [zst1, zst2, zkill, List.set, List.getElem?_cons_succ, List.getElem?_cons_zero]
  refine zev_of (fun _ kk => zr_iinc (pc' := 37) zi_156_34 rfl (by first | exact n_inc _ | rfl) rfl rfl kk) ?_
  dsimp only [zst1, zst2, zkill, List.set, List.getElem?_cons_succ, List.getElem?_cons_zero]
  refine zev_of (fun _ kk => zr_goto zi_156_37 kk) ?_
  refine zev_of (fun _ kk => zr_iload_n (pc' := 16) zi_156_15 rfl rfl kk) ?_
  refine zev_of (fun _ kk => zr_bipush (v := (nI 6)) (pc' := 18) zi_156_16 rfl rfl kk) ?_
  refine zev_of (fun _ kk => zr_icmpt zi_156_18 rfl kk) ?_
  refine zev_of (fun _ kk => zr_iconst (v := (nI 0)) (pc' := 41) zi_156_40 rfl rfl kk) ?_
  refine zev_of (fun _ kk => zr_istore_n (pc' := 42) zi_156_41 (Nat.le_of_ble_eq_true rfl) rfl rfl kk) ?_
  dsimp only [zst1, zst2, zkill, List.set, List.getElem?_cons_succ, List.getElem?_cons_zero]
  refine zev_of (fun _ kk => zr_iload_n (pc' := 43) zi_156_42 rfl rfl kk) ?_
  refine zev_of (fun _ kk => zr_aload_n (pc' := 44) zi_156_43 rfl rfl kk) ?_
  refine zev_of (fun _ kk => zr_get (pc' := 47) zi_156_44 (mput_at hc (k := 0) rfl) rfl rfl kk) ?_
  refine zev_of (fun _ kk => zr_icmpt zi_156_47 (by show zcnd _ _ (v 1) = _; rw [hl]; rfl) kk) ?_
  refine zev_of (fun _ kk => zr_iconst (v := (nI 0)) (pc' := 101) zi_156_100 rfl rfl kk) ?_
  refine zev_of (fun _ kk => zr_istore_n (pc' := 102) zi_156_101 (Nat.le_of_ble_eq_true rfl) rfl rfl kk) ?_
  dsimp only [zst1, zst2, zkill, List.set, List.getElem?_cons_succ, List.getElem?_cons_zero]
  refine zev_of (fun _ kk => zr_iload_n (pc' := 103) zi_156_102 rfl rfl kk) ?_
  refine zev_of (fun _ kk => zr_aload_n (pc' := 104) zi_156_103 rfl rfl kk) ?_
  refine zev_of (fun _ kk => zr_get (pc' := 107) zi_156_104 (mput_at hc (k := 0) rfl) rfl rfl kk) ?_
  refine zev_of (fun _ kk => zr_icmpt zi_156_107 (by show zcnd _ _ (v 3) = _; rw [h3]; rfl) kk) ?_
  refine zev_of (fun _ kk => zr_iconst (v := (nI 0)) (pc' := 282) zi_156_281 rfl rfl kk) ?_
  refine zev_of (fun _ kk => zr_istore_n (pc' := 283) zi_156_282 (Nat.le_of_ble_eq_true rfl) rfl rfl kk) ?_
  dsimp only [zst1, zst2, zkill, List.set, List.getElem?_cons_succ, List.getElem?_cons_zero]
  refine zev_of (fun _ kk => zr_iload_n (pc' := 284) zi_156_283 rfl rfl kk) ?_
  refine zev_of (fun _ kk => zr_aload_n (pc' := 285) zi_156_284 rfl rfl kk) ?_
  refine zev_of (fun _ kk => zr_get (pc' := 288) zi_156_285 (mput_at hc (k := 0) rfl) rfl rfl kk) ?_
  refine zev_of (fun _ kk => zr_icmpt zi_156_288 rfl kk) ?_
  refine zev_of (fun _ kk => zr_lload_n (pc' := 329) zi_156_328 rfl rfl kk) ?_
  refine zev_of (fun _ kk => zr_ldc2_w (pc' := 332) zi_156_329 rfl rfl kk) ?_
  refine zev_of (fun _ kk => zr_lmul (pc' := 333) zi_156_332 rfl rfl kk) ?_
  refine zev_of (fun _ kk => zr_aload_n (pc' := 334) zi_156_333 rfl rfl kk) ?_
  refine zev_of (fun _ kk => zr_v0 (pc' := 337) zi_156_334 (mput_at hc (k := 0) rfl) rfl (m_usualNow hc rfl) rfl kk) ?_
  refine zev_of (fun _ kk => zr_i2l (pc' := 338) zi_156_337 rfl kk) ?_
  refine zev_of (fun _ kk => zr_ladd (pc' := 339) zi_156_338 rfl rfl kk) ?_
  refine zev_of (fun _ kk => zr_lstore_n (pc' := 340) zi_156_339 (Nat.le_of_ble_eq_true rfl) rfl rfl kk) ?_
  dsimp only [zst1, zst2, zkill, List.set, List.getElem?_cons_succ, List.getElem?_cons_zero]
  refine zev_of (fun _ kk => zr_iconst (v := (nI 0)) (pc' := 341) zi_156_340 rfl rfl kk) ?_
  refine zev_of (fun _ kk => zr_istore_n (pc' := 342) zi_156_341 (Nat.le_of_ble_eq_true rfl) rfl rfl kk) ?_
  dsimp only [zst1, zst2, zkill, List.set, List.getElem?_cons_succ, List.getElem?_cons_zero]
  refine zev_of (fun _ kk => zr_iload_n (pc' := 343) zi_156_342 rfl rfl kk) ?_
  refine zev_of (fun _ kk => zr_aload_n (pc' := 344) zi_156_343 rfl rfl kk) ?_
  refine zev_of (fun _ kk => zr_get (pc' := 347) zi_156_344 (mput_at hc (k := 0) rfl) rfl rfl kk) ?_
  refine zev_of (fun _ kk => zr_icmpt zi_156_347 rfl kk) ?_
  refine zev_of (fun _ kk => zr_lload_n (pc' := 387) zi_156_386 rfl rfl kk) ?_
  refine zev_ret (zr_lreturn zi_156_387 rfl) ?_
  exact mq_of hc (congrArg Value.long (by decide)) rfl
end MF


theorem zi_10_0 : zI 10 0 = some (.iload_n 1, []) := by decide +kernel
theorem zi_10_1 : zI 10 1 = some (.ifCond .lt 18, [19]) := by decide +kernel
theorem zi_10_4 : zI 10 4 = some (.iload_n 1, []) := by decide +kernel
theorem zi_10_5 : zI 10 5 = some (.aload_n 0, []) := by decide +kernel
theorem zi_10_6 : zI 10 6 = some (.getfield 19, [6, 1, 13]) := by decide +kernel
theorem zi_10_9 : zI 10 9 = some (.getfield 126, [5, 2, 14]) := by decide +kernel
theorem zi_10_12 : zI 10 12 = some (.if_icmp .ge 7, [19]) := by decide +kernel
theorem zi_10_15 : zI 10 15 = some (.iconst 1, []) := by decide +kernel
theorem zi_10_16 : zI 10 16 = some (.goto 4, [20]) := by decide +kernel
theorem zi_10_20 : zI 10 20 = some (.ireturn, []) := by decide +kernel
theorem zi_17_0 : zI 17 0 = some (.iload_n 1, []) := by decide +kernel
theorem zi_17_1 : zI 17 1 = some (.ifCond .lt 18, [19]) := by decide +kernel
theorem zi_17_4 : zI 17 4 = some (.iload_n 1, []) := by decide +kernel
theorem zi_17_5 : zI 17 5 = some (.aload_n 0, []) := by decide +kernel
theorem zi_17_6 : zI 17 6 = some (.getfield 12, [6, 0, 34]) := by decide +kernel
theorem zi_17_9 : zI 17 9 = some (.getfield 71, [0, 7, 35]) := by decide +kernel
theorem zi_17_12 : zI 17 12 = some (.if_icmp .ge 7, [19]) := by decide +kernel
theorem zi_17_15 : zI 17 15 = some (.iconst 1, []) := by decide +kernel
theorem zi_17_16 : zI 17 16 = some (.goto 4, [20]) := by decide +kernel
theorem zi_17_20 : zI 17 20 = some (.ireturn, []) := by decide +kernel
theorem zi_44_0 : zI 44 0 = some (.iload_n 1, []) := by decide +kernel
theorem zi_44_1 : zI 44 1 = some (.ifCond .lt 18, [19]) := by decide +kernel
theorem zi_44_4 : zI 44 4 = some (.iload_n 1, []) := by decide +kernel
theorem zi_44_5 : zI 44 5 = some (.aload_n 0, []) := by decide +kernel
theorem zi_44_6 : zI 44 6 = some (.getfield 29, [6, 3, 54]) := by decide +kernel
theorem zi_44_9 : zI 44 9 = some (.getfield 129, [3, 8, 162]) := by decide +kernel
theorem zi_44_12 : zI 44 12 = some (.if_icmp .ge 7, [19]) := by decide +kernel
theorem zi_44_15 : zI 44 15 = some (.iconst 1, []) := by decide +kernel
theorem zi_44_16 : zI 44 16 = some (.goto 4, [20]) := by decide +kernel
theorem zi_44_20 : zI 44 20 = some (.ireturn, []) := by decide +kernel
theorem zi_94_0 : zI 94 0 = some (.iload_n 1, []) := by decide +kernel
theorem zi_94_1 : zI 94 1 = some (.iconst 5, []) := by decide +kernel
theorem zi_94_2 : zI 94 2 = some (.invokestatic 60, [5, 1, 2, 0, 361, 0, 118, 360, 0, 359]) := by decide +kernel
theorem zi_94_5 : zI 94 5 = some (.ifCond .ne 13, [18]) := by decide +kernel
theorem zi_94_18 : zI 94 18 = some (.iload_n 1, []) := by decide +kernel
theorem zi_94_19 : zI 94 19 = some (.tableswitch 73 0 4 #[33, 41, 49, 57, 65], [92, 52, 60, 68, 76, 84]) := by decide +kernel
theorem zi_94_52 : zI 94 52 = some (.aload_n 0, []) := by decide +kernel
theorem zi_94_53 : zI 94 53 = some (.getfield 12, [6, 0, 34]) := by decide +kernel
theorem zi_94_56 : zI 94 56 = some (.getfield 71, [0, 7, 35]) := by decide +kernel
theorem zi_94_59 : zI 94 59 = some (.ireturn, []) := by decide +kernel
theorem zi_94_60 : zI 94 60 = some (.aload_n 0, []) := by decide +kernel
theorem zi_94_61 : zI 94 61 = some (.getfield 12, [6, 0, 34]) := by decide +kernel
theorem zi_94_64 : zI 94 64 = some (.getfield 101, [0, 8, 81]) := by decide +kernel
theorem zi_94_67 : zI 94 67 = some (.ireturn, []) := by decide +kernel
theorem zi_94_68 : zI 94 68 = some (.aload_n 0, []) := by decide +kernel
theorem zi_94_69 : zI 94 69 = some (.getfield 19, [6, 1, 13]) := by decide +kernel
theorem zi_94_72 : zI 94 72 = some (.getfield 126, [5, 2, 14]) := by decide +kernel
theorem zi_94_75 : zI 94 75 = some (.ireturn, []) := by decide +kernel
theorem zi_94_76 : zI 94 76 = some (.aload_n 0, []) := by decide +kernel
theorem zi_94_77 : zI 94 77 = some (.getfield 29, [6, 3, 54]) := by decide +kernel
theorem zi_94_80 : zI 94 80 = some (.getfield 129, [3, 8, 162]) := by decide +kernel
theorem zi_94_83 : zI 94 83 = some (.ireturn, []) := by decide +kernel
theorem zi_94_84 : zI 94 84 = some (.aload_n 0, []) := by decide +kernel
theorem zi_94_85 : zI 94 85 = some (.getfield 29, [6, 3, 54]) := by decide +kernel
theorem zi_94_88 : zI 94 88 = some (.invokevirtual 130, [85, 0, 0, 3, 364, 365, 61, 363, 0, 362]) := by decide +kernel
theorem zi_94_91 : zI 94 91 = some (.ireturn, []) := by decide +kernel
theorem zi_94_92 : zI 94 92 = some (.aload_n 0, []) := by decide +kernel
theorem zi_94_93 : zI 94 93 = some (.getfield 36, [6, 4, 66]) := by decide +kernel
theorem zi_94_96 : zI 94 96 = some (.getfield 134, [4, 4, 366]) := by decide +kernel
theorem zi_94_99 : zI 94 99 = some (.ireturn, []) := by decide +kernel
theorem zi_95_0 : zI 95 0 = some (.aload_n 0, []) := by decide +kernel
theorem zi_95_1 : zI 95 1 = some (.iload_n 1, []) := by decide +kernel
theorem zi_95_2 : zI 95 2 = some (.invokevirtual 135, [17, 0, 1, 6, 369, 370, 118, 368, 0, 367]) := by decide +kernel
theorem zi_95_5 : zI 95 5 = some (.ifCond .ne 13, [18]) := by decide +kernel
theorem zi_95_18 : zI 95 18 = some (.iload_n 2, []) := by decide +kernel
theorem zi_95_19 : zI 95 19 = some (.bipush 8, []) := by decide +kernel
theorem zi_95_21 : zI 95 21 = some (.invokestatic 60, [5, 1, 2, 0, 361, 0, 118, 360, 0, 359]) := by decide +kernel
theorem zi_95_24 : zI 95 24 = some (.ifCond .ne 13, [37]) := by decide +kernel
theorem zi_95_37 : zI 95 37 = some (.iload_n 2, []) := by decide +kernel
theorem zi_95_38 : zI 95 38 = some (.tableswitch 153 0 7 #[46, 58, 70, 82, 94, 106, 118, 130], [191, 84, 96, 108, 120, 132, 144, 156, 168]) := by decide +kernel
theorem zi_95_84 : zI 95 84 = some (.aload_n 0, []) := by decide +kernel
theorem zi_95_85 : zI 95 85 = some (.getfield 12, [6, 0, 34]) := by decide +kernel
theorem zi_95_88 : zI 95 88 = some (.getfield 80, [0, 0, 371]) := by decide +kernel
theorem zi_95_91 : zI 95 91 = some (.iload_n 1, []) := by decide +kernel
theorem zi_95_92 : zI 95 92 = some (.invokevirtual 83, [0, 0, 1, 1, 10, 11, 12, 9, 0, 56]) := by decide +kernel
theorem zi_95_95 : zI 95 95 = some (.ireturn, []) := by decide +kernel
theorem zi_95_96 : zI 95 96 = some (.aload_n 0, []) := by decide +kernel
theorem zi_95_97 : zI 95 97 = some (.getfield 12, [6, 0, 34]) := by decide +kernel
theorem zi_95_100 : zI 95 100 = some (.getfield 146, [0, 1, 372]) := by decide +kernel
theorem zi_95_103 : zI 95 103 = some (.iload_n 1, []) := by decide +kernel
theorem zi_95_104 : zI 95 104 = some (.invokevirtual 83, [0, 0, 1, 1, 10, 11, 12, 9, 0, 56]) := by decide +kernel
theorem zi_95_107 : zI 95 107 = some (.ireturn, []) := by decide +kernel
theorem zi_95_108 : zI 95 108 = some (.aload_n 0, []) := by decide +kernel
theorem zi_95_109 : zI 95 109 = some (.getfield 12, [6, 0, 34]) := by decide +kernel
theorem zi_95_112 : zI 95 112 = some (.getfield 149, [0, 2, 373]) := by decide +kernel
theorem zi_95_115 : zI 95 115 = some (.iload_n 1, []) := by decide +kernel
theorem zi_95_116 : zI 95 116 = some (.invokevirtual 83, [0, 0, 1, 1, 10, 11, 12, 9, 0, 56]) := by decide +kernel
theorem zi_95_119 : zI 95 119 = some (.ireturn, []) := by decide +kernel
theorem zi_95_120 : zI 95 120 = some (.aload_n 0, []) := by decide +kernel
theorem zi_95_121 : zI 95 121 = some (.getfield 12, [6, 0, 34]) := by decide +kernel
theorem zi_95_124 : zI 95 124 = some (.getfield 98, [0, 3, 374]) := by decide +kernel
theorem zi_95_127 : zI 95 127 = some (.iload_n 1, []) := by decide +kernel
theorem zi_95_128 : zI 95 128 = some (.invokevirtual 83, [0, 0, 1, 1, 10, 11, 12, 9, 0, 56]) := by decide +kernel
theorem zi_95_131 : zI 95 131 = some (.ireturn, []) := by decide +kernel
theorem zi_95_132 : zI 95 132 = some (.aload_n 0, []) := by decide +kernel
theorem zi_95_133 : zI 95 133 = some (.getfield 12, [6, 0, 34]) := by decide +kernel
theorem zi_95_136 : zI 95 136 = some (.getfield 112, [0, 5, 375]) := by decide +kernel
theorem zi_95_139 : zI 95 139 = some (.iload_n 1, []) := by decide +kernel
theorem zi_95_140 : zI 95 140 = some (.invokevirtual 83, [0, 0, 1, 1, 10, 11, 12, 9, 0, 56]) := by decide +kernel
theorem zi_95_143 : zI 95 143 = some (.ireturn, []) := by decide +kernel
theorem zi_95_144 : zI 95 144 = some (.aload_n 0, []) := by decide +kernel
theorem zi_95_145 : zI 95 145 = some (.getfield 12, [6, 0, 34]) := by decide +kernel
theorem zi_95_148 : zI 95 148 = some (.getfield 152, [0, 6, 376]) := by decide +kernel
theorem zi_95_151 : zI 95 151 = some (.iload_n 1, []) := by decide +kernel
theorem zi_95_152 : zI 95 152 = some (.invokevirtual 83, [0, 0, 1, 1, 10, 11, 12, 9, 0, 56]) := by decide +kernel
theorem zi_95_155 : zI 95 155 = some (.ireturn, []) := by decide +kernel
theorem zi_95_156 : zI 95 156 = some (.aload_n 0, []) := by decide +kernel
theorem zi_95_157 : zI 95 157 = some (.getfield 29, [6, 3, 54]) := by decide +kernel
theorem zi_95_160 : zI 95 160 = some (.getfield 155, [3, 0, 377]) := by decide +kernel
theorem zi_95_163 : zI 95 163 = some (.iload_n 1, []) := by decide +kernel
theorem zi_95_164 : zI 95 164 = some (.invokevirtual 83, [0, 0, 1, 1, 10, 11, 12, 9, 0, 56]) := by decide +kernel
theorem zi_95_167 : zI 95 167 = some (.ireturn, []) := by decide +kernel
theorem zi_95_168 : zI 95 168 = some (.aload_n 0, []) := by decide +kernel
theorem zi_95_169 : zI 95 169 = some (.getfield 12, [6, 0, 34]) := by decide +kernel
theorem zi_95_172 : zI 95 172 = some (.getfield 80, [0, 0, 371]) := by decide +kernel
theorem zi_95_175 : zI 95 175 = some (.iload_n 1, []) := by decide +kernel
theorem zi_95_176 : zI 95 176 = some (.invokevirtual 83, [0, 0, 1, 1, 10, 11, 12, 9, 0, 56]) := by decide +kernel
theorem zi_95_179 : zI 95 179 = some (.aload_n 0, []) := by decide +kernel
theorem zi_95_180 : zI 95 180 = some (.getfield 52, [6, 6, 55]) := by decide +kernel
theorem zi_95_183 : zI 95 183 = some (.iconst 2, []) := by decide +kernel
theorem zi_95_184 : zI 95 184 = some (.invokevirtual 83, [0, 0, 1, 1, 10, 11, 12, 9, 0, 56]) := by decide +kernel
theorem zi_95_187 : zI 95 187 = some (.invokestatic 158, [13, 1, 2, 0, 117, 0, 118, 116, 0, 378]) := by decide +kernel
theorem zi_95_190 : zI 95 190 = some (.ireturn, []) := by decide +kernel
theorem zi_95_191 : zI 95 191 = some (.aload_n 0, []) := by decide +kernel
theorem zi_95_192 : zI 95 192 = some (.getfield 43, [6, 5, 72]) := by decide +kernel
theorem zi_95_195 : zI 95 195 = some (.getfield 161, [2, 0, 379]) := by decide +kernel
theorem zi_95_198 : zI 95 198 = some (.iload_n 1, []) := by decide +kernel
theorem zi_95_199 : zI 95 199 = some (.invokevirtual 83, [0, 0, 1, 1, 10, 11, 12, 9, 0, 56]) := by decide +kernel
theorem zi_95_202 : zI 95 202 = some (.ireturn, []) := by decide +kernel
theorem zi_96_0 : zI 96 0 = some (.aload_n 0, []) := by decide +kernel
theorem zi_96_1 : zI 96 1 = some (.iload_n 1, []) := by decide +kernel
theorem zi_96_2 : zI 96 2 = some (.invokevirtual 167, [10, 0, 1, 6, 382, 383, 118, 381, 0, 380]) := by decide +kernel
theorem zi_96_5 : zI 96 5 = some (.ifCond .ne 13, [18]) := by decide +kernel
theorem zi_96_18 : zI 96 18 = some (.iload_n 2, []) := by decide +kernel
theorem zi_96_19 : zI 96 19 = some (.iconst 4, []) := by decide +kernel
theorem zi_96_20 : zI 96 20 = some (.invokestatic 60, [5, 1, 2, 0, 361, 0, 118, 360, 0, 359]) := by decide +kernel
theorem zi_96_23 : zI 96 23 = some (.ifCond .ne 13, [36]) := by decide +kernel
theorem zi_96_36 : zI 96 36 = some (.iload_n 2, []) := by decide +kernel
theorem zi_96_37 : zI 96 37 = some (.tableswitch 70 0 3 #[31, 43, 52, 61], [107, 68, 80, 89, 98]) := by decide +kernel
theorem zi_96_68 : zI 96 68 = some (.aload_n 0, []) := by decide +kernel
theorem zi_96_69 : zI 96 69 = some (.getfield 19, [6, 1, 13]) := by decide +kernel
theorem zi_96_72 : zI 96 72 = some (.getfield 174, [5, 0, 384]) := by decide +kernel
theorem zi_96_75 : zI 96 75 = some (.iload_n 1, []) := by decide +kernel
theorem zi_96_76 : zI 96 76 = some (.invokevirtual 83, [0, 0, 1, 1, 10, 11, 12, 9, 0, 56]) := by decide +kernel
theorem zi_96_79 : zI 96 79 = some (.ireturn, []) := by decide +kernel
theorem zi_96_80 : zI 96 80 = some (.aload_n 0, []) := by decide +kernel
theorem zi_96_81 : zI 96 81 = some (.getfield 19, [6, 1, 13]) := by decide +kernel
theorem zi_96_84 : zI 96 84 = some (.iload_n 1, []) := by decide +kernel
theorem zi_96_85 : zI 96 85 = some (.invokevirtual 175, [39, 0, 1, 5, 387, 388, 139, 386, 0, 385]) := by decide +kernel
theorem zi_96_88 : zI 96 88 = some (.ireturn, []) := by decide +kernel
theorem zi_96_89 : zI 96 89 = some (.aload_n 0, []) := by decide +kernel
theorem zi_96_90 : zI 96 90 = some (.getfield 12, [6, 0, 34]) := by decide +kernel
theorem zi_96_93 : zI 96 93 = some (.iload_n 1, []) := by decide +kernel
theorem zi_96_94 : zI 96 94 = some (.invokevirtual 178, [65, 0, 1, 0, 391, 392, 53, 390, 0, 389]) := by decide +kernel
theorem zi_96_97 : zI 96 97 = some (.ireturn, []) := by decide +kernel
theorem zi_96_98 : zI 96 98 = some (.aload_n 0, []) := by decide +kernel
theorem zi_96_99 : zI 96 99 = some (.getfield 12, [6, 0, 34]) := by decide +kernel
theorem zi_96_102 : zI 96 102 = some (.iload_n 1, []) := by decide +kernel
theorem zi_96_103 : zI 96 103 = some (.invokevirtual 181, [66, 0, 1, 0, 395, 396, 53, 394, 0, 393]) := by decide +kernel
theorem zi_96_106 : zI 96 106 = some (.ireturn, []) := by decide +kernel
theorem zi_96_107 : zI 96 107 = some (.aload_n 0, []) := by decide +kernel
theorem zi_96_108 : zI 96 108 = some (.getfield 12, [6, 0, 34]) := by decide +kernel
theorem zi_96_111 : zI 96 111 = some (.iload_n 1, []) := by decide +kernel
theorem zi_96_112 : zI 96 112 = some (.invokevirtual 184, [67, 0, 1, 0, 399, 400, 53, 398, 0, 397]) := by decide +kernel
theorem zi_96_115 : zI 96 115 = some (.ireturn, []) := by decide +kernel
theorem zi_97_0 : zI 97 0 = some (.aload_n 0, []) := by decide +kernel
theorem zi_97_1 : zI 97 1 = some (.iload_n 1, []) := by decide +kernel
theorem zi_97_2 : zI 97 2 = some (.invokevirtual 167, [10, 0, 1, 6, 382, 383, 118, 381, 0, 380]) := by decide +kernel
theorem zi_97_5 : zI 97 5 = some (.ifCond .ne 13, [18]) := by decide +kernel
theorem zi_97_18 : zI 97 18 = some (.iload_n 2, []) := by decide +kernel
theorem zi_97_19 : zI 97 19 = some (.ifCond .lt 18, [37]) := by decide +kernel
theorem zi_97_22 : zI 97 22 = some (.iload_n 2, []) := by decide +kernel
theorem zi_97_23 : zI 97 23 = some (.aload_n 0, []) := by decide +kernel
theorem zi_97_24 : zI 97 24 = some (.getfield 19, [6, 1, 13]) := by decide +kernel
theorem zi_97_27 : zI 97 27 = some (.getfield 174, [5, 0, 384]) := by decide +kernel
theorem zi_97_30 : zI 97 30 = some (.iload_n 1, []) := by decide +kernel
theorem zi_97_31 : zI 97 31 = some (.invokevirtual 83, [0, 0, 1, 1, 10, 11, 12, 9, 0, 56]) := by decide +kernel
theorem zi_97_34 : zI 97 34 = some (.if_icmp .lt 13, [47]) := by decide +kernel
theorem zi_97_47 : zI 97 47 = some (.aload_n 0, []) := by decide +kernel
theorem zi_97_48 : zI 97 48 = some (.getfield 19, [6, 1, 13]) := by decide +kernel
theorem zi_97_51 : zI 97 51 = some (.iload_n 1, []) := by decide +kernel
theorem zi_97_52 : zI 97 52 = some (.iload_n 2, []) := by decide +kernel
theorem zi_97_53 : zI 97 53 = some (.invokevirtual 189, [16, 0, 2, 5, 137, 138, 139, 136, 0, 401]) := by decide +kernel
theorem zi_97_56 : zI 97 56 = some (.ireturn, []) := by decide +kernel
theorem zi_98_0 : zI 98 0 = some (.aload_n 0, []) := by decide +kernel
theorem zi_98_1 : zI 98 1 = some (.iload_n 1, []) := by decide +kernel
theorem zi_98_2 : zI 98 2 = some (.invokevirtual 167, [10, 0, 1, 6, 382, 383, 118, 381, 0, 380]) := by decide +kernel
theorem zi_98_5 : zI 98 5 = some (.ifCond .ne 13, [18]) := by decide +kernel
theorem zi_98_18 : zI 98 18 = some (.aload_n 0, []) := by decide +kernel
theorem zi_98_19 : zI 98 19 = some (.getfield 19, [6, 1, 13]) := by decide +kernel
theorem zi_98_22 : zI 98 22 = some (.iload_n 1, []) := by decide +kernel
theorem zi_98_23 : zI 98 23 = some (.iload_n 2, []) := by decide +kernel
theorem zi_98_24 : zI 98 24 = some (.invokevirtual 192, [40, 0, 2, 5, 238, 239, 139, 237, 0, 402]) := by decide +kernel
theorem zi_98_27 : zI 98 27 = some (.istore_n 3, []) := by decide +kernel
theorem zi_98_28 : zI 98 28 = some (.iload_n 3, []) := by decide +kernel
theorem zi_98_29 : zI 98 29 = some (.iconst (-1), []) := by decide +kernel
theorem zi_98_30 : zI 98 30 = some (.if_icmp .ne 13, [43]) := by decide +kernel
theorem zi_98_43 : zI 98 43 = some (.aload_n 0, []) := by decide +kernel
theorem zi_98_44 : zI 98 44 = some (.getfield 12, [6, 0, 34]) := by decide +kernel
theorem zi_98_47 : zI 98 47 = some (.iload_n 1, []) := by decide +kernel
theorem zi_98_48 : zI 98 48 = some (.iload_n 3, []) := by decide +kernel
theorem zi_98_49 : zI 98 49 = some (.invokevirtual 197, [68, 0, 2, 0, 405, 406, 53, 404, 0, 403]) := by decide +kernel
theorem zi_98_52 : zI 98 52 = some (.ireturn, []) := by decide +kernel
theorem zi_99_0 : zI 99 0 = some (.aload_n 0, []) := by decide +kernel
theorem zi_99_1 : zI 99 1 = some (.iload_n 1, []) := by decide +kernel
theorem zi_99_2 : zI 99 2 = some (.invokevirtual 203, [44, 0, 1, 6, 409, 410, 118, 408, 0, 407]) := by decide +kernel
theorem zi_99_5 : zI 99 5 = some (.ifCond .ne 13, [18]) := by decide +kernel
theorem zi_99_18 : zI 99 18 = some (.iload_n 2, []) := by decide +kernel
theorem zi_99_19 : zI 99 19 = some (.bipush 6, []) := by decide +kernel
theorem zi_99_21 : zI 99 21 = some (.invokestatic 60, [5, 1, 2, 0, 361, 0, 118, 360, 0, 359]) := by decide +kernel
theorem zi_99_24 : zI 99 24 = some (.ifCond .ne 13, [37]) := by decide +kernel
theorem zi_99_37 : zI 99 37 = some (.iload_n 2, []) := by decide +kernel
theorem zi_99_38 : zI 99 38 = some (.tableswitch 141 0 5 #[38, 60, 82, 104, 116, 128], [179, 76, 98, 120, 142, 154, 166]) := by decide +kernel
theorem zi_99_76 : zI 99 76 = some (.aload_n 0, []) := by decide +kernel
theorem zi_99_77 : zI 99 77 = some (.getfield 12, [6, 0, 34]) := by decide +kernel
theorem zi_99_80 : zI 99 80 = some (.getfield 152, [0, 6, 376]) := by decide +kernel
theorem zi_99_83 : zI 99 83 = some (.aload_n 0, []) := by decide +kernel
theorem zi_99_84 : zI 99 84 = some (.getfield 29, [6, 3, 54]) := by decide +kernel
theorem zi_99_87 : zI 99 87 = some (.getfield 210, [3, 2, 411]) := by decide +kernel
theorem zi_99_90 : zI 99 90 = some (.iload_n 1, []) := by decide +kernel
theorem zi_99_91 : zI 99 91 = some (.invokevirtual 83, [0, 0, 1, 1, 10, 11, 12, 9, 0, 56]) := by decide +kernel
theorem zi_99_94 : zI 99 94 = some (.invokevirtual 83, [0, 0, 1, 1, 10, 11, 12, 9, 0, 56]) := by decide +kernel
theorem zi_99_97 : zI 99 97 = some (.ireturn, []) := by decide +kernel
theorem zi_99_98 : zI 99 98 = some (.aload_n 0, []) := by decide +kernel
theorem zi_99_99 : zI 99 99 = some (.getfield 12, [6, 0, 34]) := by decide +kernel
theorem zi_99_102 : zI 99 102 = some (.getfield 80, [0, 0, 371]) := by decide +kernel
theorem zi_99_105 : zI 99 105 = some (.aload_n 0, []) := by decide +kernel
theorem zi_99_106 : zI 99 106 = some (.getfield 29, [6, 3, 54]) := by decide +kernel
theorem zi_99_109 : zI 99 109 = some (.getfield 210, [3, 2, 411]) := by decide +kernel
theorem zi_99_112 : zI 99 112 = some (.iload_n 1, []) := by decide +kernel
theorem zi_99_113 : zI 99 113 = some (.invokevirtual 83, [0, 0, 1, 1, 10, 11, 12, 9, 0, 56]) := by decide +kernel
theorem zi_99_116 : zI 99 116 = some (.invokevirtual 83, [0, 0, 1, 1, 10, 11, 12, 9, 0, 56]) := by decide +kernel
theorem zi_99_119 : zI 99 119 = some (.ireturn, []) := by decide +kernel
theorem zi_99_120 : zI 99 120 = some (.aload_n 0, []) := by decide +kernel
theorem zi_99_121 : zI 99 121 = some (.getfield 12, [6, 0, 34]) := by decide +kernel
theorem zi_99_124 : zI 99 124 = some (.getfield 80, [0, 0, 371]) := by decide +kernel
theorem zi_99_127 : zI 99 127 = some (.aload_n 0, []) := by decide +kernel
theorem zi_99_128 : zI 99 128 = some (.getfield 29, [6, 3, 54]) := by decide +kernel
theorem zi_99_131 : zI 99 131 = some (.getfield 213, [3, 3, 412]) := by decide +kernel
theorem zi_99_134 : zI 99 134 = some (.iload_n 1, []) := by decide +kernel
theorem zi_99_135 : zI 99 135 = some (.invokevirtual 83, [0, 0, 1, 1, 10, 11, 12, 9, 0, 56]) := by decide +kernel
theorem zi_99_138 : zI 99 138 = some (.invokevirtual 83, [0, 0, 1, 1, 10, 11, 12, 9, 0, 56]) := by decide +kernel
theorem zi_99_141 : zI 99 141 = some (.ireturn, []) := by decide +kernel
theorem zi_99_142 : zI 99 142 = some (.aload_n 0, []) := by decide +kernel
theorem zi_99_143 : zI 99 143 = some (.getfield 29, [6, 3, 54]) := by decide +kernel
theorem zi_99_146 : zI 99 146 = some (.getfield 216, [3, 4, 413]) := by decide +kernel
theorem zi_99_149 : zI 99 149 = some (.iload_n 1, []) := by decide +kernel
theorem zi_99_150 : zI 99 150 = some (.invokevirtual 83, [0, 0, 1, 1, 10, 11, 12, 9, 0, 56]) := by decide +kernel
theorem zi_99_153 : zI 99 153 = some (.ireturn, []) := by decide +kernel
theorem zi_99_154 : zI 99 154 = some (.aload_n 0, []) := by decide +kernel
theorem zi_99_155 : zI 99 155 = some (.getfield 29, [6, 3, 54]) := by decide +kernel
theorem zi_99_158 : zI 99 158 = some (.getfield 217, [3, 5, 414]) := by decide +kernel
theorem zi_99_161 : zI 99 161 = some (.iload_n 1, []) := by decide +kernel
theorem zi_99_162 : zI 99 162 = some (.invokevirtual 83, [0, 0, 1, 1, 10, 11, 12, 9, 0, 56]) := by decide +kernel
theorem zi_99_165 : zI 99 165 = some (.ireturn, []) := by decide +kernel
theorem zi_99_166 : zI 99 166 = some (.aload_n 0, []) := by decide +kernel
theorem zi_99_167 : zI 99 167 = some (.getfield 29, [6, 3, 54]) := by decide +kernel
theorem zi_99_170 : zI 99 170 = some (.aload_n 0, []) := by decide +kernel
theorem zi_99_171 : zI 99 171 = some (.getfield 12, [6, 0, 34]) := by decide +kernel
theorem zi_99_174 : zI 99 174 = some (.iload_n 1, []) := by decide +kernel
theorem zi_99_175 : zI 99 175 = some (.invokevirtual 220, [84, 0, 2, 3, 417, 418, 61, 416, 0, 415]) := by decide +kernel
theorem zi_99_178 : zI 99 178 = some (.ireturn, []) := by decide +kernel
theorem zi_99_179 : zI 99 179 = some (.aload_n 0, []) := by decide +kernel
theorem zi_99_180 : zI 99 180 = some (.getfield 29, [6, 3, 54]) := by decide +kernel
theorem zi_99_183 : zI 99 183 = some (.iload_n 1, []) := by decide +kernel
theorem zi_99_184 : zI 99 184 = some (.invokevirtual 224, [28, 0, 1, 3, 329, 330, 61, 328, 0, 419]) := by decide +kernel
theorem zi_99_187 : zI 99 187 = some (.ireturn, []) := by decide +kernel
theorem zi_100_0 : zI 100 0 = some (.aload_n 0, []) := by decide +kernel
theorem zi_100_1 : zI 100 1 = some (.getfield 29, [6, 3, 54]) := by decide +kernel
theorem zi_100_4 : zI 100 4 = some (.invokevirtual 232, [87, 0, 0, 3, 422, 423, 61, 421, 0, 420]) := by decide +kernel
theorem zi_100_7 : zI 100 7 = some (.ireturn, []) := by decide +kernel
theorem zi_101_0 : zI 101 0 = some (.iload_n 1, []) := by decide +kernel
theorem zi_101_1 : zI 101 1 = some (.ifCond .lt 14, [15]) := by decide +kernel
theorem zi_101_4 : zI 101 4 = some (.iload_n 1, []) := by decide +kernel
theorem zi_101_5 : zI 101 5 = some (.aload_n 0, []) := by decide +kernel
theorem zi_101_6 : zI 101 6 = some (.getfield 36, [6, 4, 66]) := by decide +kernel
theorem zi_101_9 : zI 101 9 = some (.getfield 134, [4, 4, 366]) := by decide +kernel
theorem zi_101_12 : zI 101 12 = some (.if_icmp .lt 13, [25]) := by decide +kernel
theorem zi_101_25 : zI 101 25 = some (.iload_n 2, []) := by decide +kernel
theorem zi_101_26 : zI 101 26 = some (.iconst 2, []) := by decide +kernel
theorem zi_101_27 : zI 101 27 = some (.invokestatic 60, [5, 1, 2, 0, 361, 0, 118, 360, 0, 359]) := by decide +kernel
theorem zi_101_30 : zI 101 30 = some (.ifCond .ne 13, [43]) := by decide +kernel
theorem zi_101_43 : zI 101 43 = some (.iload_n 2, []) := by decide +kernel
theorem zi_101_44 : zI 101 44 = some (.lookupswitch 52 #[(0, 28), (1, 40)], [96, 72, 84]) := by decide +kernel
theorem zi_101_72 : zI 101 72 = some (.aload_n 0, []) := by decide +kernel
theorem zi_101_73 : zI 101 73 = some (.getfield 36, [6, 4, 66]) := by decide +kernel
theorem zi_101_76 : zI 101 76 = some (.getfield 248, [4, 0, 424]) := by decide +kernel
theorem zi_101_79 : zI 101 79 = some (.iload_n 1, []) := by decide +kernel
theorem zi_101_80 : zI 101 80 = some (.invokevirtual 83, [0, 0, 1, 1, 10, 11, 12, 9, 0, 56]) := by decide +kernel
theorem zi_101_83 : zI 101 83 = some (.ireturn, []) := by decide +kernel
theorem zi_101_84 : zI 101 84 = some (.aload_n 0, []) := by decide +kernel
theorem zi_101_85 : zI 101 85 = some (.getfield 36, [6, 4, 66]) := by decide +kernel
theorem zi_101_88 : zI 101 88 = some (.getfield 251, [4, 1, 425]) := by decide +kernel
theorem zi_101_91 : zI 101 91 = some (.iload_n 1, []) := by decide +kernel
theorem zi_101_92 : zI 101 92 = some (.invokevirtual 83, [0, 0, 1, 1, 10, 11, 12, 9, 0, 56]) := by decide +kernel
theorem zi_101_95 : zI 101 95 = some (.ireturn, []) := by decide +kernel
theorem zi_101_96 : zI 101 96 = some (.aload_n 0, []) := by decide +kernel
theorem zi_101_97 : zI 101 97 = some (.getfield 36, [6, 4, 66]) := by decide +kernel
theorem zi_101_100 : zI 101 100 = some (.getfield 253, [4, 2, 426]) := by decide +kernel
theorem zi_101_103 : zI 101 103 = some (.iload_n 1, []) := by decide +kernel
theorem zi_101_104 : zI 101 104 = some (.invokevirtual 83, [0, 0, 1, 1, 10, 11, 12, 9, 0, 56]) := by decide +kernel
theorem zi_101_107 : zI 101 107 = some (.ireturn, []) := by decide +kernel
theorem zi_102_0 : zI 102 0 = some (.aload_n 0, []) := by decide +kernel
theorem zi_102_1 : zI 102 1 = some (.iload_n 1, []) := by decide +kernel
theorem zi_102_2 : zI 102 2 = some (.invokevirtual 167, [10, 0, 1, 6, 382, 383, 118, 381, 0, 380]) := by decide +kernel
theorem zi_102_5 : zI 102 5 = some (.ifCond .ne 13, [18]) := by decide +kernel
theorem zi_102_18 : zI 102 18 = some (.aload_n 0, []) := by decide +kernel
theorem zi_102_19 : zI 102 19 = some (.getfield 43, [6, 5, 72]) := by decide +kernel
theorem zi_102_22 : zI 102 22 = some (.getfield 256, [2, 7, 427]) := by decide +kernel
theorem zi_102_25 : zI 102 25 = some (.iload_n 1, []) := by decide +kernel
theorem zi_102_26 : zI 102 26 = some (.invokevirtual 83, [0, 0, 1, 1, 10, 11, 12, 9, 0, 56]) := by decide +kernel
theorem zi_102_29 : zI 102 29 = some (.ireturn, []) := by decide +kernel
theorem zi_103_0 : zI 103 0 = some (.aload_n 0, []) := by decide +kernel
theorem zi_103_1 : zI 103 1 = some (.iload_n 1, []) := by decide +kernel
theorem zi_103_2 : zI 103 2 = some (.invokevirtual 167, [10, 0, 1, 6, 382, 383, 118, 381, 0, 380]) := by decide +kernel
theorem zi_103_5 : zI 103 5 = some (.ifCond .ne 13, [18]) := by decide +kernel
theorem zi_103_18 : zI 103 18 = some (.iload_n 2, []) := by decide +kernel
theorem zi_103_19 : zI 103 19 = some (.ifCond .lt 18, [37]) := by decide +kernel
theorem zi_103_22 : zI 103 22 = some (.iload_n 2, []) := by decide +kernel
theorem zi_103_23 : zI 103 23 = some (.aload_n 0, []) := by decide +kernel
theorem zi_103_24 : zI 103 24 = some (.getfield 43, [6, 5, 72]) := by decide +kernel
theorem zi_103_27 : zI 103 27 = some (.getfield 256, [2, 7, 427]) := by decide +kernel
theorem zi_103_30 : zI 103 30 = some (.iload_n 1, []) := by decide +kernel
theorem zi_103_31 : zI 103 31 = some (.invokevirtual 83, [0, 0, 1, 1, 10, 11, 12, 9, 0, 56]) := by decide +kernel
theorem zi_103_34 : zI 103 34 = some (.if_icmp .lt 14, [48]) := by decide +kernel
theorem zi_103_48 : zI 103 48 = some (.iload_n 3, []) := by decide +kernel
theorem zi_103_49 : zI 103 49 = some (.iconst 3, []) := by decide +kernel
theorem zi_103_50 : zI 103 50 = some (.invokestatic 60, [5, 1, 2, 0, 361, 0, 118, 360, 0, 359]) := by decide +kernel
theorem zi_103_53 : zI 103 53 = some (.ifCond .ne 14, [67]) := by decide +kernel
theorem zi_103_67 : zI 103 67 = some (.aload_n 0, []) := by decide +kernel
theorem zi_103_68 : zI 103 68 = some (.getfield 43, [6, 5, 72]) := by decide +kernel
theorem zi_103_71 : zI 103 71 = some (.iload_n 1, []) := by decide +kernel
theorem zi_103_72 : zI 103 72 = some (.iload_n 2, []) := by decide +kernel
theorem zi_103_73 : zI 103 73 = some (.invokevirtual 263, [20, 0, 2, 2, 281, 282, 47, 280, 0, 428]) := by decide +kernel
theorem zi_103_76 : zI 103 76 = some (.istore 4, []) := by decide +kernel
theorem zi_103_78 : zI 103 78 = some (.iload_n 3, []) := by decide +kernel
theorem zi_103_79 : zI 103 79 = some (.tableswitch 50 0 2 #[25, 28, 39], [129, 104, 107, 118]) := by decide +kernel
theorem zi_103_104 : zI 103 104 = some (.iload 4, []) := by decide +kernel
theorem zi_103_106 : zI 103 106 = some (.ireturn, []) := by decide +kernel
theorem zi_103_107 : zI 103 107 = some (.aload_n 0, []) := by decide +kernel
theorem zi_103_108 : zI 103 108 = some (.getfield 43, [6, 5, 72]) := by decide +kernel
theorem zi_103_111 : zI 103 111 = some (.iload_n 1, []) := by decide +kernel
theorem zi_103_112 : zI 103 112 = some (.iload 4, []) := by decide +kernel
theorem zi_103_114 : zI 103 114 = some (.invokevirtual 266, [27, 0, 2, 2, 125, 126, 47, 124, 0, 429]) := by decide +kernel
theorem zi_103_117 : zI 103 117 = some (.ireturn, []) := by decide +kernel
theorem zi_103_118 : zI 103 118 = some (.aload_n 0, []) := by decide +kernel
theorem zi_103_119 : zI 103 119 = some (.getfield 43, [6, 5, 72]) := by decide +kernel
theorem zi_103_122 : zI 103 122 = some (.iload_n 1, []) := by decide +kernel
theorem zi_103_123 : zI 103 123 = some (.iload 4, []) := by decide +kernel
theorem zi_103_125 : zI 103 125 = some (.invokevirtual 269, [36, 0, 2, 2, 273, 274, 47, 272, 0, 430]) := by decide +kernel
theorem zi_103_128 : zI 103 128 = some (.ireturn, []) := by decide +kernel
theorem zi_103_129 : zI 103 129 = some (.aload_n 0, []) := by decide +kernel
theorem zi_103_130 : zI 103 130 = some (.getfield 43, [6, 5, 72]) := by decide +kernel
theorem zi_103_133 : zI 103 133 = some (.iload_n 1, []) := by decide +kernel
theorem zi_103_134 : zI 103 134 = some (.iload 4, []) := by decide +kernel
theorem zi_103_136 : zI 103 136 = some (.invokevirtual 272, [37, 0, 2, 2, 285, 286, 47, 284, 0, 431]) := by decide +kernel
theorem zi_103_139 : zI 103 139 = some (.ireturn, []) := by decide +kernel
theorem zi_104_0 : zI 104 0 = some (.aload_n 0, []) := by decide +kernel
theorem zi_104_1 : zI 104 1 = some (.iload_n 1, []) := by decide +kernel
theorem zi_104_2 : zI 104 2 = some (.invokevirtual 135, [17, 0, 1, 6, 369, 370, 118, 368, 0, 367]) := by decide +kernel
theorem zi_104_5 : zI 104 5 = some (.ifCond .ne 13, [18]) := by decide +kernel
theorem zi_104_18 : zI 104 18 = some (.aload_n 0, []) := by decide +kernel
theorem zi_104_19 : zI 104 19 = some (.getfield 43, [6, 5, 72]) := by decide +kernel
theorem zi_104_22 : zI 104 22 = some (.aload_n 0, []) := by decide +kernel
theorem zi_104_23 : zI 104 23 = some (.getfield 12, [6, 0, 34]) := by decide +kernel
theorem zi_104_26 : zI 104 26 = some (.iload_n 1, []) := by decide +kernel
theorem zi_104_27 : zI 104 27 = some (.aload_n 0, []) := by decide +kernel
theorem zi_104_28 : zI 104 28 = some (.getfield 52, [6, 6, 55]) := by decide +kernel
theorem zi_104_31 : zI 104 31 = some (.iconst 3, []) := by decide +kernel
theorem zi_104_32 : zI 104 32 = some (.invokevirtual 83, [0, 0, 1, 1, 10, 11, 12, 9, 0, 56]) := by decide +kernel
theorem zi_104_35 : zI 104 35 = some (.invokevirtual 275, [75, 0, 3, 2, 434, 435, 47, 433, 0, 432]) := by decide +kernel
theorem zi_104_38 : zI 104 38 = some (.ireturn, []) := by decide +kernel
theorem zi_121_0 : zI 121 0 = some (.aload_n 0, []) := by decide +kernel
theorem zi_121_1 : zI 121 1 = some (.iload_n 1, []) := by decide +kernel
theorem zi_121_2 : zI 121 2 = some (.invokevirtual 135, [17, 0, 1, 6, 369, 370, 118, 368, 0, 367]) := by decide +kernel
theorem zi_121_5 : zI 121 5 = some (.ifCond .ne 13, [18]) := by decide +kernel
theorem zi_121_18 : zI 121 18 = some (.iload_n 2, []) := by decide +kernel
theorem zi_121_19 : zI 121 19 = some (.ifCond .lt 18, [37]) := by decide +kernel
theorem zi_121_22 : zI 121 22 = some (.iload_n 2, []) := by decide +kernel
theorem zi_121_23 : zI 121 23 = some (.aload_n 0, []) := by decide +kernel
theorem zi_121_24 : zI 121 24 = some (.getfield 12, [6, 0, 34]) := by decide +kernel
theorem zi_121_27 : zI 121 27 = some (.getfield 98, [0, 3, 374]) := by decide +kernel
theorem zi_121_30 : zI 121 30 = some (.iload_n 1, []) := by decide +kernel
theorem zi_121_31 : zI 121 31 = some (.invokevirtual 83, [0, 0, 1, 1, 10, 11, 12, 9, 0, 56]) := by decide +kernel
theorem zi_121_34 : zI 121 34 = some (.if_icmp .lt 13, [47]) := by decide +kernel
theorem zi_121_47 : zI 121 47 = some (.aload_n 0, []) := by decide +kernel
theorem zi_121_48 : zI 121 48 = some (.getfield 12, [6, 0, 34]) := by decide +kernel
theorem zi_121_51 : zI 121 51 = some (.iload_n 1, []) := by decide +kernel
theorem zi_121_52 : zI 121 52 = some (.iload_n 2, []) := by decide +kernel
theorem zi_121_53 : zI 121 53 = some (.invokevirtual 164, [8, 0, 2, 0, 143, 144, 53, 142, 0, 523]) := by decide +kernel
theorem zi_121_56 : zI 121 56 = some (.ireturn, []) := by decide +kernel
theorem zi_122_0 : zI 122 0 = some (.aload_n 0, []) := by decide +kernel
theorem zi_122_1 : zI 122 1 = some (.iload_n 1, []) := by decide +kernel
theorem zi_122_2 : zI 122 2 = some (.invokevirtual 135, [17, 0, 1, 6, 369, 370, 118, 368, 0, 367]) := by decide +kernel
theorem zi_122_5 : zI 122 5 = some (.ifCond .ne 13, [18]) := by decide +kernel
theorem zi_122_18 : zI 122 18 = some (.aload_n 0, []) := by decide +kernel
theorem zi_122_19 : zI 122 19 = some (.iload_n 2, []) := by decide +kernel
theorem zi_122_20 : zI 122 20 = some (.invokevirtual 167, [10, 0, 1, 6, 382, 383, 118, 381, 0, 380]) := by decide +kernel
theorem zi_122_23 : zI 122 23 = some (.ifCond .ne 13, [36]) := by decide +kernel
theorem zi_122_36 : zI 122 36 = some (.aload_n 0, []) := by decide +kernel
theorem zi_122_37 : zI 122 37 = some (.getfield 19, [6, 1, 13]) := by decide +kernel
theorem zi_122_40 : zI 122 40 = some (.aload_n 0, []) := by decide +kernel
theorem zi_122_41 : zI 122 41 = some (.getfield 12, [6, 0, 34]) := by decide +kernel
theorem zi_122_44 : zI 122 44 = some (.iload_n 1, []) := by decide +kernel
theorem zi_122_45 : zI 122 45 = some (.iload_n 2, []) := by decide +kernel
theorem zi_122_46 : zI 122 46 = some (.invokevirtual 200, [41, 0, 3, 5, 148, 149, 139, 147, 0, 524]) := by decide +kernel
theorem zi_122_49 : zI 122 49 = some (.ireturn, []) := by decide +kernel
theorem zi_123_0 : zI 123 0 = some (.aload_n 0, []) := by decide +kernel
theorem zi_123_1 : zI 123 1 = some (.iload_n 1, []) := by decide +kernel
theorem zi_123_2 : zI 123 2 = some (.invokevirtual 203, [44, 0, 1, 6, 409, 410, 118, 408, 0, 407]) := by decide +kernel
theorem zi_123_5 : zI 123 5 = some (.ifCond .ne 13, [18]) := by decide +kernel
theorem zi_123_18 : zI 123 18 = some (.iload_n 2, []) := by decide +kernel
theorem zi_123_19 : zI 123 19 = some (.ifCond .lt 18, [37]) := by decide +kernel
theorem zi_123_22 : zI 123 22 = some (.iload_n 2, []) := by decide +kernel
theorem zi_123_23 : zI 123 23 = some (.aload_n 0, []) := by decide +kernel
theorem zi_123_24 : zI 123 24 = some (.getfield 29, [6, 3, 54]) := by decide +kernel
theorem zi_123_27 : zI 123 27 = some (.getfield 216, [3, 4, 413]) := by decide +kernel
theorem zi_123_30 : zI 123 30 = some (.iload_n 1, []) := by decide +kernel
theorem zi_123_31 : zI 123 31 = some (.invokevirtual 83, [0, 0, 1, 1, 10, 11, 12, 9, 0, 56]) := by decide +kernel
theorem zi_123_34 : zI 123 34 = some (.if_icmp .lt 13, [47]) := by decide +kernel
theorem zi_123_47 : zI 123 47 = some (.aload_n 0, []) := by decide +kernel
theorem zi_123_48 : zI 123 48 = some (.getfield 29, [6, 3, 54]) := by decide +kernel
theorem zi_123_51 : zI 123 51 = some (.iload_n 1, []) := by decide +kernel
theorem zi_123_52 : zI 123 52 = some (.iload_n 2, []) := by decide +kernel
theorem zi_123_53 : zI 123 53 = some (.invokevirtual 229, [83, 0, 2, 3, 527, 528, 61, 526, 0, 525]) := by decide +kernel
theorem zi_123_56 : zI 123 56 = some (.ireturn, []) := by decide +kernel
theorem zi_125_0 : zI 125 0 = some (.aload_n 0, []) := by decide +kernel
theorem zi_125_1 : zI 125 1 = some (.iload_n 1, []) := by decide +kernel
theorem zi_125_2 : zI 125 2 = some (.invokevirtual 167, [10, 0, 1, 6, 382, 383, 118, 381, 0, 380]) := by decide +kernel
theorem zi_125_5 : zI 125 5 = some (.ifCond .ne 13, [18]) := by decide +kernel
theorem zi_125_18 : zI 125 18 = some (.iload_n 2, []) := by decide +kernel
theorem zi_125_19 : zI 125 19 = some (.ifCond .ge 13, [32]) := by decide +kernel
theorem zi_125_32 : zI 125 32 = some (.aload_n 0, []) := by decide +kernel
theorem zi_125_33 : zI 125 33 = some (.getfield 12, [6, 0, 34]) := by decide +kernel
theorem zi_125_36 : zI 125 36 = some (.iload_n 1, []) := by decide +kernel
theorem zi_125_37 : zI 125 37 = some (.iload_n 2, []) := by decide +kernel
theorem zi_125_38 : zI 125 38 = some (.iload_n 2, []) := by decide +kernel
theorem zi_125_39 : zI 125 39 = some (.aload_n 0, []) := by decide +kernel
theorem zi_125_40 : zI 125 40 = some (.getfield 52, [6, 6, 55]) := by decide +kernel
theorem zi_125_43 : zI 125 43 = some (.iconst 2, []) := by decide +kernel
theorem zi_125_44 : zI 125 44 = some (.invokevirtual 83, [0, 0, 1, 1, 10, 11, 12, 9, 0, 56]) := by decide +kernel
theorem zi_125_47 : zI 125 47 = some (.invokevirtual 240, [33, 0, 4, 0, 351, 352, 53, 350, 0, 533]) := by decide +kernel
theorem zi_125_50 : zI 125 50 = some (.ireturn, []) := by decide +kernel
theorem zi_127_0 : zI 127 0 = some (.iload_n 1, []) := by decide +kernel
theorem zi_127_1 : zI 127 1 = some (.sipush 1000, []) := by decide +kernel
theorem zi_127_4 : zI 127 4 = some (.invokestatic 60, [5, 1, 2, 0, 361, 0, 118, 360, 0, 359]) := by decide +kernel
theorem zi_127_7 : zI 127 7 = some (.ifCond .ne 14, [21]) := by decide +kernel
theorem zi_127_21 : zI 127 21 = some (.iconst 0, []) := by decide +kernel
theorem zi_127_22 : zI 127 22 = some (.istore_n 2, []) := by decide +kernel
theorem zi_127_23 : zI 127 23 = some (.iconst 0, []) := by decide +kernel
theorem zi_127_24 : zI 127 24 = some (.istore_n 3, []) := by decide +kernel
theorem zi_127_25 : zI 127 25 = some (.iload_n 3, []) := by decide +kernel
theorem zi_127_26 : zI 127 26 = some (.aload_n 0, []) := by decide +kernel
theorem zi_127_27 : zI 127 27 = some (.getfield 12, [6, 0, 34]) := by decide +kernel
theorem zi_127_30 : zI 127 30 = some (.getfield 71, [0, 7, 35]) := by decide +kernel
theorem zi_127_33 : zI 127 33 = some (.if_icmp .ge 39, [72]) := by decide +kernel
theorem zi_127_36 : zI 127 36 = some (.aload_n 0, []) := by decide +kernel
theorem zi_127_37 : zI 127 37 = some (.getfield 12, [6, 0, 34]) := by decide +kernel
theorem zi_127_40 : zI 127 40 = some (.getfield 152, [0, 6, 376]) := by decide +kernel
theorem zi_127_43 : zI 127 43 = some (.iload_n 3, []) := by decide +kernel
theorem zi_127_44 : zI 127 44 = some (.invokevirtual 83, [0, 0, 1, 1, 10, 11, 12, 9, 0, 56]) := by decide +kernel
theorem zi_127_47 : zI 127 47 = some (.ifCond .lt 19, [66]) := by decide +kernel
theorem zi_127_50 : zI 127 50 = some (.aload_n 0, []) := by decide +kernel
theorem zi_127_51 : zI 127 51 = some (.getfield 12, [6, 0, 34]) := by decide +kernel
theorem zi_127_54 : zI 127 54 = some (.iload_n 3, []) := by decide +kernel
theorem zi_127_55 : zI 127 55 = some (.iload_n 1, []) := by decide +kernel
theorem zi_127_56 : zI 127 56 = some (.invokevirtual 282, [34, 0, 2, 0, 305, 306, 53, 304, 0, 534]) := by decide +kernel
theorem zi_127_59 : zI 127 59 = some (.iconst (-1), []) := by decide +kernel
theorem zi_127_60 : zI 127 60 = some (.if_icmp .ne 6, [66]) := by decide +kernel
theorem zi_127_63 : zI 127 63 = some (.iinc 2 1, []) := by decide +kernel
theorem zi_127_66 : zI 127 66 = some (.iinc 3 1, []) := by decide +kernel
theorem zi_127_69 : zI 127 69 = some (.goto (-44), [25]) := by decide +kernel
theorem zi_127_72 : zI 127 72 = some (.iload_n 2, []) := by decide +kernel
theorem zi_127_73 : zI 127 73 = some (.ireturn, []) := by decide +kernel
/-! what is asked of a Nightjar at rest -/
section
variable {b : Nat} {F : Nat → Nat → Int32} {g : Nat → Nat} {h : zH} {x : Nat → Nat} {sh gp wi bk : Nat}
theorem c_hasLine (hb : b + 71 ≤ h.length) (l : Nat) (hl : l < g 0) (hn : g 0 ≤ 70) : zcalls zTB 17 [.ref b, .int (nI l)] (nput b F g h) (some (.int 1), nput b F g h) := by
  refine zcalls_of (Nat.le_of_ble_eq_true rfl) ?_
  show zruns zTB 17 0 [some (.ref b), some (.int (nI l))] [] _ _
  refine zr_iload_n (pc' := 1) zi_17_0 rfl rfl ?_
  refine zr_if (pc' := 4) zi_17_1 rfl (fun h1 => ?_) (fun h1 => ?_)
  · replace h1 := zx_lt_t h1
    exact absurd h1 (nI_pos (by omega))
  · replace h1 := zx_lt_f h1
    refine zr_iload_n (pc' := 5) zi_17_4 rfl rfl ?_
    refine zr_aload_n (pc' := 6) zi_17_5 rfl rfl ?_
    refine zr_get (pc' := 9) zi_17_6 (nput_at hb (k := 0) rfl) rfl rfl ?_
    refine zr_get (pc' := 12) zi_17_9 (nput_at hb (k := 1) rfl) rfl rfl ?_
    refine zr_icmp (pc' := 15) zi_17_12 rfl (fun h12 => ?_) (fun h12 => ?_)
    · replace h12 := zc_ge_t (by omega) (by omega) h12
      omega
    · replace h12 := zc_ge_f (by omega) (by omega) h12
      refine zr_iconst (v := (nI 1)) (pc' := 16) zi_17_15 rfl rfl ?_
      refine zr_goto zi_17_16 ?_
      exact zr_zreturn zi_17_20 rfl (by decide)
theorem c_hasTemplate (hb : b + 71 ≤ h.length) (l : Nat) (hl : l < g 2) (hn : g 2 ≤ 20) : zcalls zTB 10 [.ref b, .int (nI l)] (nput b F g h) (some (.int 1), nput b F g h) := by
  refine zcalls_of (Nat.le_of_ble_eq_true rfl) ?_
  show zruns zTB 10 0 [some (.ref b), some (.int (nI l))] [] _ _
  refine zr_iload_n (pc' := 1) zi_10_0 rfl rfl ?_
  refine zr_if (pc' := 4) zi_10_1 rfl (fun h1 => ?_) (fun h1 => ?_)
  · replace h1 := zx_lt_t h1
    exact absurd h1 (nI_pos (by omega))
  · replace h1 := zx_lt_f h1
    refine zr_iload_n (pc' := 5) zi_10_4 rfl rfl ?_
    refine zr_aload_n (pc' := 6) zi_10_5 rfl rfl ?_
    refine zr_get (pc' := 9) zi_10_6 (nput_at hb (k := 0) rfl) rfl rfl ?_
    refine zr_get (pc' := 12) zi_10_9 (nput_at hb (k := 16) rfl) rfl rfl ?_
    refine zr_icmp (pc' := 15) zi_10_12 rfl (fun h12 => ?_) (fun h12 => ?_)
    · replace h12 := zc_ge_t (by omega) (by omega) h12
      omega
    · replace h12 := zc_ge_f (by omega) (by omega) h12
      refine zr_iconst (v := (nI 1)) (pc' := 16) zi_10_15 rfl rfl ?_
      refine zr_goto zi_10_16 ?_
      exact zr_zreturn zi_10_20 rfl (by decide)
theorem c_hasSession (hb : b + 71 ≤ h.length) (l : Nat) (hl : l < g 4) (hn : g 4 ≤ 70) : zcalls zTB 44 [.ref b, .int (nI l)] (nput b F g h) (some (.int 1), nput b F g h) := by
  refine zcalls_of (Nat.le_of_ble_eq_true rfl) ?_
  show zruns zTB 44 0 [some (.ref b), some (.int (nI l))] [] _ _
  refine zr_iload_n (pc' := 1) zi_44_0 rfl rfl ?_
  refine zr_if (pc' := 4) zi_44_1 rfl (fun h1 => ?_) (fun h1 => ?_)
  · replace h1 := zx_lt_t h1
    exact absurd h1 (nI_pos (by omega))
  · replace h1 := zx_lt_f h1
    refine zr_iload_n (pc' := 5) zi_44_4 rfl rfl ?_
    refine zr_aload_n (pc' := 6) zi_44_5 rfl rfl ?_
    refine zr_get (pc' := 9) zi_44_6 (nput_at hb (k := 0) rfl) rfl rfl ?_
    refine zr_get (pc' := 12) zi_44_9 (nput_at hb (k := 26) rfl) rfl rfl ?_
    refine zr_icmp (pc' := 15) zi_44_12 rfl (fun h12 => ?_) (fun h12 => ?_)
    · replace h12 := zc_ge_t (by omega) (by omega) h12
      omega
    · replace h12 := zc_ge_f (by omega) (by omega) h12
      refine zr_iconst (v := (nI 1)) (pc' := 16) zi_44_15 rfl rfl ?_
      refine zr_goto zi_44_16 ?_
      exact zr_zreturn zi_44_20 rfl (by decide)
theorem zOk.S70 (q : zOk F g x sh gp wi bk) : g 4 ≤ 70 := by
  obtain ⟨C, Z, qs⟩ := q.to.se
  exact Nat.le_trans qs.le q.nb.n70
theorem c_many0 (hb : b + 71 ≤ h.length) (q : zOk F g x sh gp wi bk) : zcalls zTB 94 [.ref b, .int (nI 0)] (nput b F g h) (some (.int (nI (g 0))), nput b F g h) := by
  refine zcalls_of (Nat.le_of_ble_eq_true rfl) ?_
  show zruns zTB 94 0 [some (.ref b), some (.int (nI 0))] [] _ _
  refine zr_iload_n (pc' := 1) zi_94_0 rfl rfl ?_
  refine zr_iconst (v := (nI 5)) (pc' := 2) zi_94_1 rfl rfl ?_
  refine zr_s2 (pc' := 5) zi_94_2 rfl (c_inN _ _ (by omega) (by omega)) rfl ?_
  refine zr_if (pc' := 8) zi_94_5 rfl (fun h5 => ?_) (fun h5 => ?_)
  · replace h5 := zc_ne_t h5
    refine zr_iload_n (pc' := 19) zi_94_18 rfl rfl ?_
    refine zr_table_in zi_94_19 0 (by decide) (by decide) rfl ?_
    refine zr_aload_n (pc' := 53) zi_94_52 rfl rfl ?_
    refine zr_get (pc' := 56) zi_94_53 (nput_at hb (k := 0) rfl) rfl rfl ?_
    refine zr_get (pc' := 59) zi_94_56 (nput_at hb (k := 1) rfl) rfl rfl ?_
    exact zr_ireturn zi_94_59 rfl
  · replace h5 := zc_ne_f h5
    exact absurd h5 (by decide)
    
theorem c_many1 (hb : b + 71 ≤ h.length) (q : zOk F g x sh gp wi bk) : zcalls zTB 94 [.ref b, .int (nI 1)] (nput b F g h) (some (.int (nI (g 1))), nput b F g h) := by
  refine zcalls_of (Nat.le_of_ble_eq_true rfl) ?_
  show zruns zTB 94 0 [some (.ref b), some (.int (nI 1))] [] _ _
  refine zr_iload_n (pc' := 1) zi_94_0 rfl rfl ?_
  refine zr_iconst (v := (nI 5)) (pc' := 2) zi_94_1 rfl rfl ?_
  refine zr_s2 (pc' := 5) zi_94_2 rfl (c_inN _ _ (by omega) (by omega)) rfl ?_
  refine zr_if (pc' := 8) zi_94_5 rfl (fun h5 => ?_) (fun h5 => ?_)
  · replace h5 := zc_ne_t h5
    refine zr_iload_n (pc' := 19) zi_94_18 rfl rfl ?_
    refine zr_table_in zi_94_19 1 (by decide) (by decide) rfl ?_
    refine zr_aload_n (pc' := 61) zi_94_60 rfl rfl ?_
    refine zr_get (pc' := 64) zi_94_61 (nput_at hb (k := 0) rfl) rfl rfl ?_
    refine zr_get (pc' := 67) zi_94_64 (nput_at hb (k := 1) rfl) rfl rfl ?_
    exact zr_ireturn zi_94_67 rfl
  · replace h5 := zc_ne_f h5
    exact absurd h5 (by decide)
    
theorem c_many2 (hb : b + 71 ≤ h.length) (q : zOk F g x sh gp wi bk) : zcalls zTB 94 [.ref b, .int (nI 2)] (nput b F g h) (some (.int (nI (g 2))), nput b F g h) := by
  refine zcalls_of (Nat.le_of_ble_eq_true rfl) ?_
  show zruns zTB 94 0 [some (.ref b), some (.int (nI 2))] [] _ _
  refine zr_iload_n (pc' := 1) zi_94_0 rfl rfl ?_
  refine zr_iconst (v := (nI 5)) (pc' := 2) zi_94_1 rfl rfl ?_
  refine zr_s2 (pc' := 5) zi_94_2 rfl (c_inN _ _ (by omega) (by omega)) rfl ?_
  refine zr_if (pc' := 8) zi_94_5 rfl (fun h5 => ?_) (fun h5 => ?_)
  · replace h5 := zc_ne_t h5
    refine zr_iload_n (pc' := 19) zi_94_18 rfl rfl ?_
    refine zr_table_in zi_94_19 2 (by decide) (by decide) rfl ?_
    refine zr_aload_n (pc' := 69) zi_94_68 rfl rfl ?_
    refine zr_get (pc' := 72) zi_94_69 (nput_at hb (k := 0) rfl) rfl rfl ?_
    refine zr_get (pc' := 75) zi_94_72 (nput_at hb (k := 16) rfl) rfl rfl ?_
    exact zr_ireturn zi_94_75 rfl
  · replace h5 := zc_ne_f h5
    exact absurd h5 (by decide)
    
theorem c_many3 (hb : b + 71 ≤ h.length) (q : zOk F g x sh gp wi bk) : zcalls zTB 94 [.ref b, .int (nI 3)] (nput b F g h) (some (.int (nI (g 4))), nput b F g h) := by
  refine zcalls_of (Nat.le_of_ble_eq_true rfl) ?_
  show zruns zTB 94 0 [some (.ref b), some (.int (nI 3))] [] _ _
  refine zr_iload_n (pc' := 1) zi_94_0 rfl rfl ?_
  refine zr_iconst (v := (nI 5)) (pc' := 2) zi_94_1 rfl rfl ?_
  refine zr_s2 (pc' := 5) zi_94_2 rfl (c_inN _ _ (by omega) (by omega)) rfl ?_
  refine zr_if (pc' := 8) zi_94_5 rfl (fun h5 => ?_) (fun h5 => ?_)
  · replace h5 := zc_ne_t h5
    refine zr_iload_n (pc' := 19) zi_94_18 rfl rfl ?_
    refine zr_table_in zi_94_19 3 (by decide) (by decide) rfl ?_
    refine zr_aload_n (pc' := 77) zi_94_76 rfl rfl ?_
    refine zr_get (pc' := 80) zi_94_77 (nput_at hb (k := 0) rfl) rfl rfl ?_
    refine zr_get (pc' := 83) zi_94_80 (nput_at hb (k := 26) rfl) rfl rfl ?_
    exact zr_ireturn zi_94_83 rfl
  · replace h5 := zc_ne_f h5
    exact absurd h5 (by decide)
    
theorem c_many4 (hb : b + 71 ≤ h.length) (q : zOk F g x sh gp wi bk) : zcalls zTB 94 [.ref b, .int (nI 4)] (nput b F g h) (some (.int (nI (zcnt (zbrk F) (g 4)))), nput b F g h) := by
  refine zcalls_of (Nat.le_of_ble_eq_true rfl) ?_
  show zruns zTB 94 0 [some (.ref b), some (.int (nI 4))] [] _ _
  refine zr_iload_n (pc' := 1) zi_94_0 rfl rfl ?_
  refine zr_iconst (v := (nI 5)) (pc' := 2) zi_94_1 rfl rfl ?_
  refine zr_s2 (pc' := 5) zi_94_2 rfl (c_inN _ _ (by omega) (by omega)) rfl ?_
  refine zr_if (pc' := 8) zi_94_5 rfl (fun h5 => ?_) (fun h5 => ?_)
  · replace h5 := zc_ne_t h5
    refine zr_iload_n (pc' := 19) zi_94_18 rfl rfl ?_
    refine zr_table_in zi_94_19 4 (by decide) (by decide) rfl ?_
    refine zr_aload_n (pc' := 85) zi_94_84 rfl rfl ?_
    refine zr_get (pc' := 88) zi_94_85 (nput_at hb (k := 0) rfl) rfl rfl ?_
    refine zr_v0 (pc' := 91) zi_94_88 (nput_at hb (k := 26) rfl) rfl (c_howManyBroken hb q.S70) rfl ?_
    exact zr_ireturn zi_94_91 rfl
  · replace h5 := zc_ne_f h5
    exact absurd h5 (by decide)
theorem c_many5 (hb : b + 71 ≤ h.length) (q : zOk F g x sh gp wi bk) : zcalls zTB 94 [.ref b, .int (nI 5)] (nput b F g h) (some (.int (nI (g 5))), nput b F g h) := by
  refine zcalls_of (Nat.le_of_ble_eq_true rfl) ?_
  show zruns zTB 94 0 [some (.ref b), some (.int (nI 5))] [] _ _
  refine zr_iload_n (pc' := 1) zi_94_0 rfl rfl ?_
  refine zr_iconst (v := (nI 5)) (pc' := 2) zi_94_1 rfl rfl ?_
  refine zr_s2 (pc' := 5) zi_94_2 rfl (c_inN _ _ (by omega) (by omega)) rfl ?_
  refine zr_if (pc' := 8) zi_94_5 rfl (fun h5 => ?_) (fun h5 => ?_)
  · replace h5 := zc_ne_t h5
    refine zr_iload_n (pc' := 19) zi_94_18 rfl rfl ?_
    refine zr_table_out zi_94_19 (by decide) ?_
    refine zr_aload_n (pc' := 93) zi_94_92 rfl rfl ?_
    refine zr_get (pc' := 96) zi_94_93 (nput_at hb (k := 0) rfl) rfl rfl ?_
    refine zr_get (pc' := 99) zi_94_96 (nput_at hb (k := 43) rfl) rfl rfl ?_
    exact zr_ireturn zi_94_99 rfl
  · replace h5 := zc_ne_f h5
    exact absurd h5 (by decide)
    
theorem c_quoP {H : zH} (x o : Nat) (hx : x < 2 ^ 31) (h0 : 0 < o) (ho : o < 2 ^ 31) : zcalls zTB 13 [.int (nI x), .int (nI o)] H (some (.int (nI (x / o))), H) := by
  have hc := c_quo (H := H) x o hx ho
  rw [if_neg (by omega)] at hc
  exact hc
theorem c_ofLine0 (hb : b + 71 ≤ h.length) (q : zOk F g x sh gp wi bk) (l : Nat) (hl : l < g 0) : zcalls zTB 95 [.ref b, .int (nI l), .int (nI 0)] (nput b F g h) (some (.int (F 0 l)), nput b F g h) := by
  have hn := q.nb.n70
  refine zcalls_of (Nat.le_of_ble_eq_true rfl) ?_
  show zruns zTB 95 0 [some (.ref b), some (.int (nI l)), some (.int (nI 0))] [] _ _
  refine zr_aload_n (pc' := 1) zi_95_0 rfl rfl ?_
  refine zr_iload_n (pc' := 2) zi_95_1 rfl rfl ?_
  refine zr_v1 (pc' := 5) zi_95_2 (nput_at hb (k := 0) rfl) rfl (c_hasLine hb l hl hn) rfl ?_
  refine zr_if (pc' := 8) zi_95_5 rfl (fun h5 => ?_) (fun h5 => ?_)
  · replace h5 := zc_ne_t h5
    refine zr_iload_n (pc' := 19) zi_95_18 rfl rfl ?_
    refine zr_bipush (v := (nI 8)) (pc' := 21) zi_95_19 rfl rfl ?_
    refine zr_s2 (pc' := 24) zi_95_21 rfl (c_inN _ _ (by omega) (by omega)) rfl ?_
    refine zr_if (pc' := 27) zi_95_24 rfl (fun h24 => ?_) (fun h24 => ?_)
    · replace h24 := zc_ne_t h24
      refine zr_iload_n (pc' := 38) zi_95_37 rfl rfl ?_
      refine zr_table_in zi_95_38 0 (by decide) (by decide) rfl ?_
      refine zr_aload_n (pc' := 85) zi_95_84 rfl rfl ?_
      refine zr_get (pc' := 88) zi_95_85 (nput_at hb (k := 0) rfl) rfl rfl ?_
      refine zr_get (pc' := 91) zi_95_88 (nput_at hb (k := 1) rfl) rfl rfl ?_
      refine zr_iload_n (pc' := 92) zi_95_91 rfl rfl ?_
      refine zr_atN (pc' := 95) (by omega) zi_95_92 hb rfl rfl (by decide) rfl rfl ?_
      exact zr_ireturn zi_95_95 rfl
    · replace h24 := zc_ne_f h24
      exact absurd h24 (by decide)
      
      
  · replace h5 := zc_ne_f h5
    exact absurd h5 (by decide)
theorem c_ofLine1 (hb : b + 71 ≤ h.length) (q : zOk F g x sh gp wi bk) (l : Nat) (hl : l < g 0) : zcalls zTB 95 [.ref b, .int (nI l), .int (nI 1)] (nput b F g h) (some (.int (F 1 l)), nput b F g h) := by
  have hn := q.nb.n70
  refine zcalls_of (Nat.le_of_ble_eq_true rfl) ?_
  show zruns zTB 95 0 [some (.ref b), some (.int (nI l)), some (.int (nI 1))] [] _ _
  refine zr_aload_n (pc' := 1) zi_95_0 rfl rfl ?_
  refine zr_iload_n (pc' := 2) zi_95_1 rfl rfl ?_
  refine zr_v1 (pc' := 5) zi_95_2 (nput_at hb (k := 0) rfl) rfl (c_hasLine hb l hl hn) rfl ?_
  refine zr_if (pc' := 8) zi_95_5 rfl (fun h5 => ?_) (fun h5 => ?_)
  · replace h5 := zc_ne_t h5
    refine zr_iload_n (pc' := 19) zi_95_18 rfl rfl ?_
    refine zr_bipush (v := (nI 8)) (pc' := 21) zi_95_19 rfl rfl ?_
    refine zr_s2 (pc' := 24) zi_95_21 rfl (c_inN _ _ (by omega) (by omega)) rfl ?_
    refine zr_if (pc' := 27) zi_95_24 rfl (fun h24 => ?_) (fun h24 => ?_)
    · replace h24 := zc_ne_t h24
      refine zr_iload_n (pc' := 38) zi_95_37 rfl rfl ?_
      refine zr_table_in zi_95_38 1 (by decide) (by decide) rfl ?_
      refine zr_aload_n (pc' := 97) zi_95_96 rfl rfl ?_
      refine zr_get (pc' := 100) zi_95_97 (nput_at hb (k := 0) rfl) rfl rfl ?_
      refine zr_get (pc' := 103) zi_95_100 (nput_at hb (k := 1) rfl) rfl rfl ?_
      refine zr_iload_n (pc' := 104) zi_95_103 rfl rfl ?_
      refine zr_atN (pc' := 107) (by omega) zi_95_104 hb rfl rfl (by decide) rfl rfl ?_
      exact zr_ireturn zi_95_107 rfl
    · replace h24 := zc_ne_f h24
      exact absurd h24 (by decide)
      
      
  · replace h5 := zc_ne_f h5
    exact absurd h5 (by decide)
theorem c_ofLine2 (hb : b + 71 ≤ h.length) (q : zOk F g x sh gp wi bk) (l : Nat) (hl : l < g 0) : zcalls zTB 95 [.ref b, .int (nI l), .int (nI 2)] (nput b F g h) (some (.int (F 2 l)), nput b F g h) := by
  have hn := q.nb.n70
  refine zcalls_of (Nat.le_of_ble_eq_true rfl) ?_
  show zruns zTB 95 0 [some (.ref b), some (.int (nI l)), some (.int (nI 2))] [] _ _
  refine zr_aload_n (pc' := 1) zi_95_0 rfl rfl ?_
  refine zr_iload_n (pc' := 2) zi_95_1 rfl rfl ?_
  refine zr_v1 (pc' := 5) zi_95_2 (nput_at hb (k := 0) rfl) rfl (c_hasLine hb l hl hn) rfl ?_
  refine zr_if (pc' := 8) zi_95_5 rfl (fun h5 => ?_) (fun h5 => ?_)
  · replace h5 := zc_ne_t h5
    refine zr_iload_n (pc' := 19) zi_95_18 rfl rfl ?_
    refine zr_bipush (v := (nI 8)) (pc' := 21) zi_95_19 rfl rfl ?_
    refine zr_s2 (pc' := 24) zi_95_21 rfl (c_inN _ _ (by omega) (by omega)) rfl ?_
    refine zr_if (pc' := 27) zi_95_24 rfl (fun h24 => ?_) (fun h24 => ?_)
    · replace h24 := zc_ne_t h24
      refine zr_iload_n (pc' := 38) zi_95_37 rfl rfl ?_
      refine zr_table_in zi_95_38 2 (by decide) (by decide) rfl ?_
      refine zr_aload_n (pc' := 109) zi_95_108 rfl rfl ?_
      refine zr_get (pc' := 112) zi_95_109 (nput_at hb (k := 0) rfl) rfl rfl ?_
      refine zr_get (pc' := 115) zi_95_112 (nput_at hb (k := 1) rfl) rfl rfl ?_
      refine zr_iload_n (pc' := 116) zi_95_115 rfl rfl ?_
      refine zr_atN (pc' := 119) (by omega) zi_95_116 hb rfl rfl (by decide) rfl rfl ?_
      exact zr_ireturn zi_95_119 rfl
    · replace h24 := zc_ne_f h24
      exact absurd h24 (by decide)
      
      
  · replace h5 := zc_ne_f h5
    exact absurd h5 (by decide)
theorem c_ofLine3 (hb : b + 71 ≤ h.length) (q : zOk F g x sh gp wi bk) (l : Nat) (hl : l < g 0) : zcalls zTB 95 [.ref b, .int (nI l), .int (nI 3)] (nput b F g h) (some (.int (F 3 l)), nput b F g h) := by
  have hn := q.nb.n70
  refine zcalls_of (Nat.le_of_ble_eq_true rfl) ?_
  show zruns zTB 95 0 [some (.ref b), some (.int (nI l)), some (.int (nI 3))] [] _ _
  refine zr_aload_n (pc' := 1) zi_95_0 rfl rfl ?_
  refine zr_iload_n (pc' := 2) zi_95_1 rfl rfl ?_
  refine zr_v1 (pc' := 5) zi_95_2 (nput_at hb (k := 0) rfl) rfl (c_hasLine hb l hl hn) rfl ?_
  refine zr_if (pc' := 8) zi_95_5 rfl (fun h5 => ?_) (fun h5 => ?_)
  · replace h5 := zc_ne_t h5
    refine zr_iload_n (pc' := 19) zi_95_18 rfl rfl ?_
    refine zr_bipush (v := (nI 8)) (pc' := 21) zi_95_19 rfl rfl ?_
    refine zr_s2 (pc' := 24) zi_95_21 rfl (c_inN _ _ (by omega) (by omega)) rfl ?_
    refine zr_if (pc' := 27) zi_95_24 rfl (fun h24 => ?_) (fun h24 => ?_)
    · replace h24 := zc_ne_t h24
      refine zr_iload_n (pc' := 38) zi_95_37 rfl rfl ?_
      refine zr_table_in zi_95_38 3 (by decide) (by decide) rfl ?_
      refine zr_aload_n (pc' := 121) zi_95_120 rfl rfl ?_
      refine zr_get (pc' := 124) zi_95_121 (nput_at hb (k := 0) rfl) rfl rfl ?_
      refine zr_get (pc' := 127) zi_95_124 (nput_at hb (k := 1) rfl) rfl rfl ?_
      refine zr_iload_n (pc' := 128) zi_95_127 rfl rfl ?_
      refine zr_atN (pc' := 131) (by omega) zi_95_128 hb rfl rfl (by decide) rfl rfl ?_
      exact zr_ireturn zi_95_131 rfl
    · replace h24 := zc_ne_f h24
      exact absurd h24 (by decide)
      
      
  · replace h5 := zc_ne_f h5
    exact absurd h5 (by decide)
theorem c_ofLine4 (hb : b + 71 ≤ h.length) (q : zOk F g x sh gp wi bk) (l : Nat) (hl : l < g 0) : zcalls zTB 95 [.ref b, .int (nI l), .int (nI 4)] (nput b F g h) (some (.int (F 5 l)), nput b F g h) := by
  have hn := q.nb.n70
  refine zcalls_of (Nat.le_of_ble_eq_true rfl) ?_
  show zruns zTB 95 0 [some (.ref b), some (.int (nI l)), some (.int (nI 4))] [] _ _
  refine zr_aload_n (pc' := 1) zi_95_0 rfl rfl ?_
  refine zr_iload_n (pc' := 2) zi_95_1 rfl rfl ?_
  refine zr_v1 (pc' := 5) zi_95_2 (nput_at hb (k := 0) rfl) rfl (c_hasLine hb l hl hn) rfl ?_
  refine zr_if (pc' := 8) zi_95_5 rfl (fun h5 => ?_) (fun h5 => ?_)
  · replace h5 := zc_ne_t h5
    refine zr_iload_n (pc' := 19) zi_95_18 rfl rfl ?_
    refine zr_bipush (v := (nI 8)) (pc' := 21) zi_95_19 rfl rfl ?_
    refine zr_s2 (pc' := 24) zi_95_21 rfl (c_inN _ _ (by omega) (by omega)) rfl ?_
    refine zr_if (pc' := 27) zi_95_24 rfl (fun h24 => ?_) (fun h24 => ?_)
    · replace h24 := zc_ne_t h24
      refine zr_iload_n (pc' := 38) zi_95_37 rfl rfl ?_
      refine zr_table_in zi_95_38 4 (by decide) (by decide) rfl ?_
      refine zr_aload_n (pc' := 133) zi_95_132 rfl rfl ?_
      refine zr_get (pc' := 136) zi_95_133 (nput_at hb (k := 0) rfl) rfl rfl ?_
      refine zr_get (pc' := 139) zi_95_136 (nput_at hb (k := 1) rfl) rfl rfl ?_
      refine zr_iload_n (pc' := 140) zi_95_139 rfl rfl ?_
      refine zr_atN (pc' := 143) (by omega) zi_95_140 hb rfl rfl (by decide) rfl rfl ?_
      exact zr_ireturn zi_95_143 rfl
    · replace h24 := zc_ne_f h24
      exact absurd h24 (by decide)
      
      
  · replace h5 := zc_ne_f h5
    exact absurd h5 (by decide)
theorem c_ofLine5 (hb : b + 71 ≤ h.length) (q : zOk F g x sh gp wi bk) (l : Nat) (hl : l < g 0) : zcalls zTB 95 [.ref b, .int (nI l), .int (nI 5)] (nput b F g h) (some (.int (F 6 l)), nput b F g h) := by
  have hn := q.nb.n70
  refine zcalls_of (Nat.le_of_ble_eq_true rfl) ?_
  show zruns zTB 95 0 [some (.ref b), some (.int (nI l)), some (.int (nI 5))] [] _ _
  refine zr_aload_n (pc' := 1) zi_95_0 rfl rfl ?_
  refine zr_iload_n (pc' := 2) zi_95_1 rfl rfl ?_
  refine zr_v1 (pc' := 5) zi_95_2 (nput_at hb (k := 0) rfl) rfl (c_hasLine hb l hl hn) rfl ?_
  refine zr_if (pc' := 8) zi_95_5 rfl (fun h5 => ?_) (fun h5 => ?_)
  · replace h5 := zc_ne_t h5
    refine zr_iload_n (pc' := 19) zi_95_18 rfl rfl ?_
    refine zr_bipush (v := (nI 8)) (pc' := 21) zi_95_19 rfl rfl ?_
    refine zr_s2 (pc' := 24) zi_95_21 rfl (c_inN _ _ (by omega) (by omega)) rfl ?_
    refine zr_if (pc' := 27) zi_95_24 rfl (fun h24 => ?_) (fun h24 => ?_)
    · replace h24 := zc_ne_t h24
      refine zr_iload_n (pc' := 38) zi_95_37 rfl rfl ?_
      refine zr_table_in zi_95_38 5 (by decide) (by decide) rfl ?_
      refine zr_aload_n (pc' := 145) zi_95_144 rfl rfl ?_
      refine zr_get (pc' := 148) zi_95_145 (nput_at hb (k := 0) rfl) rfl rfl ?_
      refine zr_get (pc' := 151) zi_95_148 (nput_at hb (k := 1) rfl) rfl rfl ?_
      refine zr_iload_n (pc' := 152) zi_95_151 rfl rfl ?_
      refine zr_atN (pc' := 155) (by omega) zi_95_152 hb rfl rfl (by decide) rfl rfl ?_
      exact zr_ireturn zi_95_155 rfl
    · replace h24 := zc_ne_f h24
      exact absurd h24 (by decide)
      
      
  · replace h5 := zc_ne_f h5
    exact absurd h5 (by decide)
theorem c_ofLine6 (hb : b + 71 ≤ h.length) (q : zOk F g x sh gp wi bk) (l : Nat) (hl : l < g 0) : zcalls zTB 95 [.ref b, .int (nI l), .int (nI 6)] (nput b F g h) (some (.int (F 11 l)), nput b F g h) := by
  have hn := q.nb.n70
  refine zcalls_of (Nat.le_of_ble_eq_true rfl) ?_
  show zruns zTB 95 0 [some (.ref b), some (.int (nI l)), some (.int (nI 6))] [] _ _
  refine zr_aload_n (pc' := 1) zi_95_0 rfl rfl ?_
  refine zr_iload_n (pc' := 2) zi_95_1 rfl rfl ?_
  refine zr_v1 (pc' := 5) zi_95_2 (nput_at hb (k := 0) rfl) rfl (c_hasLine hb l hl hn) rfl ?_
  refine zr_if (pc' := 8) zi_95_5 rfl (fun h5 => ?_) (fun h5 => ?_)
  · replace h5 := zc_ne_t h5
    refine zr_iload_n (pc' := 19) zi_95_18 rfl rfl ?_
    refine zr_bipush (v := (nI 8)) (pc' := 21) zi_95_19 rfl rfl ?_
    refine zr_s2 (pc' := 24) zi_95_21 rfl (c_inN _ _ (by omega) (by omega)) rfl ?_
    refine zr_if (pc' := 27) zi_95_24 rfl (fun h24 => ?_) (fun h24 => ?_)
    · replace h24 := zc_ne_t h24
      refine zr_iload_n (pc' := 38) zi_95_37 rfl rfl ?_
      refine zr_table_in zi_95_38 6 (by decide) (by decide) rfl ?_
      refine zr_aload_n (pc' := 157) zi_95_156 rfl rfl ?_
      refine zr_get (pc' := 160) zi_95_157 (nput_at hb (k := 0) rfl) rfl rfl ?_
      refine zr_get (pc' := 163) zi_95_160 (nput_at hb (k := 26) rfl) rfl rfl ?_
      refine zr_iload_n (pc' := 164) zi_95_163 rfl rfl ?_
      refine zr_atN (pc' := 167) (by omega) zi_95_164 hb rfl rfl (by decide) rfl rfl ?_
      exact zr_ireturn zi_95_167 rfl
    · replace h24 := zc_ne_f h24
      exact absurd h24 (by decide)
      
      
  · replace h5 := zc_ne_f h5
    exact absurd h5 (by decide)
theorem c_ofLine7 (hb : b + 71 ≤ h.length) (q : zOk F g x sh gp wi bk) (l : Nat) (hl : l < g 0) : zcalls zTB 95 [.ref b, .int (nI l), .int (nI 7)] (nput b F g h) (some (.int (nI (x l / wi))), nput b F g h) := by
  have hn := q.nb.n70
  refine zcalls_of (Nat.le_of_ble_eq_true rfl) ?_
  show zruns zTB 95 0 [some (.ref b), some (.int (nI l)), some (.int (nI 7))] [] _ _
  refine zr_aload_n (pc' := 1) zi_95_0 rfl rfl ?_
  refine zr_iload_n (pc' := 2) zi_95_1 rfl rfl ?_
  refine zr_v1 (pc' := 5) zi_95_2 (nput_at hb (k := 0) rfl) rfl (c_hasLine hb l hl hn) rfl ?_
  refine zr_if (pc' := 8) zi_95_5 rfl (fun h5 => ?_) (fun h5 => ?_)
  · replace h5 := zc_ne_t h5
    refine zr_iload_n (pc' := 19) zi_95_18 rfl rfl ?_
    refine zr_bipush (v := (nI 8)) (pc' := 21) zi_95_19 rfl rfl ?_
    refine zr_s2 (pc' := 24) zi_95_21 rfl (c_inN _ _ (by omega) (by omega)) rfl ?_
    refine zr_if (pc' := 27) zi_95_24 rfl (fun h24 => ?_) (fun h24 => ?_)
    · replace h24 := zc_ne_t h24
      refine zr_iload_n (pc' := 38) zi_95_37 rfl rfl ?_
      refine zr_table_in zi_95_38 7 (by decide) (by decide) rfl ?_
      refine zr_aload_n (pc' := 169) zi_95_168 rfl rfl ?_
      refine zr_get (pc' := 172) zi_95_169 (nput_at hb (k := 0) rfl) rfl rfl ?_
      refine zr_get (pc' := 175) zi_95_172 (nput_at hb (k := 1) rfl) rfl rfl ?_
      refine zr_iload_n (pc' := 176) zi_95_175 rfl rfl ?_
      refine zr_atN (pc' := 179) (by omega) zi_95_176 hb rfl rfl (by decide) rfl rfl ?_
      refine zr_aload_n (pc' := 180) zi_95_179 rfl rfl ?_
      refine zr_get (pc' := 183) zi_95_180 (nput_at hb (k := 0) rfl) rfl rfl ?_
      refine zr_iconst (v := (nI 2)) (pc' := 184) zi_95_183 rfl rfl ?_
      refine zr_atN (pc' := 187) (by omega) zi_95_184 hb rfl rfl (by decide) rfl rfl ?_
      rw [(q.nb.tm l hl).1, q.nb.s2.1]
      refine zr_s2 (pc' := 190) zi_95_187 rfl (c_quoP _ _ (Nat.lt_of_le_of_lt (q.nb.tm l hl).2 (by omega)) q.nb.s2.2.1 (Nat.lt_of_le_of_lt q.nb.s2.2.2 (by omega))) rfl ?_
      exact zr_ireturn zi_95_190 rfl
    · replace h24 := zc_ne_f h24
      exact absurd h24 (by decide)
  · replace h5 := zc_ne_f h5
    exact absurd h5 (by decide)
theorem c_ofLine8 (hb : b + 71 ≤ h.length) (q : zOk F g x sh gp wi bk) (l : Nat) (hl : l < g 0) : zcalls zTB 95 [.ref b, .int (nI l), .int (nI 8)] (nput b F g h) (some (.int (F 23 l)), nput b F g h) := by
  have hn := q.nb.n70
  refine zcalls_of (Nat.le_of_ble_eq_true rfl) ?_
  show zruns zTB 95 0 [some (.ref b), some (.int (nI l)), some (.int (nI 8))] [] _ _
  refine zr_aload_n (pc' := 1) zi_95_0 rfl rfl ?_
  refine zr_iload_n (pc' := 2) zi_95_1 rfl rfl ?_
  refine zr_v1 (pc' := 5) zi_95_2 (nput_at hb (k := 0) rfl) rfl (c_hasLine hb l hl hn) rfl ?_
  refine zr_if (pc' := 8) zi_95_5 rfl (fun h5 => ?_) (fun h5 => ?_)
  · replace h5 := zc_ne_t h5
    refine zr_iload_n (pc' := 19) zi_95_18 rfl rfl ?_
    refine zr_bipush (v := (nI 8)) (pc' := 21) zi_95_19 rfl rfl ?_
    refine zr_s2 (pc' := 24) zi_95_21 rfl (c_inN _ _ (by omega) (by omega)) rfl ?_
    refine zr_if (pc' := 27) zi_95_24 rfl (fun h24 => ?_) (fun h24 => ?_)
    · replace h24 := zc_ne_t h24
      refine zr_iload_n (pc' := 38) zi_95_37 rfl rfl ?_
      refine zr_table_out zi_95_38 (by decide) ?_
      refine zr_aload_n (pc' := 192) zi_95_191 rfl rfl ?_
      refine zr_get (pc' := 195) zi_95_192 (nput_at hb (k := 0) rfl) rfl rfl ?_
      refine zr_get (pc' := 198) zi_95_195 (nput_at hb (k := 52) rfl) rfl rfl ?_
      refine zr_iload_n (pc' := 199) zi_95_198 rfl rfl ?_
      refine zr_atN (pc' := 202) (by omega) zi_95_199 hb rfl rfl (by decide) rfl rfl ?_
      exact zr_ireturn zi_95_202 rfl
    · replace h24 := zc_ne_f h24
      exact absurd h24 (by decide)
      
      
  · replace h5 := zc_ne_f h5
    exact absurd h5 (by decide)
theorem c_wordAt (hb : b + 71 ≤ h.length) (q : zOk F g x sh gp wi bk) (l p c : Nat) (hl : l < g 0) (hc : F 3 l = nI c) (hc8 : c ≤ 8) (hp : p < c) : zcalls zTB 121 [.ref b, .int (nI l), .int (nI p)] (nput b F g h) (some (.int (F 4 (l * 8 + p))), nput b F g h) := by
  have hn := q.nb.n70
  refine zcalls_of (Nat.le_of_ble_eq_true rfl) ?_
  show zruns zTB 121 0 [some (.ref b), some (.int (nI l)), some (.int (nI p))] [] _ _
  refine zr_aload_n (pc' := 1) zi_121_0 rfl rfl ?_
  refine zr_iload_n (pc' := 2) zi_121_1 rfl rfl ?_
  refine zr_v1 (pc' := 5) zi_121_2 (nput_at hb (k := 0) rfl) rfl (c_hasLine hb l hl hn) rfl ?_
  refine zr_if (pc' := 8) zi_121_5 rfl (fun h5 => ?_) (fun h5 => ?_)
  · replace h5 := zc_ne_t h5
    refine zr_iload_n (pc' := 19) zi_121_18 rfl rfl ?_
    refine zr_if (pc' := 22) zi_121_19 rfl (fun h19 => ?_) (fun h19 => ?_)
    · replace h19 := zx_lt_t h19
      exact absurd h19 (nI_pos (by omega))
    · replace h19 := zx_lt_f h19
      refine zr_iload_n (pc' := 23) zi_121_22 rfl rfl ?_
      refine zr_aload_n (pc' := 24) zi_121_23 rfl rfl ?_
      refine zr_get (pc' := 27) zi_121_24 (nput_at hb (k := 0) rfl) rfl rfl ?_
      refine zr_get (pc' := 30) zi_121_27 (nput_at hb (k := 1) rfl) rfl rfl ?_
      refine zr_iload_n (pc' := 31) zi_121_30 rfl rfl ?_
      refine zr_atN (pc' := 34) (by omega) zi_121_31 hb rfl rfl (by decide) rfl rfl ?_
      rw [hc]
      refine zr_icmp (pc' := 37) zi_121_34 rfl (fun h34 => ?_) (fun h34 => ?_)
      · replace h34 := zc_lt_t (by omega) (by omega) h34
        refine zr_aload_n (pc' := 48) zi_121_47 rfl rfl ?_
        refine zr_get (pc' := 51) zi_121_48 (nput_at hb (k := 0) rfl) rfl rfl ?_
        refine zr_iload_n (pc' := 52) zi_121_51 rfl rfl ?_
        refine zr_iload_n (pc' := 53) zi_121_52 rfl rfl ?_
        refine zr_v2 (pc' := 56) zi_121_53 (nput_at hb (k := 1) rfl) rfl (c_wordIn hb _ _ (by omega)) rfl ?_
        exact zr_ireturn zi_121_56 rfl
      · replace h34 := zc_lt_f (by omega) (by omega) h34
        omega
  · replace h5 := zc_ne_f h5
    exact absurd h5 (by decide)
theorem c_slot (hb : b + 71 ≤ h.length) (q : zOk F g x sh gp wi bk) (t p a : Nat) (ht : t < g 2) (ha : F 7 t = nI a) (ha8 : a ≤ 8) (hp : p < a) : zcalls zTB 97 [.ref b, .int (nI t), .int (nI p)] (nput b F g h) (some (.int (F 8 (t * 8 + p))), nput b F g h) := by
  have hT := q.nb.t20
  refine zcalls_of (Nat.le_of_ble_eq_true rfl) ?_
  show zruns zTB 97 0 [some (.ref b), some (.int (nI t)), some (.int (nI p))] [] _ _
  refine zr_aload_n (pc' := 1) zi_97_0 rfl rfl ?_
  refine zr_iload_n (pc' := 2) zi_97_1 rfl rfl ?_
  refine zr_v1 (pc' := 5) zi_97_2 (nput_at hb (k := 0) rfl) rfl (c_hasTemplate hb t ht hT) rfl ?_
  refine zr_if (pc' := 8) zi_97_5 rfl (fun h5 => ?_) (fun h5 => ?_)
  · replace h5 := zc_ne_t h5
    refine zr_iload_n (pc' := 19) zi_97_18 rfl rfl ?_
    refine zr_if (pc' := 22) zi_97_19 rfl (fun h19 => ?_) (fun h19 => ?_)
    · replace h19 := zx_lt_t h19
      exact absurd h19 (nI_pos (by omega))
    · replace h19 := zx_lt_f h19
      refine zr_iload_n (pc' := 23) zi_97_22 rfl rfl ?_
      refine zr_aload_n (pc' := 24) zi_97_23 rfl rfl ?_
      refine zr_get (pc' := 27) zi_97_24 (nput_at hb (k := 0) rfl) rfl rfl ?_
      refine zr_get (pc' := 30) zi_97_27 (nput_at hb (k := 16) rfl) rfl rfl ?_
      refine zr_iload_n (pc' := 31) zi_97_30 rfl rfl ?_
      refine zr_atN (pc' := 34) (by omega) zi_97_31 hb rfl rfl (by decide) rfl rfl ?_
      rw [ha]
      refine zr_icmp (pc' := 37) zi_97_34 rfl (fun h34 => ?_) (fun h34 => ?_)
      · replace h34 := zc_lt_t (by omega) (by omega) h34
        refine zr_aload_n (pc' := 48) zi_97_47 rfl rfl ?_
        refine zr_get (pc' := 51) zi_97_48 (nput_at hb (k := 0) rfl) rfl rfl ?_
        refine zr_iload_n (pc' := 52) zi_97_51 rfl rfl ?_
        refine zr_iload_n (pc' := 53) zi_97_52 rfl rfl ?_
        refine zr_v2 (pc' := 56) zi_97_53 (nput_at hb (k := 16) rfl) rfl (c_slotIn hb _ _ (by omega)) rfl ?_
        exact zr_ireturn zi_97_56 rfl
      · replace h34 := zc_lt_f (by omega) (by omega) h34
        omega
  · replace h5 := zc_ne_f h5
    exact absurd h5 (by decide)
theorem c_values (hb : b + 71 ≤ h.length) (q : zOk F g x sh gp wi bk) (t j a : Nat) (ht : t < g 2) (ha : F 7 t = nI a) (ha8 : a ≤ 8) (hj : j < zhol F t a) : ∃ r, (∃ v, r = nI v ∧ v ≤ zcnt (fun i => decide (F 5 i = nI t)) (g 1)) ∧ zcalls zTB 98 [.ref b, .int (nI t), .int (nI j)] (nput b F g h) (some (.int r), nput b F g h) := by
  have hT := q.nb.t20
  have hn := q.nb.n70
  have hm := q.nb.mn
  have hh : zhol F t a ≤ a := zcnt_le _ _
  obtain ⟨r, hr, hc⟩ := c_placeOfHole hb (F := F) (g := g) t a j (by omega) ha ha8 (by omega)
  obtain ⟨p, hp, rfl, hp2, hp3⟩ : ∃ p, p < a ∧ r = nI p ∧ F 8 (t * 8 + p) = -1 ∧ zhol F t p = j := by
    rcases hr with ⟨_, w⟩ | w
    · omega
    · exact w
  obtain ⟨v, hv, hc2⟩ := c_howManyWordsOf hb (F := F) (g := g) (nI t) p (by omega) (by omega)
  refine ⟨v, hv, ?_⟩
  refine zcalls_of (Nat.le_of_ble_eq_true rfl) ?_
  show zruns zTB 98 0 [some (.ref b), some (.int (nI t)), some (.int (nI j)), none] [] _ _
  refine zr_aload_n (pc' := 1) zi_98_0 rfl rfl ?_
  refine zr_iload_n (pc' := 2) zi_98_1 rfl rfl ?_
  refine zr_v1 (pc' := 5) zi_98_2 (nput_at hb (k := 0) rfl) rfl (c_hasTemplate hb t ht hT) rfl ?_
  refine zr_if (pc' := 8) zi_98_5 rfl (fun h5 => ?_) (fun h5 => ?_)
  · replace h5 := zc_ne_t h5
    refine zr_aload_n (pc' := 19) zi_98_18 rfl rfl ?_
    refine zr_get (pc' := 22) zi_98_19 (nput_at hb (k := 0) rfl) rfl rfl ?_
    refine zr_iload_n (pc' := 23) zi_98_22 rfl rfl ?_
    refine zr_iload_n (pc' := 24) zi_98_23 rfl rfl ?_
    refine zr_v2 (pc' := 27) zi_98_24 (nput_at hb (k := 16) rfl) rfl hc rfl ?_
    refine zr_istore_n (pc' := 28) zi_98_27 (Nat.le_of_ble_eq_true rfl) rfl rfl ?_
    dsimp only [zst1, zst2, zkill, List.set, List.getElem?_cons_succ, List.getElem?_cons_zero]
    refine zr_iload_n (pc' := 29) zi_98_28 rfl rfl ?_
    refine zr_iconst (v := (-1)) (pc' := 30) zi_98_29 rfl rfl ?_
    refine zr_icmp (pc' := 33) zi_98_30 rfl (fun h30 => ?_) (fun h30 => ?_)
    · replace h30 := zc_ne_t h30
      refine zr_aload_n (pc' := 44) zi_98_43 rfl rfl ?_
      refine zr_get (pc' := 47) zi_98_44 (nput_at hb (k := 0) rfl) rfl rfl ?_
      refine zr_iload_n (pc' := 48) zi_98_47 rfl rfl ?_
      refine zr_iload_n (pc' := 49) zi_98_48 rfl rfl ?_
      refine zr_v2 (pc' := 52) zi_98_49 (nput_at hb (k := 1) rfl) rfl hc2 rfl ?_
      exact zr_ireturn zi_98_52 rfl
    · replace h30 := zc_ne_f h30
      exact absurd h30 (nI_neg (by omega))
  · replace h5 := zc_ne_f h5
    exact absurd h5 (by decide)
theorem c_alike (hb : b + 71 ≤ h.length) (q : zOk F g x sh gp wi bk) (l t a : Nat) (hl : l < g 0) (ht : t < g 2) (ha : F 7 t = nI a) (ha8 : a ≤ 8) : zcalls zTB 122 [.ref b, .int (nI l), .int (nI t)] (nput b F g h) (some (.int (nI (zak F l t) - 1)), nput b F g h) := by
  have hT := q.nb.t20
  have hn := q.nb.n70
  refine zcalls_of (Nat.le_of_ble_eq_true rfl) ?_
  show zruns zTB 122 0 [some (.ref b), some (.int (nI l)), some (.int (nI t))] [] _ _
  refine zr_aload_n (pc' := 1) zi_122_0 rfl rfl ?_
  refine zr_iload_n (pc' := 2) zi_122_1 rfl rfl ?_
  refine zr_v1 (pc' := 5) zi_122_2 (nput_at hb (k := 0) rfl) rfl (c_hasLine hb l hl hn) rfl ?_
  refine zr_if (pc' := 8) zi_122_5 rfl (fun h5 => ?_) (fun h5 => ?_)
  · replace h5 := zc_ne_t h5
    refine zr_aload_n (pc' := 19) zi_122_18 rfl rfl ?_
    refine zr_iload_n (pc' := 20) zi_122_19 rfl rfl ?_
    refine zr_v1 (pc' := 23) zi_122_20 (nput_at hb (k := 0) rfl) rfl (c_hasTemplate hb t ht hT) rfl ?_
    refine zr_if (pc' := 26) zi_122_23 rfl (fun h23 => ?_) (fun h23 => ?_)
    · replace h23 := zc_ne_t h23
      refine zr_aload_n (pc' := 37) zi_122_36 rfl rfl ?_
      refine zr_get (pc' := 40) zi_122_37 (nput_at hb (k := 0) rfl) rfl rfl ?_
      refine zr_aload_n (pc' := 41) zi_122_40 rfl rfl ?_
      refine zr_get (pc' := 44) zi_122_41 (nput_at hb (k := 0) rfl) rfl rfl ?_
      refine zr_iload_n (pc' := 45) zi_122_44 rfl rfl ?_
      refine zr_iload_n (pc' := 46) zi_122_45 rfl rfl ?_
      refine zr_v3 (pc' := 49) zi_122_46 (nput_at hb (k := 16) rfl) rfl (c_likeness hb l t a (by omega) (by omega) ha ha8) rfl ?_
      exact zr_ireturn zi_122_49 rfl
    · replace h23 := zc_ne_f h23
      exact absurd h23 (by decide)
  · replace h5 := zc_ne_f h5
    exact absurd h5 (by decide)
theorem c_ofTemplate0 (hb : b + 71 ≤ h.length) (q : zOk F g x sh gp wi bk) (t a : Nat) (ht : t < g 2) (ha : F 7 t = nI a) (ha8 : a ≤ 8) : zcalls zTB 96 [.ref b, .int (nI t), .int (nI 0)] (nput b F g h) (some (.int (F 7 t)), nput b F g h) := by
  have hT := q.nb.t20
  have hn := q.nb.n70
  have hm := q.nb.mn
  refine zcalls_of (Nat.le_of_ble_eq_true rfl) ?_
  show zruns zTB 96 0 [some (.ref b), some (.int (nI t)), some (.int (nI 0))] [] _ _
  refine zr_aload_n (pc' := 1) zi_96_0 rfl rfl ?_
  refine zr_iload_n (pc' := 2) zi_96_1 rfl rfl ?_
  refine zr_v1 (pc' := 5) zi_96_2 (nput_at hb (k := 0) rfl) rfl (c_hasTemplate hb t ht hT) rfl ?_
  refine zr_if (pc' := 8) zi_96_5 rfl (fun h5 => ?_) (fun h5 => ?_)
  · replace h5 := zc_ne_t h5
    refine zr_iload_n (pc' := 19) zi_96_18 rfl rfl ?_
    refine zr_iconst (v := (nI 4)) (pc' := 20) zi_96_19 rfl rfl ?_
    refine zr_s2 (pc' := 23) zi_96_20 rfl (c_inN _ _ (by omega) (by omega)) rfl ?_
    refine zr_if (pc' := 26) zi_96_23 rfl (fun h23 => ?_) (fun h23 => ?_)
    · replace h23 := zc_ne_t h23
      refine zr_iload_n (pc' := 37) zi_96_36 rfl rfl ?_
      refine zr_table_in zi_96_37 0 (by decide) (by decide) rfl ?_
      refine zr_aload_n (pc' := 69) zi_96_68 rfl rfl ?_
      refine zr_get (pc' := 72) zi_96_69 (nput_at hb (k := 0) rfl) rfl rfl ?_
      refine zr_get (pc' := 75) zi_96_72 (nput_at hb (k := 16) rfl) rfl rfl ?_
      refine zr_iload_n (pc' := 76) zi_96_75 rfl rfl ?_
      refine zr_atN (pc' := 79) (by omega) zi_96_76 hb rfl rfl (by decide) rfl rfl ?_
      exact zr_ireturn zi_96_79 rfl
    · replace h23 := zc_ne_f h23
      exact absurd h23 (by decide)
      
  · replace h5 := zc_ne_f h5
    exact absurd h5 (by decide)
theorem c_ofTemplate1 (hb : b + 71 ≤ h.length) (q : zOk F g x sh gp wi bk) (t a : Nat) (ht : t < g 2) (ha : F 7 t = nI a) (ha8 : a ≤ 8) : zcalls zTB 96 [.ref b, .int (nI t), .int (nI 1)] (nput b F g h) (some (.int (nI (zhol F t a))), nput b F g h) := by
  have hT := q.nb.t20
  have hn := q.nb.n70
  have hm := q.nb.mn
  refine zcalls_of (Nat.le_of_ble_eq_true rfl) ?_
  show zruns zTB 96 0 [some (.ref b), some (.int (nI t)), some (.int (nI 1))] [] _ _
  refine zr_aload_n (pc' := 1) zi_96_0 rfl rfl ?_
  refine zr_iload_n (pc' := 2) zi_96_1 rfl rfl ?_
  refine zr_v1 (pc' := 5) zi_96_2 (nput_at hb (k := 0) rfl) rfl (c_hasTemplate hb t ht hT) rfl ?_
  refine zr_if (pc' := 8) zi_96_5 rfl (fun h5 => ?_) (fun h5 => ?_)
  · replace h5 := zc_ne_t h5
    refine zr_iload_n (pc' := 19) zi_96_18 rfl rfl ?_
    refine zr_iconst (v := (nI 4)) (pc' := 20) zi_96_19 rfl rfl ?_
    refine zr_s2 (pc' := 23) zi_96_20 rfl (c_inN _ _ (by omega) (by omega)) rfl ?_
    refine zr_if (pc' := 26) zi_96_23 rfl (fun h23 => ?_) (fun h23 => ?_)
    · replace h23 := zc_ne_t h23
      refine zr_iload_n (pc' := 37) zi_96_36 rfl rfl ?_
      refine zr_table_in zi_96_37 1 (by decide) (by decide) rfl ?_
      refine zr_aload_n (pc' := 81) zi_96_80 rfl rfl ?_
      refine zr_get (pc' := 84) zi_96_81 (nput_at hb (k := 0) rfl) rfl rfl ?_
      refine zr_iload_n (pc' := 85) zi_96_84 rfl rfl ?_
      refine zr_v1 (pc' := 88) zi_96_85 (nput_at hb (k := 16) rfl) rfl (c_howManyHoles hb t a (by omega) ha ha8) rfl ?_
      exact zr_ireturn zi_96_88 rfl
    · replace h23 := zc_ne_f h23
      exact absurd h23 (by decide)
  · replace h5 := zc_ne_f h5
    exact absurd h5 (by decide)
theorem c_ofTemplate2 (hb : b + 71 ≤ h.length) (q : zOk F g x sh gp wi bk) (t a : Nat) (ht : t < g 2) (ha : F 7 t = nI a) (ha8 : a ≤ 8) : zcalls zTB 96 [.ref b, .int (nI t), .int (nI 2)] (nput b F g h) (some (.int (nI (zcnt (fun j => decide (F 5 j = nI t)) (g 1)))), nput b F g h) := by
  have hT := q.nb.t20
  have hn := q.nb.n70
  have hm := q.nb.mn
  refine zcalls_of (Nat.le_of_ble_eq_true rfl) ?_
  show zruns zTB 96 0 [some (.ref b), some (.int (nI t)), some (.int (nI 2))] [] _ _
  refine zr_aload_n (pc' := 1) zi_96_0 rfl rfl ?_
  refine zr_iload_n (pc' := 2) zi_96_1 rfl rfl ?_
  refine zr_v1 (pc' := 5) zi_96_2 (nput_at hb (k := 0) rfl) rfl (c_hasTemplate hb t ht hT) rfl ?_
  refine zr_if (pc' := 8) zi_96_5 rfl (fun h5 => ?_) (fun h5 => ?_)
  · replace h5 := zc_ne_t h5
    refine zr_iload_n (pc' := 19) zi_96_18 rfl rfl ?_
    refine zr_iconst (v := (nI 4)) (pc' := 20) zi_96_19 rfl rfl ?_
    refine zr_s2 (pc' := 23) zi_96_20 rfl (c_inN _ _ (by omega) (by omega)) rfl ?_
    refine zr_if (pc' := 26) zi_96_23 rfl (fun h23 => ?_) (fun h23 => ?_)
    · replace h23 := zc_ne_t h23
      refine zr_iload_n (pc' := 37) zi_96_36 rfl rfl ?_
      refine zr_table_in zi_96_37 2 (by decide) (by decide) rfl ?_
      refine zr_aload_n (pc' := 90) zi_96_89 rfl rfl ?_
      refine zr_get (pc' := 93) zi_96_90 (nput_at hb (k := 0) rfl) rfl rfl ?_
      refine zr_iload_n (pc' := 94) zi_96_93 rfl rfl ?_
      refine zr_v1 (pc' := 97) zi_96_94 (nput_at hb (k := 1) rfl) rfl (c_howManyOf hb _ (by omega)) rfl ?_
      exact zr_ireturn zi_96_97 rfl
    · replace h23 := zc_ne_f h23
      exact absurd h23 (by decide)
  · replace h5 := zc_ne_f h5
    exact absurd h5 (by decide)
theorem c_ofTemplate3 (hb : b + 71 ≤ h.length) (q : zOk F g x sh gp wi bk) (t : Nat) (ht : t < g 2) : ∃ r, (∀ l, l < g 1 → F 5 l = nI t → r ≤ nI l) ∧ zcalls zTB 96 [.ref b, .int (nI t), .int (nI 3)] (nput b F g h) (some (.int r), nput b F g h) := by
  have hT := q.nb.t20
  have hn := q.nb.n70
  have hm := q.nb.mn
  obtain ⟨r, hr, hc⟩ := c_firstOf hb (F := F) (g := g) (nI t) (by omega)
  refine ⟨r, hr, ?_⟩
  refine zcalls_of (Nat.le_of_ble_eq_true rfl) ?_
  show zruns zTB 96 0 [some (.ref b), some (.int (nI t)), some (.int (nI 3))] [] _ _
  refine zr_aload_n (pc' := 1) zi_96_0 rfl rfl ?_
  refine zr_iload_n (pc' := 2) zi_96_1 rfl rfl ?_
  refine zr_v1 (pc' := 5) zi_96_2 (nput_at hb (k := 0) rfl) rfl (c_hasTemplate hb t ht hT) rfl ?_
  refine zr_if (pc' := 8) zi_96_5 rfl (fun h5 => ?_) (fun h5 => ?_)
  · replace h5 := zc_ne_t h5
    refine zr_iload_n (pc' := 19) zi_96_18 rfl rfl ?_
    refine zr_iconst (v := (nI 4)) (pc' := 20) zi_96_19 rfl rfl ?_
    refine zr_s2 (pc' := 23) zi_96_20 rfl (c_inN _ _ (by omega) (by omega)) rfl ?_
    refine zr_if (pc' := 26) zi_96_23 rfl (fun h23 => ?_) (fun h23 => ?_)
    · replace h23 := zc_ne_t h23
      refine zr_iload_n (pc' := 37) zi_96_36 rfl rfl ?_
      refine zr_table_in zi_96_37 3 (by decide) (by decide) rfl ?_
      refine zr_aload_n (pc' := 99) zi_96_98 rfl rfl ?_
      refine zr_get (pc' := 102) zi_96_99 (nput_at hb (k := 0) rfl) rfl rfl ?_
      refine zr_iload_n (pc' := 103) zi_96_102 rfl rfl ?_
      refine zr_v1 (pc' := 106) zi_96_103 (nput_at hb (k := 1) rfl) rfl hc rfl ?_
      exact zr_ireturn zi_96_106 rfl
    · replace h23 := zc_ne_f h23
      exact absurd h23 (by decide)
  · replace h5 := zc_ne_f h5
    exact absurd h5 (by decide)
theorem c_ofTemplate4 (hb : b + 71 ≤ h.length) (q : zOk F g x sh gp wi bk) (t : Nat) (ht : t < g 2) : ∃ r, (∀ l, l < g 1 → F 5 l = nI t → F 2 l ≤ r) ∧ zcalls zTB 96 [.ref b, .int (nI t), .int (nI 4)] (nput b F g h) (some (.int r), nput b F g h) := by
  have hT := q.nb.t20
  have hn := q.nb.n70
  have hm := q.nb.mn
  obtain ⟨r, hr, hc⟩ := c_worstLevelOf hb (F := F) (g := g) (nI t) (by omega)
  refine ⟨r, hr, ?_⟩
  refine zcalls_of (Nat.le_of_ble_eq_true rfl) ?_
  show zruns zTB 96 0 [some (.ref b), some (.int (nI t)), some (.int (nI 4))] [] _ _
  refine zr_aload_n (pc' := 1) zi_96_0 rfl rfl ?_
  refine zr_iload_n (pc' := 2) zi_96_1 rfl rfl ?_
  refine zr_v1 (pc' := 5) zi_96_2 (nput_at hb (k := 0) rfl) rfl (c_hasTemplate hb t ht hT) rfl ?_
  refine zr_if (pc' := 8) zi_96_5 rfl (fun h5 => ?_) (fun h5 => ?_)
  · replace h5 := zc_ne_t h5
    refine zr_iload_n (pc' := 19) zi_96_18 rfl rfl ?_
    refine zr_iconst (v := (nI 4)) (pc' := 20) zi_96_19 rfl rfl ?_
    refine zr_s2 (pc' := 23) zi_96_20 rfl (c_inN _ _ (by omega) (by omega)) rfl ?_
    refine zr_if (pc' := 26) zi_96_23 rfl (fun h23 => ?_) (fun h23 => ?_)
    · replace h23 := zc_ne_t h23
      refine zr_iload_n (pc' := 37) zi_96_36 rfl rfl ?_
      refine zr_table_out zi_96_37 (by decide) ?_
      refine zr_aload_n (pc' := 108) zi_96_107 rfl rfl ?_
      refine zr_get (pc' := 111) zi_96_108 (nput_at hb (k := 0) rfl) rfl rfl ?_
      refine zr_iload_n (pc' := 112) zi_96_111 rfl rfl ?_
      refine zr_v1 (pc' := 115) zi_96_112 (nput_at hb (k := 1) rfl) rfl hc rfl ?_
      exact zr_ireturn zi_96_115 rfl
    · replace h23 := zc_ne_f h23
      exact absurd h23 (by decide)
  · replace h5 := zc_ne_f h5
    exact absurd h5 (by decide)
theorem zOk.tk {C : Nat → Nat → Nat} {Z : Nat → Nat} (q : zOk F g x sh gp wi bk) (qs : zses F (g 4) (F 31 1) (g 0) C Z) (s : Nat) (hs : s < g 4) : ∀ k, k < Z s → ∃ t, t < 20 ∧ F 5 (C s k) = nI t := by
  intro k hk
  obtain ⟨h1, h2, h3⟩ := qs.el s hs k hk
  rcases q.to.ky (C s k) h1 with ⟨_, e⟩ | ⟨t, a, h4, h5, _⟩
  · rcases qs.ln (C s k) h1 with ⟨_, w⟩ | ⟨w, _⟩
    · rw [w] at h2
      exact absurd h2.symm (nI_neg (by have := q.S70; omega))
    · rw [e] at w
      exact absurd w (by decide)
  · exact ⟨t, h4, h5⟩
theorem c_ofSession0 (hb : b + 71 ≤ h.length) (q : zOk F g x sh gp wi bk) {C : Nat → Nat → Nat} {Z : Nat → Nat} (qs : zses F (g 4) (F 31 1) (g 0) C Z) (s : Nat) (hs : s < g 4) : zcalls zTB 99 [.ref b, .int (nI s), .int (nI 0)] (nput b F g h) (some (.int (F 6 (C s 0))), nput b F g h) := by
  have hS := q.S70
  have hn := q.nb.n70
  obtain ⟨hz0, hzn, hz1, hz2, hz3, hz4⟩ := qs.sz s hs
  have hc0 := (qs.el s hs 0 hz0).1
  have hc1 := (qs.el s hs (Z s - 1) (by omega)).1
  refine zcalls_of (Nat.le_of_ble_eq_true rfl) ?_
  show zruns zTB 99 0 [some (.ref b), some (.int (nI s)), some (.int (nI 0))] [] _ _
  refine zr_aload_n (pc' := 1) zi_99_0 rfl rfl ?_
  refine zr_iload_n (pc' := 2) zi_99_1 rfl rfl ?_
  refine zr_v1 (pc' := 5) zi_99_2 (nput_at hb (k := 0) rfl) rfl (c_hasSession hb s hs hS) rfl ?_
  refine zr_if (pc' := 8) zi_99_5 rfl (fun h5 => ?_) (fun h5 => ?_)
  · replace h5 := zc_ne_t h5
    refine zr_iload_n (pc' := 19) zi_99_18 rfl rfl ?_
    refine zr_bipush (v := (nI 6)) (pc' := 21) zi_99_19 rfl rfl ?_
    refine zr_s2 (pc' := 24) zi_99_21 rfl (c_inN _ _ (by omega) (by omega)) rfl ?_
    refine zr_if (pc' := 27) zi_99_24 rfl (fun h24 => ?_) (fun h24 => ?_)
    · replace h24 := zc_ne_t h24
      refine zr_iload_n (pc' := 38) zi_99_37 rfl rfl ?_
      refine zr_table_in zi_99_38 0 (by decide) (by decide) rfl ?_
      refine zr_aload_n (pc' := 77) zi_99_76 rfl rfl ?_
      refine zr_get (pc' := 80) zi_99_77 (nput_at hb (k := 0) rfl) rfl rfl ?_
      refine zr_get (pc' := 83) zi_99_80 (nput_at hb (k := 1) rfl) rfl rfl ?_
      refine zr_aload_n (pc' := 84) zi_99_83 rfl rfl ?_
      refine zr_get (pc' := 87) zi_99_84 (nput_at hb (k := 0) rfl) rfl rfl ?_
      refine zr_get (pc' := 90) zi_99_87 (nput_at hb (k := 26) rfl) rfl rfl ?_
      refine zr_iload_n (pc' := 91) zi_99_90 rfl rfl ?_
      refine zr_atN (pc' := 94) (by omega) zi_99_91 hb rfl rfl (by decide) rfl rfl ?_
      rw [hz1]
      
      refine zr_atN (pc' := 97) (by omega) zi_99_94 hb rfl rfl (by decide) rfl rfl ?_
      exact zr_ireturn zi_99_97 rfl
    · replace h24 := zc_ne_f h24
      exact absurd h24 (by decide)
  · replace h5 := zc_ne_f h5
    exact absurd h5 (by decide)
theorem c_ofSession1 (hb : b + 71 ≤ h.length) (q : zOk F g x sh gp wi bk) {C : Nat → Nat → Nat} {Z : Nat → Nat} (qs : zses F (g 4) (F 31 1) (g 0) C Z) (s : Nat) (hs : s < g 4) : zcalls zTB 99 [.ref b, .int (nI s), .int (nI 1)] (nput b F g h) (some (.int (F 0 (C s 0))), nput b F g h) := by
  have hS := q.S70
  have hn := q.nb.n70
  obtain ⟨hz0, hzn, hz1, hz2, hz3, hz4⟩ := qs.sz s hs
  have hc0 := (qs.el s hs 0 hz0).1
  have hc1 := (qs.el s hs (Z s - 1) (by omega)).1
  refine zcalls_of (Nat.le_of_ble_eq_true rfl) ?_
  show zruns zTB 99 0 [some (.ref b), some (.int (nI s)), some (.int (nI 1))] [] _ _
  refine zr_aload_n (pc' := 1) zi_99_0 rfl rfl ?_
  refine zr_iload_n (pc' := 2) zi_99_1 rfl rfl ?_
  refine zr_v1 (pc' := 5) zi_99_2 (nput_at hb (k := 0) rfl) rfl (c_hasSession hb s hs hS) rfl ?_
  refine zr_if (pc' := 8) zi_99_5 rfl (fun h5 => ?_) (fun h5 => ?_)
  · replace h5 := zc_ne_t h5
    refine zr_iload_n (pc' := 19) zi_99_18 rfl rfl ?_
    refine zr_bipush (v := (nI 6)) (pc' := 21) zi_99_19 rfl rfl ?_
    refine zr_s2 (pc' := 24) zi_99_21 rfl (c_inN _ _ (by omega) (by omega)) rfl ?_
    refine zr_if (pc' := 27) zi_99_24 rfl (fun h24 => ?_) (fun h24 => ?_)
    · replace h24 := zc_ne_t h24
      refine zr_iload_n (pc' := 38) zi_99_37 rfl rfl ?_
      refine zr_table_in zi_99_38 1 (by decide) (by decide) rfl ?_
      refine zr_aload_n (pc' := 99) zi_99_98 rfl rfl ?_
      refine zr_get (pc' := 102) zi_99_99 (nput_at hb (k := 0) rfl) rfl rfl ?_
      refine zr_get (pc' := 105) zi_99_102 (nput_at hb (k := 1) rfl) rfl rfl ?_
      refine zr_aload_n (pc' := 106) zi_99_105 rfl rfl ?_
      refine zr_get (pc' := 109) zi_99_106 (nput_at hb (k := 0) rfl) rfl rfl ?_
      refine zr_get (pc' := 112) zi_99_109 (nput_at hb (k := 26) rfl) rfl rfl ?_
      refine zr_iload_n (pc' := 113) zi_99_112 rfl rfl ?_
      refine zr_atN (pc' := 116) (by omega) zi_99_113 hb rfl rfl (by decide) rfl rfl ?_
      rw [hz1]
      
      refine zr_atN (pc' := 119) (by omega) zi_99_116 hb rfl rfl (by decide) rfl rfl ?_
      exact zr_ireturn zi_99_119 rfl
    · replace h24 := zc_ne_f h24
      exact absurd h24 (by decide)
  · replace h5 := zc_ne_f h5
    exact absurd h5 (by decide)
theorem c_ofSession2 (hb : b + 71 ≤ h.length) (q : zOk F g x sh gp wi bk) {C : Nat → Nat → Nat} {Z : Nat → Nat} (qs : zses F (g 4) (F 31 1) (g 0) C Z) (s : Nat) (hs : s < g 4) : zcalls zTB 99 [.ref b, .int (nI s), .int (nI 2)] (nput b F g h) (some (.int (F 0 (C s (Z s - 1)))), nput b F g h) := by
  have hS := q.S70
  have hn := q.nb.n70
  obtain ⟨hz0, hzn, hz1, hz2, hz3, hz4⟩ := qs.sz s hs
  have hc0 := (qs.el s hs 0 hz0).1
  have hc1 := (qs.el s hs (Z s - 1) (by omega)).1
  refine zcalls_of (Nat.le_of_ble_eq_true rfl) ?_
  show zruns zTB 99 0 [some (.ref b), some (.int (nI s)), some (.int (nI 2))] [] _ _
  refine zr_aload_n (pc' := 1) zi_99_0 rfl rfl ?_
  refine zr_iload_n (pc' := 2) zi_99_1 rfl rfl ?_
  refine zr_v1 (pc' := 5) zi_99_2 (nput_at hb (k := 0) rfl) rfl (c_hasSession hb s hs hS) rfl ?_
  refine zr_if (pc' := 8) zi_99_5 rfl (fun h5 => ?_) (fun h5 => ?_)
  · replace h5 := zc_ne_t h5
    refine zr_iload_n (pc' := 19) zi_99_18 rfl rfl ?_
    refine zr_bipush (v := (nI 6)) (pc' := 21) zi_99_19 rfl rfl ?_
    refine zr_s2 (pc' := 24) zi_99_21 rfl (c_inN _ _ (by omega) (by omega)) rfl ?_
    refine zr_if (pc' := 27) zi_99_24 rfl (fun h24 => ?_) (fun h24 => ?_)
    · replace h24 := zc_ne_t h24
      refine zr_iload_n (pc' := 38) zi_99_37 rfl rfl ?_
      refine zr_table_in zi_99_38 2 (by decide) (by decide) rfl ?_
      refine zr_aload_n (pc' := 121) zi_99_120 rfl rfl ?_
      refine zr_get (pc' := 124) zi_99_121 (nput_at hb (k := 0) rfl) rfl rfl ?_
      refine zr_get (pc' := 127) zi_99_124 (nput_at hb (k := 1) rfl) rfl rfl ?_
      refine zr_aload_n (pc' := 128) zi_99_127 rfl rfl ?_
      refine zr_get (pc' := 131) zi_99_128 (nput_at hb (k := 0) rfl) rfl rfl ?_
      refine zr_get (pc' := 134) zi_99_131 (nput_at hb (k := 26) rfl) rfl rfl ?_
      refine zr_iload_n (pc' := 135) zi_99_134 rfl rfl ?_
      refine zr_atN (pc' := 138) (by omega) zi_99_135 hb rfl rfl (by decide) rfl rfl ?_
      rw [hz2]
      
      refine zr_atN (pc' := 141) (by omega) zi_99_138 hb rfl rfl (by decide) rfl rfl ?_
      exact zr_ireturn zi_99_141 rfl
    · replace h24 := zc_ne_f h24
      exact absurd h24 (by decide)
  · replace h5 := zc_ne_f h5
    exact absurd h5 (by decide)
theorem c_ofSession3 (hb : b + 71 ≤ h.length) (q : zOk F g x sh gp wi bk) {C : Nat → Nat → Nat} {Z : Nat → Nat} (qs : zses F (g 4) (F 31 1) (g 0) C Z) (s : Nat) (hs : s < g 4) : zcalls zTB 99 [.ref b, .int (nI s), .int (nI 3)] (nput b F g h) (some (.int (nI (Z s))), nput b F g h) := by
  have hS := q.S70
  have hn := q.nb.n70
  obtain ⟨hz0, hzn, hz1, hz2, hz3, hz4⟩ := qs.sz s hs
  have hc0 := (qs.el s hs 0 hz0).1
  have hc1 := (qs.el s hs (Z s - 1) (by omega)).1
  refine zcalls_of (Nat.le_of_ble_eq_true rfl) ?_
  show zruns zTB 99 0 [some (.ref b), some (.int (nI s)), some (.int (nI 3))] [] _ _
  refine zr_aload_n (pc' := 1) zi_99_0 rfl rfl ?_
  refine zr_iload_n (pc' := 2) zi_99_1 rfl rfl ?_
  refine zr_v1 (pc' := 5) zi_99_2 (nput_at hb (k := 0) rfl) rfl (c_hasSession hb s hs hS) rfl ?_
  refine zr_if (pc' := 8) zi_99_5 rfl (fun h5 => ?_) (fun h5 => ?_)
  · replace h5 := zc_ne_t h5
    refine zr_iload_n (pc' := 19) zi_99_18 rfl rfl ?_
    refine zr_bipush (v := (nI 6)) (pc' := 21) zi_99_19 rfl rfl ?_
    refine zr_s2 (pc' := 24) zi_99_21 rfl (c_inN _ _ (by omega) (by omega)) rfl ?_
    refine zr_if (pc' := 27) zi_99_24 rfl (fun h24 => ?_) (fun h24 => ?_)
    · replace h24 := zc_ne_t h24
      refine zr_iload_n (pc' := 38) zi_99_37 rfl rfl ?_
      refine zr_table_in zi_99_38 3 (by decide) (by decide) rfl ?_
      refine zr_aload_n (pc' := 143) zi_99_142 rfl rfl ?_
      refine zr_get (pc' := 146) zi_99_143 (nput_at hb (k := 0) rfl) rfl rfl ?_
      refine zr_get (pc' := 149) zi_99_146 (nput_at hb (k := 26) rfl) rfl rfl ?_
      refine zr_iload_n (pc' := 150) zi_99_149 rfl rfl ?_
      refine zr_atN (pc' := 153) (by omega) zi_99_150 hb rfl rfl (by decide) rfl rfl ?_
      rw [hz3]
      
      exact zr_ireturn zi_99_153 rfl
    · replace h24 := zc_ne_f h24
      exact absurd h24 (by decide)
  · replace h5 := zc_ne_f h5
    exact absurd h5 (by decide)
theorem c_ofSession4 (hb : b + 71 ≤ h.length) (q : zOk F g x sh gp wi bk) {C : Nat → Nat → Nat} {Z : Nat → Nat} (qs : zses F (g 4) (F 31 1) (g 0) C Z) (s : Nat) (hs : s < g 4) : zcalls zTB 99 [.ref b, .int (nI s), .int (nI 4)] (nput b F g h) (some (.int (F 16 s)), nput b F g h) := by
  have hS := q.S70
  have hn := q.nb.n70
  obtain ⟨hz0, hzn, hz1, hz2, hz3, hz4⟩ := qs.sz s hs
  have hc0 := (qs.el s hs 0 hz0).1
  have hc1 := (qs.el s hs (Z s - 1) (by omega)).1
  refine zcalls_of (Nat.le_of_ble_eq_true rfl) ?_
  show zruns zTB 99 0 [some (.ref b), some (.int (nI s)), some (.int (nI 4))] [] _ _
  refine zr_aload_n (pc' := 1) zi_99_0 rfl rfl ?_
  refine zr_iload_n (pc' := 2) zi_99_1 rfl rfl ?_
  refine zr_v1 (pc' := 5) zi_99_2 (nput_at hb (k := 0) rfl) rfl (c_hasSession hb s hs hS) rfl ?_
  refine zr_if (pc' := 8) zi_99_5 rfl (fun h5 => ?_) (fun h5 => ?_)
  · replace h5 := zc_ne_t h5
    refine zr_iload_n (pc' := 19) zi_99_18 rfl rfl ?_
    refine zr_bipush (v := (nI 6)) (pc' := 21) zi_99_19 rfl rfl ?_
    refine zr_s2 (pc' := 24) zi_99_21 rfl (c_inN _ _ (by omega) (by omega)) rfl ?_
    refine zr_if (pc' := 27) zi_99_24 rfl (fun h24 => ?_) (fun h24 => ?_)
    · replace h24 := zc_ne_t h24
      refine zr_iload_n (pc' := 38) zi_99_37 rfl rfl ?_
      refine zr_table_in zi_99_38 4 (by decide) (by decide) rfl ?_
      refine zr_aload_n (pc' := 155) zi_99_154 rfl rfl ?_
      refine zr_get (pc' := 158) zi_99_155 (nput_at hb (k := 0) rfl) rfl rfl ?_
      refine zr_get (pc' := 161) zi_99_158 (nput_at hb (k := 26) rfl) rfl rfl ?_
      refine zr_iload_n (pc' := 162) zi_99_161 rfl rfl ?_
      refine zr_atN (pc' := 165) (by omega) zi_99_162 hb rfl rfl (by decide) rfl rfl ?_
      exact zr_ireturn zi_99_165 rfl
    · replace h24 := zc_ne_f h24
      exact absurd h24 (by decide)
      
      
  · replace h5 := zc_ne_f h5
    exact absurd h5 (by decide)
theorem c_ofSession6 (hb : b + 71 ≤ h.length) (q : zOk F g x sh gp wi bk) {C : Nat → Nat → Nat} {Z : Nat → Nat} (qs : zses F (g 4) (F 31 1) (g 0) C Z) (s : Nat) (hs : s < g 4) : zcalls zTB 99 [.ref b, .int (nI s), .int (nI 6)] (nput b F g h) (some (.int (nI (zU F (g 4) s))), nput b F g h) := by
  have hS := q.S70
  have hn := q.nb.n70
  obtain ⟨hz0, hzn, hz1, hz2, hz3, hz4⟩ := qs.sz s hs
  have hc0 := (qs.el s hs 0 hz0).1
  have hc1 := (qs.el s hs (Z s - 1) (by omega)).1
  refine zcalls_of (Nat.le_of_ble_eq_true rfl) ?_
  show zruns zTB 99 0 [some (.ref b), some (.int (nI s)), some (.int (nI 6))] [] _ _
  refine zr_aload_n (pc' := 1) zi_99_0 rfl rfl ?_
  refine zr_iload_n (pc' := 2) zi_99_1 rfl rfl ?_
  refine zr_v1 (pc' := 5) zi_99_2 (nput_at hb (k := 0) rfl) rfl (c_hasSession hb s hs hS) rfl ?_
  refine zr_if (pc' := 8) zi_99_5 rfl (fun h5 => ?_) (fun h5 => ?_)
  · replace h5 := zc_ne_t h5
    refine zr_iload_n (pc' := 19) zi_99_18 rfl rfl ?_
    refine zr_bipush (v := (nI 6)) (pc' := 21) zi_99_19 rfl rfl ?_
    refine zr_s2 (pc' := 24) zi_99_21 rfl (c_inN _ _ (by omega) (by omega)) rfl ?_
    refine zr_if (pc' := 27) zi_99_24 rfl (fun h24 => ?_) (fun h24 => ?_)
    · replace h24 := zc_ne_t h24
      refine zr_iload_n (pc' := 38) zi_99_37 rfl rfl ?_
      refine zr_table_out zi_99_38 (by decide) ?_
      refine zr_aload_n (pc' := 180) zi_99_179 rfl rfl ?_
      refine zr_get (pc' := 183) zi_99_180 (nput_at hb (k := 0) rfl) rfl rfl ?_
      refine zr_iload_n (pc' := 184) zi_99_183 rfl rfl ?_
      refine zr_v1 (pc' := 187) zi_99_184 (nput_at hb (k := 26) rfl) rfl (c_howManyAlike hb (g 4) hS q.to.pa s hs) rfl ?_
      exact zr_ireturn zi_99_187 rfl
    · replace h24 := zc_ne_f h24
      exact absurd h24 (by decide)
      
  · replace h5 := zc_ne_f h5
    exact absurd h5 (by decide)
theorem c_ofSession5 (hb : b + 71 ≤ h.length) (q : zOk F g x sh gp wi bk) {C : Nat → Nat → Nat} {Z : Nat → Nat} (qs : zses F (g 4) (F 31 1) (g 0) C Z) (s : Nat) (hs : s < g 4) : ∃ r, (∃ a, a ≤ Z s ∧ r = nI a) ∧ zcalls zTB 99 [.ref b, .int (nI s), .int (nI 5)] (nput b F g h) (some (.int r), nput b F g h) := by
  have hS := q.S70
  have hn := q.nb.n70
  obtain ⟨r, hr, hc⟩ := c_howManyTemplates hb (g := g) qs hn s hs (q.tk qs s hs)
  refine ⟨r, hr, ?_⟩
  refine zcalls_of (Nat.le_of_ble_eq_true rfl) ?_
  show zruns zTB 99 0 [some (.ref b), some (.int (nI s)), some (.int (nI 5))] [] _ _
  refine zr_aload_n (pc' := 1) zi_99_0 rfl rfl ?_
  refine zr_iload_n (pc' := 2) zi_99_1 rfl rfl ?_
  refine zr_v1 (pc' := 5) zi_99_2 (nput_at hb (k := 0) rfl) rfl (c_hasSession hb s hs hS) rfl ?_
  refine zr_if (pc' := 8) zi_99_5 rfl (fun h5 => ?_) (fun h5 => ?_)
  · replace h5 := zc_ne_t h5
    refine zr_iload_n (pc' := 19) zi_99_18 rfl rfl ?_
    refine zr_bipush (v := (nI 6)) (pc' := 21) zi_99_19 rfl rfl ?_
    refine zr_s2 (pc' := 24) zi_99_21 rfl (c_inN _ _ (by omega) (by omega)) rfl ?_
    refine zr_if (pc' := 27) zi_99_24 rfl (fun h24 => ?_) (fun h24 => ?_)
    · replace h24 := zc_ne_t h24
      refine zr_iload_n (pc' := 38) zi_99_37 rfl rfl ?_
      refine zr_table_in zi_99_38 5 (by decide) (by decide) rfl ?_
      refine zr_aload_n (pc' := 167) zi_99_166 rfl rfl ?_
      refine zr_get (pc' := 170) zi_99_167 (nput_at hb (k := 0) rfl) rfl rfl ?_
      refine zr_aload_n (pc' := 171) zi_99_170 rfl rfl ?_
      refine zr_get (pc' := 174) zi_99_171 (nput_at hb (k := 0) rfl) rfl rfl ?_
      refine zr_iload_n (pc' := 175) zi_99_174 rfl rfl ?_
      refine zr_v2 (pc' := 178) zi_99_175 (nput_at hb (k := 26) rfl) rfl hc rfl ?_
      exact zr_ireturn zi_99_178 rfl
    · replace h24 := zc_ne_f h24
      exact absurd h24 (by decide)
  · replace h5 := zc_ne_f h5
    exact absurd h5 (by decide)
theorem c_inSession (hb : b + 71 ≤ h.length) (q : zOk F g x sh gp wi bk) {C : Nat → Nat → Nat} {Z : Nat → Nat} (qs : zses F (g 4) (F 31 1) (g 0) C Z) (s k : Nat) (hs : s < g 4) (hk : k < Z s) : zcalls zTB 123 [.ref b, .int (nI s), .int (nI k)] (nput b F g h) (some (.int (nI (C s k))), nput b F g h) := by
  have hS := q.S70
  have hn := q.nb.n70
  obtain ⟨hz0, hzn, hz1, hz2, hz3, hz4⟩ := qs.sz s hs
  refine zcalls_of (Nat.le_of_ble_eq_true rfl) ?_
  show zruns zTB 123 0 [some (.ref b), some (.int (nI s)), some (.int (nI k))] [] _ _
  refine zr_aload_n (pc' := 1) zi_123_0 rfl rfl ?_
  refine zr_iload_n (pc' := 2) zi_123_1 rfl rfl ?_
  refine zr_v1 (pc' := 5) zi_123_2 (nput_at hb (k := 0) rfl) rfl (c_hasSession hb s hs hS) rfl ?_
  refine zr_if (pc' := 8) zi_123_5 rfl (fun h5 => ?_) (fun h5 => ?_)
  · replace h5 := zc_ne_t h5
    refine zr_iload_n (pc' := 19) zi_123_18 rfl rfl ?_
    refine zr_if (pc' := 22) zi_123_19 rfl (fun h19 => ?_) (fun h19 => ?_)
    · replace h19 := zx_lt_t h19
      exact absurd h19 (nI_pos (by omega))
    · replace h19 := zx_lt_f h19
      refine zr_iload_n (pc' := 23) zi_123_22 rfl rfl ?_
      refine zr_aload_n (pc' := 24) zi_123_23 rfl rfl ?_
      refine zr_get (pc' := 27) zi_123_24 (nput_at hb (k := 0) rfl) rfl rfl ?_
      refine zr_get (pc' := 30) zi_123_27 (nput_at hb (k := 26) rfl) rfl rfl ?_
      refine zr_iload_n (pc' := 31) zi_123_30 rfl rfl ?_
      refine zr_atN (pc' := 34) (by omega) zi_123_31 hb rfl rfl (by decide) rfl rfl ?_
      rw [hz3]
      refine zr_icmp (pc' := 37) zi_123_34 rfl (fun h34 => ?_) (fun h34 => ?_)
      · replace h34 := zc_lt_t (by omega) (by omega) h34
        refine zr_aload_n (pc' := 48) zi_123_47 rfl rfl ?_
        refine zr_get (pc' := 51) zi_123_48 (nput_at hb (k := 0) rfl) rfl rfl ?_
        refine zr_iload_n (pc' := 52) zi_123_51 rfl rfl ?_
        refine zr_iload_n (pc' := 53) zi_123_52 rfl rfl ?_
        refine zr_v2 (pc' := 56) zi_123_53 (nput_at hb (k := 26) rfl) rfl (c_lineIn hb qs hn s k hs hk) rfl ?_
        exact zr_ireturn zi_123_56 rfl
      · replace h34 := zc_lt_f (by omega) (by omega) h34
        omega
  · replace h5 := zc_ne_f h5
    exact absurd h5 (by decide)
theorem c_usual (hb : b + 71 ≤ h.length) (q : zOk F g x sh gp wi bk) : ∃ r, ((g 4 = 0 ∧ r = -1) ∨ ∃ e, e < g 4 ∧ r = nI e ∧ ∀ y, y < g 4 → zU F (g 4) y ≤ zU F (g 4) e) ∧ zcalls zTB 100 [.ref b] (nput b F g h) (some (.int r), nput b F g h) := by
  have hS := q.S70
  obtain ⟨r, hr, hc⟩ := c_mostAlike hb (F := F) (g := g) hS (zU F (g 4)) (fun s hs => ⟨⟨zU_pos hs, Nat.le_trans (zU_le _ _) hS⟩, c_howManyAlike hb _ hS q.to.pa s hs⟩)
  refine ⟨r, hr, ?_⟩
  refine zcalls_of (Nat.le_of_ble_eq_true rfl) ?_
  show zruns zTB 100 0 [some (.ref b)] [] _ _
  refine zr_aload_n (pc' := 1) zi_100_0 rfl rfl ?_
  refine zr_get (pc' := 4) zi_100_1 (nput_at hb (k := 0) rfl) rfl rfl ?_
  refine zr_v0 (pc' := 7) zi_100_4 (nput_at hb (k := 26) rfl) rfl hc rfl ?_
  exact zr_ireturn zi_100_7 rfl
theorem zqu_N (y w : Nat) (hy : y < 2 ^ 31) (h0 : 0 < w) (hw : w < 2 ^ 31) : zqu (nI y) (nI w) = nI (y / w) := by
  unfold zqu
  rw [if_neg (nI_ne0 h0 hw), pk_div hy h0 hw]
theorem c_count (hb : b + 71 ≤ h.length) (q : zOk F g x sh gp wi bk) (t v : Nat) (ht : t < g 2) (hv : v ≤ 9999) : zcalls zTB 125 [.ref b, .int (nI t), .int (nI v)] (nput b F g h) (some (.int (nI (zcnt (fun j => decide (F 5 j = nI t ∧ x j / wi = v)) (g 1)))), nput b F g h) := by
  have hT := q.nb.t20
  have hn := q.nb.n70
  have hm := q.nb.mn
  have hc := c_howManyBetween hb (F := F) (g := g) (nI t) (nI v) (nI v) (nI wi) (by omega)
  rw [zcnt_ext (q := fun j => decide (F 5 j = nI t ∧ x j / wi = v)) (fun j hj => by
    obtain ⟨h1, h2⟩ := q.nb.tm j (by omega)
    have hd : x j / wi ≤ x j := Nat.div_le_self _ _
    rw [h1, zqu_N _ _ (by omega) q.nb.s2.2.1 (by have := q.nb.s2.2.2; omega)]
    refine decide_eq_decide.mpr ⟨fun w => ⟨w.1, ?_⟩, fun w => ⟨w.1, ?_, ?_⟩⟩
    · have h3 := (nI_leI (by omega) (by omega)).mp w.2.1
      have h4 := (nI_leI (by omega) (by omega)).mp w.2.2
      omega
    · rw [w.2]
      exact Int32.le_refl _
    · rw [w.2]
      exact Int32.le_refl _)] at hc
  refine zcalls_of (Nat.le_of_ble_eq_true rfl) ?_
  show zruns zTB 125 0 [some (.ref b), some (.int (nI t)), some (.int (nI v))] [] _ _
  refine zr_aload_n (pc' := 1) zi_125_0 rfl rfl ?_
  refine zr_iload_n (pc' := 2) zi_125_1 rfl rfl ?_
  refine zr_v1 (pc' := 5) zi_125_2 (nput_at hb (k := 0) rfl) rfl (c_hasTemplate hb t ht hT) rfl ?_
  refine zr_if (pc' := 8) zi_125_5 rfl (fun h5 => ?_) (fun h5 => ?_)
  · replace h5 := zc_ne_t h5
    refine zr_iload_n (pc' := 19) zi_125_18 rfl rfl ?_
    refine zr_if (pc' := 22) zi_125_19 rfl (fun h19 => ?_) (fun h19 => ?_)
    · replace h19 := zx_ge_t h19
      refine zr_aload_n (pc' := 33) zi_125_32 rfl rfl ?_
      refine zr_get (pc' := 36) zi_125_33 (nput_at hb (k := 0) rfl) rfl rfl ?_
      refine zr_iload_n (pc' := 37) zi_125_36 rfl rfl ?_
      refine zr_iload_n (pc' := 38) zi_125_37 rfl rfl ?_
      refine zr_iload_n (pc' := 39) zi_125_38 rfl rfl ?_
      refine zr_aload_n (pc' := 40) zi_125_39 rfl rfl ?_
      refine zr_get (pc' := 43) zi_125_40 (nput_at hb (k := 0) rfl) rfl rfl ?_
      refine zr_iconst (v := (nI 2)) (pc' := 44) zi_125_43 rfl rfl ?_
      refine zr_atN (pc' := 47) (by omega) zi_125_44 hb rfl rfl (by decide) rfl rfl ?_
      rw [q.nb.s2.1]
      refine zr_v4 (pc' := 50) zi_125_47 (nput_at hb (k := 1) rfl) rfl hc rfl ?_
      exact zr_ireturn zi_125_50 rfl
    · replace h19 := zx_ge_f h19
      exact absurd (nI_pos' (by omega)) h19
  · replace h5 := zc_ne_f h5
    exact absurd h5 (by decide)
theorem c_spike0 (hb : b + 71 ≤ h.length) (q : zOk F g x sh gp wi bk) (k : Nat) (hk : k < g 5) : zcalls zTB 101 [.ref b, .int (nI k), .int (nI 0)] (nput b F g h) (some (.int (F 19 k)), nput b F g h) := by
  obtain ⟨vv, hP, _⟩ := q.to.sp
  refine zcalls_of (Nat.le_of_ble_eq_true rfl) ?_
  show zruns zTB 101 0 [some (.ref b), some (.int (nI k)), some (.int (nI 0))] [] _ _
  refine zr_iload_n (pc' := 1) zi_101_0 rfl rfl ?_
  refine zr_if (pc' := 4) zi_101_1 rfl (fun h1 => ?_) (fun h1 => ?_)
  · replace h1 := zx_lt_t h1
    exact absurd h1 (nI_pos (by omega))
  · replace h1 := zx_lt_f h1
    refine zr_iload_n (pc' := 5) zi_101_4 rfl rfl ?_
    refine zr_aload_n (pc' := 6) zi_101_5 rfl rfl ?_
    refine zr_get (pc' := 9) zi_101_6 (nput_at hb (k := 0) rfl) rfl rfl ?_
    refine zr_get (pc' := 12) zi_101_9 (nput_at hb (k := 43) rfl) rfl rfl ?_
    refine zr_icmp (pc' := 15) zi_101_12 rfl (fun h12 => ?_) (fun h12 => ?_)
    · replace h12 := zc_lt_t (by omega) (by omega) h12
      refine zr_iload_n (pc' := 26) zi_101_25 rfl rfl ?_
      refine zr_iconst (v := (nI 2)) (pc' := 27) zi_101_26 rfl rfl ?_
      refine zr_s2 (pc' := 30) zi_101_27 rfl (c_inN _ _ (by omega) (by omega)) rfl ?_
      refine zr_if (pc' := 33) zi_101_30 rfl (fun h30 => ?_) (fun h30 => ?_)
      · replace h30 := zc_ne_t h30
        refine zr_iload_n (pc' := 44) zi_101_43 rfl rfl ?_
        refine zr_lookup (t := 72) zi_101_44 rfl ?_
        refine zr_aload_n (pc' := 73) zi_101_72 rfl rfl ?_
        refine zr_get (pc' := 76) zi_101_73 (nput_at hb (k := 0) rfl) rfl rfl ?_
        refine zr_get (pc' := 79) zi_101_76 (nput_at hb (k := 43) rfl) rfl rfl ?_
        refine zr_iload_n (pc' := 80) zi_101_79 rfl rfl ?_
        refine zr_atN (pc' := 83) (by omega) zi_101_80 hb rfl rfl (by decide) rfl rfl ?_
        exact zr_ireturn zi_101_83 rfl
      · replace h30 := zc_ne_f h30
        exact absurd h30 (by decide)
    · replace h12 := zc_lt_f (by omega) (by omega) h12
      omega
theorem c_spike1 (hb : b + 71 ≤ h.length) (q : zOk F g x sh gp wi bk) (k : Nat) (hk : k < g 5) : zcalls zTB 101 [.ref b, .int (nI k), .int (nI 1)] (nput b F g h) (some (.int (F 20 k)), nput b F g h) := by
  obtain ⟨vv, hP, _⟩ := q.to.sp
  refine zcalls_of (Nat.le_of_ble_eq_true rfl) ?_
  show zruns zTB 101 0 [some (.ref b), some (.int (nI k)), some (.int (nI 1))] [] _ _
  refine zr_iload_n (pc' := 1) zi_101_0 rfl rfl ?_
  refine zr_if (pc' := 4) zi_101_1 rfl (fun h1 => ?_) (fun h1 => ?_)
  · replace h1 := zx_lt_t h1
    exact absurd h1 (nI_pos (by omega))
  · replace h1 := zx_lt_f h1
    refine zr_iload_n (pc' := 5) zi_101_4 rfl rfl ?_
    refine zr_aload_n (pc' := 6) zi_101_5 rfl rfl ?_
    refine zr_get (pc' := 9) zi_101_6 (nput_at hb (k := 0) rfl) rfl rfl ?_
    refine zr_get (pc' := 12) zi_101_9 (nput_at hb (k := 43) rfl) rfl rfl ?_
    refine zr_icmp (pc' := 15) zi_101_12 rfl (fun h12 => ?_) (fun h12 => ?_)
    · replace h12 := zc_lt_t (by omega) (by omega) h12
      refine zr_iload_n (pc' := 26) zi_101_25 rfl rfl ?_
      refine zr_iconst (v := (nI 2)) (pc' := 27) zi_101_26 rfl rfl ?_
      refine zr_s2 (pc' := 30) zi_101_27 rfl (c_inN _ _ (by omega) (by omega)) rfl ?_
      refine zr_if (pc' := 33) zi_101_30 rfl (fun h30 => ?_) (fun h30 => ?_)
      · replace h30 := zc_ne_t h30
        refine zr_iload_n (pc' := 44) zi_101_43 rfl rfl ?_
        refine zr_lookup (t := 84) zi_101_44 rfl ?_
        refine zr_aload_n (pc' := 85) zi_101_84 rfl rfl ?_
        refine zr_get (pc' := 88) zi_101_85 (nput_at hb (k := 0) rfl) rfl rfl ?_
        refine zr_get (pc' := 91) zi_101_88 (nput_at hb (k := 43) rfl) rfl rfl ?_
        refine zr_iload_n (pc' := 92) zi_101_91 rfl rfl ?_
        refine zr_atN (pc' := 95) (by omega) zi_101_92 hb rfl rfl (by decide) rfl rfl ?_
        exact zr_ireturn zi_101_95 rfl
      · replace h30 := zc_ne_f h30
        exact absurd h30 (by decide)
    · replace h12 := zc_lt_f (by omega) (by omega) h12
      omega
theorem c_spike2 (hb : b + 71 ≤ h.length) (q : zOk F g x sh gp wi bk) (k : Nat) (hk : k < g 5) : zcalls zTB 101 [.ref b, .int (nI k), .int (nI 2)] (nput b F g h) (some (.int (F 21 k)), nput b F g h) := by
  obtain ⟨vv, hP, _⟩ := q.to.sp
  refine zcalls_of (Nat.le_of_ble_eq_true rfl) ?_
  show zruns zTB 101 0 [some (.ref b), some (.int (nI k)), some (.int (nI 2))] [] _ _
  refine zr_iload_n (pc' := 1) zi_101_0 rfl rfl ?_
  refine zr_if (pc' := 4) zi_101_1 rfl (fun h1 => ?_) (fun h1 => ?_)
  · replace h1 := zx_lt_t h1
    exact absurd h1 (nI_pos (by omega))
  · replace h1 := zx_lt_f h1
    refine zr_iload_n (pc' := 5) zi_101_4 rfl rfl ?_
    refine zr_aload_n (pc' := 6) zi_101_5 rfl rfl ?_
    refine zr_get (pc' := 9) zi_101_6 (nput_at hb (k := 0) rfl) rfl rfl ?_
    refine zr_get (pc' := 12) zi_101_9 (nput_at hb (k := 43) rfl) rfl rfl ?_
    refine zr_icmp (pc' := 15) zi_101_12 rfl (fun h12 => ?_) (fun h12 => ?_)
    · replace h12 := zc_lt_t (by omega) (by omega) h12
      refine zr_iload_n (pc' := 26) zi_101_25 rfl rfl ?_
      refine zr_iconst (v := (nI 2)) (pc' := 27) zi_101_26 rfl rfl ?_
      refine zr_s2 (pc' := 30) zi_101_27 rfl (c_inN _ _ (by omega) (by omega)) rfl ?_
      refine zr_if (pc' := 33) zi_101_30 rfl (fun h30 => ?_) (fun h30 => ?_)
      · replace h30 := zc_ne_t h30
        refine zr_iload_n (pc' := 44) zi_101_43 rfl rfl ?_
        refine zr_lookup (t := 96) zi_101_44 rfl ?_
        refine zr_aload_n (pc' := 97) zi_101_96 rfl rfl ?_
        refine zr_get (pc' := 100) zi_101_97 (nput_at hb (k := 0) rfl) rfl rfl ?_
        refine zr_get (pc' := 103) zi_101_100 (nput_at hb (k := 43) rfl) rfl rfl ?_
        refine zr_iload_n (pc' := 104) zi_101_103 rfl rfl ?_
        refine zr_atN (pc' := 107) (by omega) zi_101_104 hb rfl rfl (by decide) rfl rfl ?_
        exact zr_ireturn zi_101_107 rfl
      · replace h30 := zc_ne_f h30
        exact absurd h30 (by decide)
    · replace h12 := zc_lt_f (by omega) (by omega) h12
      omega
theorem c_causes (hb : b + 71 ≤ h.length) (q : zOk F g x sh gp wi bk) (t : Nat) (ht : t < g 2) : zcalls zTB 102 [.ref b, .int (nI t)] (nput b F g h) (some (.int (F 30 t)), nput b F g h) := by
  have hT := q.nb.t20
  refine zcalls_of (Nat.le_of_ble_eq_true rfl) ?_
  show zruns zTB 102 0 [some (.ref b), some (.int (nI t))] [] _ _
  refine zr_aload_n (pc' := 1) zi_102_0 rfl rfl ?_
  refine zr_iload_n (pc' := 2) zi_102_1 rfl rfl ?_
  refine zr_v1 (pc' := 5) zi_102_2 (nput_at hb (k := 0) rfl) rfl (c_hasTemplate hb t ht hT) rfl ?_
  refine zr_if (pc' := 8) zi_102_5 rfl (fun h5 => ?_) (fun h5 => ?_)
  · replace h5 := zc_ne_t h5
    refine zr_aload_n (pc' := 19) zi_102_18 rfl rfl ?_
    refine zr_get (pc' := 22) zi_102_19 (nput_at hb (k := 0) rfl) rfl rfl ?_
    refine zr_get (pc' := 25) zi_102_22 (nput_at hb (k := 52) rfl) rfl rfl ?_
    refine zr_iload_n (pc' := 26) zi_102_25 rfl rfl ?_
    refine zr_atN (pc' := 29) (by omega) zi_102_26 hb rfl rfl (by decide) rfl rfl ?_
    exact zr_ireturn zi_102_29 rfl
  · replace h5 := zc_ne_f h5
    exact absurd h5 (by decide)
theorem c_cause0 (hb : b + 71 ≤ h.length) (q : zOk F g x sh gp wi bk) (t k N : Nat) (ht : t < g 2) (hh R sv : Nat → Nat) (hr : zrk F hh t (g 2) N R sv) (hk : k < N) : zcalls zTB 103 [.ref b, .int (nI t), .int (nI k), .int (nI 0)] (nput b F g h) (some (.int (nI (R k))), nput b F g h) := by
  have hT := q.nb.t20
  obtain ⟨hr1, hr2, hr3, hr4⟩ := hr
  obtain ⟨hk1, hk2, hk3⟩ := hr3 k hk
  refine zcalls_of (Nat.le_of_ble_eq_true rfl) ?_
  show zruns zTB 103 0 [some (.ref b), some (.int (nI t)), some (.int (nI k)), some (.int (nI 0)), none] [] _ _
  refine zr_aload_n (pc' := 1) zi_103_0 rfl rfl ?_
  refine zr_iload_n (pc' := 2) zi_103_1 rfl rfl ?_
  refine zr_v1 (pc' := 5) zi_103_2 (nput_at hb (k := 0) rfl) rfl (c_hasTemplate hb t ht hT) rfl ?_
  refine zr_if (pc' := 8) zi_103_5 rfl (fun h5 => ?_) (fun h5 => ?_)
  · replace h5 := zc_ne_t h5
    refine zr_iload_n (pc' := 19) zi_103_18 rfl rfl ?_
    refine zr_if (pc' := 22) zi_103_19 rfl (fun h19 => ?_) (fun h19 => ?_)
    · replace h19 := zx_lt_t h19
      exact absurd h19 (nI_pos (by omega))
    · replace h19 := zx_lt_f h19
      refine zr_iload_n (pc' := 23) zi_103_22 rfl rfl ?_
      refine zr_aload_n (pc' := 24) zi_103_23 rfl rfl ?_
      refine zr_get (pc' := 27) zi_103_24 (nput_at hb (k := 0) rfl) rfl rfl ?_
      refine zr_get (pc' := 30) zi_103_27 (nput_at hb (k := 52) rfl) rfl rfl ?_
      refine zr_iload_n (pc' := 31) zi_103_30 rfl rfl ?_
      refine zr_atN (pc' := 34) (by omega) zi_103_31 hb rfl rfl (by decide) rfl rfl ?_
      rw [hr1]
      refine zr_icmp (pc' := 37) zi_103_34 rfl (fun h34 => ?_) (fun h34 => ?_)
      · replace h34 := zc_lt_t (by omega) (by omega) h34
        refine zr_iload_n (pc' := 49) zi_103_48 rfl rfl ?_
        refine zr_iconst (v := (nI 3)) (pc' := 50) zi_103_49 rfl rfl ?_
        refine zr_s2 (pc' := 53) zi_103_50 rfl (c_inN _ _ (by omega) (by omega)) rfl ?_
        refine zr_if (pc' := 56) zi_103_53 rfl (fun h53 => ?_) (fun h53 => ?_)
        · replace h53 := zc_ne_t h53
          refine zr_aload_n (pc' := 68) zi_103_67 rfl rfl ?_
          refine zr_get (pc' := 71) zi_103_68 (nput_at hb (k := 0) rfl) rfl rfl ?_
          refine zr_iload_n (pc' := 72) zi_103_71 rfl rfl ?_
          refine zr_iload_n (pc' := 73) zi_103_72 rfl rfl ?_
          refine zr_v2 (pc' := 76) zi_103_73 (nput_at hb (k := 52) rfl) rfl (c_causeOf hb _ _ (by omega)) rfl ?_
          rw [hk1]
          
          refine zr_istore (pc' := 78) zi_103_76 (Nat.le_of_ble_eq_true rfl) rfl rfl ?_
          dsimp only [zst1, zst2, zkill, List.set, List.getElem?_cons_succ, List.getElem?_cons_zero]
          refine zr_iload_n (pc' := 79) zi_103_78 rfl rfl ?_
          refine zr_table_in zi_103_79 0 (by decide) (by decide) rfl ?_
          refine zr_iload (pc' := 106) zi_103_104 rfl rfl ?_
          exact zr_ireturn zi_103_106 rfl
        · replace h53 := zc_ne_f h53
          exact absurd h53 (by decide)
      · replace h34 := zc_lt_f (by omega) (by omega) h34
        omega
  · replace h5 := zc_ne_f h5
    exact absurd h5 (by decide)
theorem c_cause1 (hb : b + 71 ≤ h.length) (q : zOk F g x sh gp wi bk) (t k N : Nat) (ht : t < g 2) (hh R sv : Nat → Nat) (hr : zrk F hh t (g 2) N R sv) (hk : k < N) : zcalls zTB 103 [.ref b, .int (nI t), .int (nI k), .int (nI 1)] (nput b F g h) (some (.int (F 25 (t * 20 + R k))), nput b F g h) := by
  have hT := q.nb.t20
  obtain ⟨hr1, hr2, hr3, hr4⟩ := hr
  obtain ⟨hk1, hk2, hk3⟩ := hr3 k hk
  refine zcalls_of (Nat.le_of_ble_eq_true rfl) ?_
  show zruns zTB 103 0 [some (.ref b), some (.int (nI t)), some (.int (nI k)), some (.int (nI 1)), none] [] _ _
  refine zr_aload_n (pc' := 1) zi_103_0 rfl rfl ?_
  refine zr_iload_n (pc' := 2) zi_103_1 rfl rfl ?_
  refine zr_v1 (pc' := 5) zi_103_2 (nput_at hb (k := 0) rfl) rfl (c_hasTemplate hb t ht hT) rfl ?_
  refine zr_if (pc' := 8) zi_103_5 rfl (fun h5 => ?_) (fun h5 => ?_)
  · replace h5 := zc_ne_t h5
    refine zr_iload_n (pc' := 19) zi_103_18 rfl rfl ?_
    refine zr_if (pc' := 22) zi_103_19 rfl (fun h19 => ?_) (fun h19 => ?_)
    · replace h19 := zx_lt_t h19
      exact absurd h19 (nI_pos (by omega))
    · replace h19 := zx_lt_f h19
      refine zr_iload_n (pc' := 23) zi_103_22 rfl rfl ?_
      refine zr_aload_n (pc' := 24) zi_103_23 rfl rfl ?_
      refine zr_get (pc' := 27) zi_103_24 (nput_at hb (k := 0) rfl) rfl rfl ?_
      refine zr_get (pc' := 30) zi_103_27 (nput_at hb (k := 52) rfl) rfl rfl ?_
      refine zr_iload_n (pc' := 31) zi_103_30 rfl rfl ?_
      refine zr_atN (pc' := 34) (by omega) zi_103_31 hb rfl rfl (by decide) rfl rfl ?_
      rw [hr1]
      refine zr_icmp (pc' := 37) zi_103_34 rfl (fun h34 => ?_) (fun h34 => ?_)
      · replace h34 := zc_lt_t (by omega) (by omega) h34
        refine zr_iload_n (pc' := 49) zi_103_48 rfl rfl ?_
        refine zr_iconst (v := (nI 3)) (pc' := 50) zi_103_49 rfl rfl ?_
        refine zr_s2 (pc' := 53) zi_103_50 rfl (c_inN _ _ (by omega) (by omega)) rfl ?_
        refine zr_if (pc' := 56) zi_103_53 rfl (fun h53 => ?_) (fun h53 => ?_)
        · replace h53 := zc_ne_t h53
          refine zr_aload_n (pc' := 68) zi_103_67 rfl rfl ?_
          refine zr_get (pc' := 71) zi_103_68 (nput_at hb (k := 0) rfl) rfl rfl ?_
          refine zr_iload_n (pc' := 72) zi_103_71 rfl rfl ?_
          refine zr_iload_n (pc' := 73) zi_103_72 rfl rfl ?_
          refine zr_v2 (pc' := 76) zi_103_73 (nput_at hb (k := 52) rfl) rfl (c_causeOf hb _ _ (by omega)) rfl ?_
          rw [hk1]
          refine zr_istore (pc' := 78) zi_103_76 (Nat.le_of_ble_eq_true rfl) rfl rfl ?_
          dsimp only [zst1, zst2, zkill, List.set, List.getElem?_cons_succ, List.getElem?_cons_zero]
          refine zr_iload_n (pc' := 79) zi_103_78 rfl rfl ?_
          refine zr_table_in zi_103_79 1 (by decide) (by decide) rfl ?_
          refine zr_aload_n (pc' := 108) zi_103_107 rfl rfl ?_
          refine zr_get (pc' := 111) zi_103_108 (nput_at hb (k := 0) rfl) rfl rfl ?_
          refine zr_iload_n (pc' := 112) zi_103_111 rfl rfl ?_
          refine zr_iload (pc' := 114) zi_103_112 rfl rfl ?_
          refine zr_v2 (pc' := 117) zi_103_114 (nput_at hb (k := 52) rfl) rfl (c_hits hb _ _ (by omega)) rfl ?_
          exact zr_ireturn zi_103_117 rfl
        · replace h53 := zc_ne_f h53
          exact absurd h53 (by decide)
      · replace h34 := zc_lt_f (by omega) (by omega) h34
        omega
  · replace h5 := zc_ne_f h5
    exact absurd h5 (by decide)
theorem c_cause2 (hb : b + 71 ≤ h.length) (q : zOk F g x sh gp wi bk) (t k N : Nat) (ht : t < g 2) (hh R sv : Nat → Nat) (hr : zrk F hh t (g 2) N R sv) (hk : k < N) : zcalls zTB 103 [.ref b, .int (nI t), .int (nI k), .int (nI 2)] (nput b F g h) (some (.int (F 26 (R k) - F 25 (t * 20 + R k))), nput b F g h) := by
  have hT := q.nb.t20
  obtain ⟨hr1, hr2, hr3, hr4⟩ := hr
  obtain ⟨hk1, hk2, hk3⟩ := hr3 k hk
  refine zcalls_of (Nat.le_of_ble_eq_true rfl) ?_
  show zruns zTB 103 0 [some (.ref b), some (.int (nI t)), some (.int (nI k)), some (.int (nI 2)), none] [] _ _
  refine zr_aload_n (pc' := 1) zi_103_0 rfl rfl ?_
  refine zr_iload_n (pc' := 2) zi_103_1 rfl rfl ?_
  refine zr_v1 (pc' := 5) zi_103_2 (nput_at hb (k := 0) rfl) rfl (c_hasTemplate hb t ht hT) rfl ?_
  refine zr_if (pc' := 8) zi_103_5 rfl (fun h5 => ?_) (fun h5 => ?_)
  · replace h5 := zc_ne_t h5
    refine zr_iload_n (pc' := 19) zi_103_18 rfl rfl ?_
    refine zr_if (pc' := 22) zi_103_19 rfl (fun h19 => ?_) (fun h19 => ?_)
    · replace h19 := zx_lt_t h19
      exact absurd h19 (nI_pos (by omega))
    · replace h19 := zx_lt_f h19
      refine zr_iload_n (pc' := 23) zi_103_22 rfl rfl ?_
      refine zr_aload_n (pc' := 24) zi_103_23 rfl rfl ?_
      refine zr_get (pc' := 27) zi_103_24 (nput_at hb (k := 0) rfl) rfl rfl ?_
      refine zr_get (pc' := 30) zi_103_27 (nput_at hb (k := 52) rfl) rfl rfl ?_
      refine zr_iload_n (pc' := 31) zi_103_30 rfl rfl ?_
      refine zr_atN (pc' := 34) (by omega) zi_103_31 hb rfl rfl (by decide) rfl rfl ?_
      rw [hr1]
      refine zr_icmp (pc' := 37) zi_103_34 rfl (fun h34 => ?_) (fun h34 => ?_)
      · replace h34 := zc_lt_t (by omega) (by omega) h34
        refine zr_iload_n (pc' := 49) zi_103_48 rfl rfl ?_
        refine zr_iconst (v := (nI 3)) (pc' := 50) zi_103_49 rfl rfl ?_
        refine zr_s2 (pc' := 53) zi_103_50 rfl (c_inN _ _ (by omega) (by omega)) rfl ?_
        refine zr_if (pc' := 56) zi_103_53 rfl (fun h53 => ?_) (fun h53 => ?_)
        · replace h53 := zc_ne_t h53
          refine zr_aload_n (pc' := 68) zi_103_67 rfl rfl ?_
          refine zr_get (pc' := 71) zi_103_68 (nput_at hb (k := 0) rfl) rfl rfl ?_
          refine zr_iload_n (pc' := 72) zi_103_71 rfl rfl ?_
          refine zr_iload_n (pc' := 73) zi_103_72 rfl rfl ?_
          refine zr_v2 (pc' := 76) zi_103_73 (nput_at hb (k := 52) rfl) rfl (c_causeOf hb _ _ (by omega)) rfl ?_
          rw [hk1]
          refine zr_istore (pc' := 78) zi_103_76 (Nat.le_of_ble_eq_true rfl) rfl rfl ?_
          dsimp only [zst1, zst2, zkill, List.set, List.getElem?_cons_succ, List.getElem?_cons_zero]
          refine zr_iload_n (pc' := 79) zi_103_78 rfl rfl ?_
          refine zr_table_in zi_103_79 2 (by decide) (by decide) rfl ?_
          refine zr_aload_n (pc' := 119) zi_103_118 rfl rfl ?_
          refine zr_get (pc' := 122) zi_103_119 (nput_at hb (k := 0) rfl) rfl rfl ?_
          refine zr_iload_n (pc' := 123) zi_103_122 rfl rfl ?_
          refine zr_iload (pc' := 125) zi_103_123 rfl rfl ?_
          refine zr_v2 (pc' := 128) zi_103_125 (nput_at hb (k := 52) rfl) rfl (c_rest hb _ _ (by omega) (by omega)) rfl ?_
          exact zr_ireturn zi_103_128 rfl
        · replace h53 := zc_ne_f h53
          exact absurd h53 (by decide)
      · replace h34 := zc_lt_f (by omega) (by omega) h34
        omega
  · replace h5 := zc_ne_f h5
    exact absurd h5 (by decide)
theorem c_cause3 (hb : b + 71 ≤ h.length) (q : zOk F g x sh gp wi bk) (t k N : Nat) (ht : t < g 2) (hh R sv : Nat → Nat) (hr : zrk F hh t (g 2) N R sv) (hk : k < N) : zcalls zTB 103 [.ref b, .int (nI t), .int (nI k), .int (nI 3)] (nput b F g h) (some (.int (F 28 (t * 20 + R k))), nput b F g h) := by
  have hT := q.nb.t20
  obtain ⟨hr1, hr2, hr3, hr4⟩ := hr
  obtain ⟨hk1, hk2, hk3⟩ := hr3 k hk
  refine zcalls_of (Nat.le_of_ble_eq_true rfl) ?_
  show zruns zTB 103 0 [some (.ref b), some (.int (nI t)), some (.int (nI k)), some (.int (nI 3)), none] [] _ _
  refine zr_aload_n (pc' := 1) zi_103_0 rfl rfl ?_
  refine zr_iload_n (pc' := 2) zi_103_1 rfl rfl ?_
  refine zr_v1 (pc' := 5) zi_103_2 (nput_at hb (k := 0) rfl) rfl (c_hasTemplate hb t ht hT) rfl ?_
  refine zr_if (pc' := 8) zi_103_5 rfl (fun h5 => ?_) (fun h5 => ?_)
  · replace h5 := zc_ne_t h5
    refine zr_iload_n (pc' := 19) zi_103_18 rfl rfl ?_
    refine zr_if (pc' := 22) zi_103_19 rfl (fun h19 => ?_) (fun h19 => ?_)
    · replace h19 := zx_lt_t h19
      exact absurd h19 (nI_pos (by omega))
    · replace h19 := zx_lt_f h19
      refine zr_iload_n (pc' := 23) zi_103_22 rfl rfl ?_
      refine zr_aload_n (pc' := 24) zi_103_23 rfl rfl ?_
      refine zr_get (pc' := 27) zi_103_24 (nput_at hb (k := 0) rfl) rfl rfl ?_
      refine zr_get (pc' := 30) zi_103_27 (nput_at hb (k := 52) rfl) rfl rfl ?_
      refine zr_iload_n (pc' := 31) zi_103_30 rfl rfl ?_
      refine zr_atN (pc' := 34) (by omega) zi_103_31 hb rfl rfl (by decide) rfl rfl ?_
      rw [hr1]
      refine zr_icmp (pc' := 37) zi_103_34 rfl (fun h34 => ?_) (fun h34 => ?_)
      · replace h34 := zc_lt_t (by omega) (by omega) h34
        refine zr_iload_n (pc' := 49) zi_103_48 rfl rfl ?_
        refine zr_iconst (v := (nI 3)) (pc' := 50) zi_103_49 rfl rfl ?_
        refine zr_s2 (pc' := 53) zi_103_50 rfl (c_inN _ _ (by omega) (by omega)) rfl ?_
        refine zr_if (pc' := 56) zi_103_53 rfl (fun h53 => ?_) (fun h53 => ?_)
        · replace h53 := zc_ne_t h53
          refine zr_aload_n (pc' := 68) zi_103_67 rfl rfl ?_
          refine zr_get (pc' := 71) zi_103_68 (nput_at hb (k := 0) rfl) rfl rfl ?_
          refine zr_iload_n (pc' := 72) zi_103_71 rfl rfl ?_
          refine zr_iload_n (pc' := 73) zi_103_72 rfl rfl ?_
          refine zr_v2 (pc' := 76) zi_103_73 (nput_at hb (k := 52) rfl) rfl (c_causeOf hb _ _ (by omega)) rfl ?_
          rw [hk1]
          refine zr_istore (pc' := 78) zi_103_76 (Nat.le_of_ble_eq_true rfl) rfl rfl ?_
          dsimp only [zst1, zst2, zkill, List.set, List.getElem?_cons_succ, List.getElem?_cons_zero]
          refine zr_iload_n (pc' := 79) zi_103_78 rfl rfl ?_
          refine zr_table_out zi_103_79 (by decide) ?_
          refine zr_aload_n (pc' := 130) zi_103_129 rfl rfl ?_
          refine zr_get (pc' := 133) zi_103_130 (nput_at hb (k := 0) rfl) rfl rfl ?_
          refine zr_iload_n (pc' := 134) zi_103_133 rfl rfl ?_
          refine zr_iload (pc' := 136) zi_103_134 rfl rfl ?_
          refine zr_v2 (pc' := 139) zi_103_136 (nput_at hb (k := 52) rfl) rfl (c_score hb _ _ (by omega)) rfl ?_
          exact zr_ireturn zi_103_139 rfl
        · replace h53 := zc_ne_f h53
          exact absurd h53 (by decide)
      · replace h34 := zc_lt_f (by omega) (by omega) h34
        omega
  · replace h5 := zc_ne_f h5
    exact absurd h5 (by decide)
theorem c_because (hb : b + 71 ≤ h.length) (q : zOk F g x sh gp wi bk) (l : Nat) (hl : l < g 0) : ∃ r, zbeh F g l (nI bk) r ∧ zcalls zTB 104 [.ref b, .int (nI l)] (nput b F g h) (some (.int r), nput b F g h) := by
  have hn := q.nb.n70
  have hm := q.nb.mn
  have hT := q.nb.t20
  obtain ⟨r, hr, hc⟩ := c_lineBehind hb (F := F) (g := g) l (nI bk) (by omega) (by omega) (by
    rcases Nat.lt_or_ge l (g 1) with w | w
    · rcases q.nb.o2 l w with e | ⟨t, a, h1, h2, _⟩
      · exact .inl e
      · obtain ⟨N, R, sv, h3, h4, h5, _⟩ := q.to.rk t h1
        refine .inr ⟨t, N, by omega, h2, by omega, h3, fun p hp => ?_⟩
        obtain ⟨k1, k2, k3, _⟩ := h5 p hp
        exact ⟨R p, by omega, k3, k1⟩
    · exact .inl (q.nb.o1 l w hl))
  refine ⟨r, hr, ?_⟩
  refine zcalls_of (Nat.le_of_ble_eq_true rfl) ?_
  show zruns zTB 104 0 [some (.ref b), some (.int (nI l))] [] _ _
  refine zr_aload_n (pc' := 1) zi_104_0 rfl rfl ?_
  refine zr_iload_n (pc' := 2) zi_104_1 rfl rfl ?_
  refine zr_v1 (pc' := 5) zi_104_2 (nput_at hb (k := 0) rfl) rfl (c_hasLine hb l hl hn) rfl ?_
  refine zr_if (pc' := 8) zi_104_5 rfl (fun h5 => ?_) (fun h5 => ?_)
  · replace h5 := zc_ne_t h5
    refine zr_aload_n (pc' := 19) zi_104_18 rfl rfl ?_
    refine zr_get (pc' := 22) zi_104_19 (nput_at hb (k := 0) rfl) rfl rfl ?_
    refine zr_aload_n (pc' := 23) zi_104_22 rfl rfl ?_
    refine zr_get (pc' := 26) zi_104_23 (nput_at hb (k := 0) rfl) rfl rfl ?_
    refine zr_iload_n (pc' := 27) zi_104_26 rfl rfl ?_
    refine zr_aload_n (pc' := 28) zi_104_27 rfl rfl ?_
    refine zr_get (pc' := 31) zi_104_28 (nput_at hb (k := 0) rfl) rfl rfl ?_
    refine zr_iconst (v := (nI 3)) (pc' := 32) zi_104_31 rfl rfl ?_
    refine zr_atN (pc' := 35) (by omega) zi_104_32 hb rfl rfl (by decide) rfl rfl ?_
    rw [q.nb.s3.1]
    refine zr_v3 (pc' := 38) zi_104_35 (nput_at hb (k := 52) rfl) rfl hc rfl ?_
    exact zr_ireturn zi_104_38 rfl
  · replace h5 := zc_ne_f h5
    exact absurd h5 (by decide)
theorem l_sessionsWith (hb : b + 71 ≤ h.length) (hn : g 0 ≤ 70) (gap : Nat) (i : Nat) (hi : i ≤ g 0) : zruns zTB 127 25 [some (.ref b), some (.int (nI gap)), some (.int (nI (zcnt (zbg F (nI gap)) i))), some (.int (nI i))] [] (nput b F g h) (some (.int (nI (zcnt (zbg F (nI gap)) (g 0)))), nput b F g h) := by
  refine zr_iload_n (pc' := 26) zi_127_25 rfl rfl ?_
  refine zr_aload_n (pc' := 27) zi_127_26 rfl rfl ?_
  refine zr_get (pc' := 30) zi_127_27 (nput_at hb (k := 0) rfl) rfl rfl ?_
  refine zr_get (pc' := 33) zi_127_30 (nput_at hb (k := 1) rfl) rfl rfl ?_
  refine zr_icmp (pc' := 36) zi_127_33 rfl (fun h33 => ?_) (fun h33 => ?_)
  · replace h33 := zc_ge_t (by omega) (by omega) h33
    refine zr_iload_n (pc' := 73) zi_127_72 rfl rfl ?_
    rw [show g 0 = i by omega]
    exact zr_ireturn zi_127_73 rfl
  · replace h33 := zc_ge_f (by omega) (by omega) h33
    refine zr_aload_n (pc' := 37) zi_127_36 rfl rfl ?_
    refine zr_get (pc' := 40) zi_127_37 (nput_at hb (k := 0) rfl) rfl rfl ?_
    refine zr_get (pc' := 43) zi_127_40 (nput_at hb (k := 1) rfl) rfl rfl ?_
    refine zr_iload_n (pc' := 44) zi_127_43 rfl rfl ?_
    refine zr_atN (pc' := 47) (by omega) zi_127_44 hb rfl rfl (by decide) rfl rfl ?_
    refine zr_if (pc' := 50) zi_127_47 rfl (fun h47 => ?_) (fun h47 => ?_)
    · replace h47 := zx_lt_t h47
      refine zr_iinc (pc' := 69) zi_127_66 rfl (by first | exact n_inc _ | rfl) rfl rfl ?_
      dsimp only [zst1, zst2, zkill, List.set, List.getElem?_cons_succ, List.getElem?_cons_zero]
      refine zr_goto zi_127_69 ?_
      have ih := l_sessionsWith hb hn gap (i + 1) (by omega)
      rw [zcnt_f (by simp only [zbg, decide_eq_false_iff_not]; exact fun w => absurd w.1 (Int32.not_le.mpr h47))] at ih
      exact ih
    · replace h47 := zx_lt_f h47
      refine zr_aload_n (pc' := 51) zi_127_50 rfl rfl ?_
      refine zr_get (pc' := 54) zi_127_51 (nput_at hb (k := 0) rfl) rfl rfl ?_
      refine zr_iload_n (pc' := 55) zi_127_54 rfl rfl ?_
      refine zr_iload_n (pc' := 56) zi_127_55 rfl rfl ?_
      refine zr_v2 (pc' := 59) zi_127_56 (nput_at hb (k := 1) rfl) rfl (c_joined hb i _ (by omega)) rfl ?_
      refine zr_iconst (v := (-1)) (pc' := 60) zi_127_59 rfl rfl ?_
      refine zr_icmp (pc' := 63) zi_127_60 rfl (fun h60 => ?_) (fun h60 => ?_)
      · replace h60 := zc_ne_t h60
        refine zr_iinc (pc' := 69) zi_127_66 rfl (by first | exact n_inc _ | rfl) rfl rfl ?_
        dsimp only [zst1, zst2, zkill, List.set, List.getElem?_cons_succ, List.getElem?_cons_zero]
        refine zr_goto zi_127_69 ?_
        have ih := l_sessionsWith hb hn gap (i + 1) (by omega)
        rw [zcnt_f (by simp only [zbg, decide_eq_false_iff_not]; exact fun w => h60 w.2)] at ih
        exact ih
      · replace h60 := zc_ne_f h60
        refine zr_iinc (pc' := 66) zi_127_63 rfl (by first | exact n_inc _ | rfl) rfl rfl ?_
        dsimp only [zst1, zst2, zkill, List.set, List.getElem?_cons_succ, List.getElem?_cons_zero]
        refine zr_iinc (pc' := 69) zi_127_66 rfl (by first | exact n_inc _ | rfl) rfl rfl ?_
        dsimp only [zst1, zst2, zkill, List.set, List.getElem?_cons_succ, List.getElem?_cons_zero]
        refine zr_goto zi_127_69 ?_
        have ih := l_sessionsWith hb hn gap (i + 1) (by omega)
        rw [zcnt_t (by simp only [zbg, decide_eq_true_eq]; exact ⟨Int32.not_lt.mp h47, h60⟩)] at ih
        exact ih
termination_by g 0 - i
theorem c_sessionsWith (hb : b + 71 ≤ h.length) (q : zOk F g x sh gp wi bk) : zcalls zTB 127 [.ref b, .int (nI gp)] (nput b F g h) (some (.int (nI (g 4))), nput b F g h) := by
  obtain ⟨C, Z, qs⟩ := q.to.se
  have e := qs.ct
  rw [q.nb.s1.1] at e
  have hg := q.nb.s1.2
  rw [e]
  refine zcalls_of (Nat.le_of_ble_eq_true rfl) ?_
  show zruns zTB 127 0 [some (.ref b), some (.int (nI gp)), none, none] [] _ _
  refine zr_iload_n (pc' := 1) zi_127_0 rfl rfl ?_
  refine zr_sipush (v := (nI 1000)) (pc' := 4) zi_127_1 rfl rfl ?_
  refine zr_s2 (pc' := 7) zi_127_4 rfl (c_inN _ _ (by omega) (by omega)) rfl ?_
  refine zr_if (pc' := 10) zi_127_7 rfl (fun h7 => ?_) (fun h7 => ?_)
  · replace h7 := zc_ne_t h7
    refine zr_iconst (v := (nI 0)) (pc' := 22) zi_127_21 rfl rfl ?_
    refine zr_istore_n (pc' := 23) zi_127_22 (Nat.le_of_ble_eq_true rfl) rfl rfl ?_
    dsimp only [zst1, zst2, zkill, List.set, List.getElem?_cons_succ, List.getElem?_cons_zero]
    refine zr_iconst (v := (nI 0)) (pc' := 24) zi_127_23 rfl rfl ?_
    refine zr_istore_n (pc' := 25) zi_127_24 (Nat.le_of_ble_eq_true rfl) rfl rfl ?_
    dsimp only [zst1, zst2, zkill, List.set, List.getElem?_cons_succ, List.getElem?_cons_zero]
    exact l_sessionsWith hb q.nb.n70 gp 0 (Nat.zero_le _)
  · replace h7 := zc_ne_f h7
    exact absurd h7 (by decide)
end


theorem zi_3_0 : zI 3 0 = some (.aload_n 0, []) := by decide +kernel
theorem zi_3_1 : zI 3 1 = some (.iload_n 1, []) := by decide +kernel
theorem zi_3_2 : zI 3 2 = some (.invokevirtual 135, [21, 0, 1, 6, 7, 8, 9, 6, 0, 5]) := by decide +kernel
theorem zi_3_5 : zI 3 5 = some (.ifCond .ne 13, [18]) := by decide +kernel
theorem zi_3_18 : zI 3 18 = some (.iload_n 2, []) := by decide +kernel
theorem zi_3_19 : zI 3 19 = some (.bipush 8, []) := by decide +kernel
theorem zi_3_21 : zI 3 21 = some (.invokestatic 60, [6, 1, 2, 0, 12, 0, 9, 11, 0, 10]) := by decide +kernel
theorem zi_3_24 : zI 3 24 = some (.ifCond .ne 13, [37]) := by decide +kernel
theorem zi_3_37 : zI 3 37 = some (.iload_n 2, []) := by decide +kernel
theorem zi_3_38 : zI 3 38 = some (.tableswitch 153 0 7 #[46, 58, 70, 82, 94, 106, 118, 130], [191, 84, 96, 108, 120, 132, 144, 156, 168]) := by decide +kernel
theorem zi_3_84 : zI 3 84 = some (.aload_n 0, []) := by decide +kernel
theorem zi_3_85 : zI 3 85 = some (.getfield 12, [6, 0, 13]) := by decide +kernel
theorem zi_3_88 : zI 3 88 = some (.getfield 80, [0, 0, 14]) := by decide +kernel
theorem zi_3_91 : zI 3 91 = some (.iload_n 1, []) := by decide +kernel
theorem zi_3_92 : zI 3 92 = some (.invokevirtual 83, [0, 0, 1, 1, 17, 18, 19, 16, 0, 15]) := by decide +kernel
theorem zi_3_95 : zI 3 95 = some (.ireturn, []) := by decide +kernel
theorem zi_3_96 : zI 3 96 = some (.aload_n 0, []) := by decide +kernel
theorem zi_3_97 : zI 3 97 = some (.getfield 12, [6, 0, 13]) := by decide +kernel
theorem zi_3_100 : zI 3 100 = some (.getfield 146, [0, 1, 20]) := by decide +kernel
theorem zi_3_103 : zI 3 103 = some (.iload_n 1, []) := by decide +kernel
theorem zi_3_104 : zI 3 104 = some (.invokevirtual 83, [0, 0, 1, 1, 17, 18, 19, 16, 0, 15]) := by decide +kernel
theorem zi_3_107 : zI 3 107 = some (.ireturn, []) := by decide +kernel
theorem zi_3_108 : zI 3 108 = some (.aload_n 0, []) := by decide +kernel
theorem zi_3_109 : zI 3 109 = some (.getfield 12, [6, 0, 13]) := by decide +kernel
theorem zi_3_112 : zI 3 112 = some (.getfield 149, [0, 2, 21]) := by decide +kernel
theorem zi_3_115 : zI 3 115 = some (.iload_n 1, []) := by decide +kernel
theorem zi_3_116 : zI 3 116 = some (.invokevirtual 83, [0, 0, 1, 1, 17, 18, 19, 16, 0, 15]) := by decide +kernel
theorem zi_3_119 : zI 3 119 = some (.ireturn, []) := by decide +kernel
theorem zi_3_120 : zI 3 120 = some (.aload_n 0, []) := by decide +kernel
theorem zi_3_121 : zI 3 121 = some (.getfield 12, [6, 0, 13]) := by decide +kernel
theorem zi_3_124 : zI 3 124 = some (.getfield 98, [0, 3, 22]) := by decide +kernel
theorem zi_3_127 : zI 3 127 = some (.iload_n 1, []) := by decide +kernel
theorem zi_3_128 : zI 3 128 = some (.invokevirtual 83, [0, 0, 1, 1, 17, 18, 19, 16, 0, 15]) := by decide +kernel
theorem zi_3_131 : zI 3 131 = some (.ireturn, []) := by decide +kernel
theorem zi_3_132 : zI 3 132 = some (.aload_n 0, []) := by decide +kernel
theorem zi_3_133 : zI 3 133 = some (.getfield 12, [6, 0, 13]) := by decide +kernel
theorem zi_3_136 : zI 3 136 = some (.getfield 112, [0, 5, 23]) := by decide +kernel
theorem zi_3_139 : zI 3 139 = some (.iload_n 1, []) := by decide +kernel
theorem zi_3_140 : zI 3 140 = some (.invokevirtual 83, [0, 0, 1, 1, 17, 18, 19, 16, 0, 15]) := by decide +kernel
theorem zi_3_143 : zI 3 143 = some (.ireturn, []) := by decide +kernel
theorem zi_3_144 : zI 3 144 = some (.aload_n 0, []) := by decide +kernel
theorem zi_3_145 : zI 3 145 = some (.getfield 12, [6, 0, 13]) := by decide +kernel
theorem zi_3_148 : zI 3 148 = some (.getfield 152, [0, 6, 24]) := by decide +kernel
theorem zi_3_151 : zI 3 151 = some (.iload_n 1, []) := by decide +kernel
theorem zi_3_152 : zI 3 152 = some (.invokevirtual 83, [0, 0, 1, 1, 17, 18, 19, 16, 0, 15]) := by decide +kernel
theorem zi_3_155 : zI 3 155 = some (.ireturn, []) := by decide +kernel
theorem zi_3_156 : zI 3 156 = some (.aload_n 0, []) := by decide +kernel
theorem zi_3_157 : zI 3 157 = some (.getfield 29, [6, 3, 25]) := by decide +kernel
theorem zi_3_160 : zI 3 160 = some (.getfield 155, [3, 0, 26]) := by decide +kernel
theorem zi_3_163 : zI 3 163 = some (.iload_n 1, []) := by decide +kernel
theorem zi_3_164 : zI 3 164 = some (.invokevirtual 83, [0, 0, 1, 1, 17, 18, 19, 16, 0, 15]) := by decide +kernel
theorem zi_3_167 : zI 3 167 = some (.ireturn, []) := by decide +kernel
theorem zi_3_168 : zI 3 168 = some (.aload_n 0, []) := by decide +kernel
theorem zi_3_169 : zI 3 169 = some (.getfield 12, [6, 0, 13]) := by decide +kernel
theorem zi_3_172 : zI 3 172 = some (.getfield 80, [0, 0, 14]) := by decide +kernel
theorem zi_3_175 : zI 3 175 = some (.iload_n 1, []) := by decide +kernel
theorem zi_3_176 : zI 3 176 = some (.invokevirtual 83, [0, 0, 1, 1, 17, 18, 19, 16, 0, 15]) := by decide +kernel
theorem zi_3_179 : zI 3 179 = some (.aload_n 0, []) := by decide +kernel
theorem zi_3_180 : zI 3 180 = some (.getfield 52, [6, 6, 27]) := by decide +kernel
theorem zi_3_183 : zI 3 183 = some (.iconst 2, []) := by decide +kernel
theorem zi_3_184 : zI 3 184 = some (.invokevirtual 83, [0, 0, 1, 1, 17, 18, 19, 16, 0, 15]) := by decide +kernel
theorem zi_3_187 : zI 3 187 = some (.invokestatic 158, [17, 1, 2, 0, 30, 0, 9, 29, 0, 28]) := by decide +kernel
theorem zi_3_190 : zI 3 190 = some (.ireturn, []) := by decide +kernel
theorem zi_3_191 : zI 3 191 = some (.aload_n 0, []) := by decide +kernel
theorem zi_3_192 : zI 3 192 = some (.getfield 43, [6, 5, 31]) := by decide +kernel
theorem zi_3_195 : zI 3 195 = some (.getfield 161, [2, 0, 32]) := by decide +kernel
theorem zi_3_198 : zI 3 198 = some (.iload_n 1, []) := by decide +kernel
theorem zi_3_199 : zI 3 199 = some (.invokevirtual 83, [0, 0, 1, 1, 17, 18, 19, 16, 0, 15]) := by decide +kernel
theorem zi_3_202 : zI 3 202 = some (.ireturn, []) := by decide +kernel
theorem zi_7_0 : zI 7 0 = some (.aload_n 0, []) := by decide +kernel
theorem zi_7_1 : zI 7 1 = some (.iload_n 1, []) := by decide +kernel
theorem zi_7_2 : zI 7 2 = some (.invokevirtual 203, [44, 0, 1, 6, 43, 44, 9, 42, 0, 41]) := by decide +kernel
theorem zi_7_5 : zI 7 5 = some (.ifCond .ne 13, [18]) := by decide +kernel
theorem zi_7_18 : zI 7 18 = some (.iload_n 2, []) := by decide +kernel
theorem zi_7_19 : zI 7 19 = some (.bipush 6, []) := by decide +kernel
theorem zi_7_21 : zI 7 21 = some (.invokestatic 60, [6, 1, 2, 0, 12, 0, 9, 11, 0, 10]) := by decide +kernel
theorem zi_7_24 : zI 7 24 = some (.ifCond .ne 13, [37]) := by decide +kernel
theorem zi_7_37 : zI 7 37 = some (.iload_n 2, []) := by decide +kernel
theorem zi_7_38 : zI 7 38 = some (.tableswitch 141 0 5 #[38, 60, 82, 104, 116, 128], [179, 76, 98, 120, 142, 154, 166]) := by decide +kernel
theorem zi_7_76 : zI 7 76 = some (.aload_n 0, []) := by decide +kernel
theorem zi_7_77 : zI 7 77 = some (.getfield 12, [6, 0, 13]) := by decide +kernel
theorem zi_7_80 : zI 7 80 = some (.getfield 152, [0, 6, 24]) := by decide +kernel
theorem zi_7_83 : zI 7 83 = some (.aload_n 0, []) := by decide +kernel
theorem zi_7_84 : zI 7 84 = some (.getfield 29, [6, 3, 25]) := by decide +kernel
theorem zi_7_87 : zI 7 87 = some (.getfield 210, [3, 2, 45]) := by decide +kernel
theorem zi_7_90 : zI 7 90 = some (.iload_n 1, []) := by decide +kernel
theorem zi_7_91 : zI 7 91 = some (.invokevirtual 83, [0, 0, 1, 1, 17, 18, 19, 16, 0, 15]) := by decide +kernel
theorem zi_7_94 : zI 7 94 = some (.invokevirtual 83, [0, 0, 1, 1, 17, 18, 19, 16, 0, 15]) := by decide +kernel
theorem zi_7_97 : zI 7 97 = some (.ireturn, []) := by decide +kernel
theorem zi_7_98 : zI 7 98 = some (.aload_n 0, []) := by decide +kernel
theorem zi_7_99 : zI 7 99 = some (.getfield 12, [6, 0, 13]) := by decide +kernel
theorem zi_7_102 : zI 7 102 = some (.getfield 80, [0, 0, 14]) := by decide +kernel
theorem zi_7_105 : zI 7 105 = some (.aload_n 0, []) := by decide +kernel
theorem zi_7_106 : zI 7 106 = some (.getfield 29, [6, 3, 25]) := by decide +kernel
theorem zi_7_109 : zI 7 109 = some (.getfield 210, [3, 2, 45]) := by decide +kernel
theorem zi_7_112 : zI 7 112 = some (.iload_n 1, []) := by decide +kernel
theorem zi_7_113 : zI 7 113 = some (.invokevirtual 83, [0, 0, 1, 1, 17, 18, 19, 16, 0, 15]) := by decide +kernel
theorem zi_7_116 : zI 7 116 = some (.invokevirtual 83, [0, 0, 1, 1, 17, 18, 19, 16, 0, 15]) := by decide +kernel
theorem zi_7_119 : zI 7 119 = some (.ireturn, []) := by decide +kernel
theorem zi_7_120 : zI 7 120 = some (.aload_n 0, []) := by decide +kernel
theorem zi_7_121 : zI 7 121 = some (.getfield 12, [6, 0, 13]) := by decide +kernel
theorem zi_7_124 : zI 7 124 = some (.getfield 80, [0, 0, 14]) := by decide +kernel
theorem zi_7_127 : zI 7 127 = some (.aload_n 0, []) := by decide +kernel
theorem zi_7_128 : zI 7 128 = some (.getfield 29, [6, 3, 25]) := by decide +kernel
theorem zi_7_131 : zI 7 131 = some (.getfield 213, [3, 3, 46]) := by decide +kernel
theorem zi_7_134 : zI 7 134 = some (.iload_n 1, []) := by decide +kernel
theorem zi_7_135 : zI 7 135 = some (.invokevirtual 83, [0, 0, 1, 1, 17, 18, 19, 16, 0, 15]) := by decide +kernel
theorem zi_7_138 : zI 7 138 = some (.invokevirtual 83, [0, 0, 1, 1, 17, 18, 19, 16, 0, 15]) := by decide +kernel
theorem zi_7_141 : zI 7 141 = some (.ireturn, []) := by decide +kernel
theorem zi_7_142 : zI 7 142 = some (.aload_n 0, []) := by decide +kernel
theorem zi_7_143 : zI 7 143 = some (.getfield 29, [6, 3, 25]) := by decide +kernel
theorem zi_7_146 : zI 7 146 = some (.getfield 216, [3, 4, 47]) := by decide +kernel
theorem zi_7_149 : zI 7 149 = some (.iload_n 1, []) := by decide +kernel
theorem zi_7_150 : zI 7 150 = some (.invokevirtual 83, [0, 0, 1, 1, 17, 18, 19, 16, 0, 15]) := by decide +kernel
theorem zi_7_153 : zI 7 153 = some (.ireturn, []) := by decide +kernel
theorem zi_7_154 : zI 7 154 = some (.aload_n 0, []) := by decide +kernel
theorem zi_7_155 : zI 7 155 = some (.getfield 29, [6, 3, 25]) := by decide +kernel
theorem zi_7_158 : zI 7 158 = some (.getfield 217, [3, 5, 48]) := by decide +kernel
theorem zi_7_161 : zI 7 161 = some (.iload_n 1, []) := by decide +kernel
theorem zi_7_162 : zI 7 162 = some (.invokevirtual 83, [0, 0, 1, 1, 17, 18, 19, 16, 0, 15]) := by decide +kernel
theorem zi_7_165 : zI 7 165 = some (.ireturn, []) := by decide +kernel
theorem zi_7_166 : zI 7 166 = some (.aload_n 0, []) := by decide +kernel
theorem zi_7_167 : zI 7 167 = some (.getfield 29, [6, 3, 25]) := by decide +kernel
theorem zi_7_170 : zI 7 170 = some (.aload_n 0, []) := by decide +kernel
theorem zi_7_171 : zI 7 171 = some (.getfield 12, [6, 0, 13]) := by decide +kernel
theorem zi_7_174 : zI 7 174 = some (.iload_n 1, []) := by decide +kernel
theorem zi_7_175 : zI 7 175 = some (.invokevirtual 220, [70, 0, 2, 3, 51, 52, 53, 50, 0, 49]) := by decide +kernel
theorem zi_7_178 : zI 7 178 = some (.ireturn, []) := by decide +kernel
theorem zi_7_179 : zI 7 179 = some (.aload_n 0, []) := by decide +kernel
theorem zi_7_180 : zI 7 180 = some (.getfield 29, [6, 3, 25]) := by decide +kernel
theorem zi_7_183 : zI 7 183 = some (.iload_n 1, []) := by decide +kernel
theorem zi_7_184 : zI 7 184 = some (.invokevirtual 224, [26, 0, 1, 3, 56, 57, 53, 55, 0, 54]) := by decide +kernel
theorem zi_7_187 : zI 7 187 = some (.ireturn, []) := by decide +kernel
theorem zi_8_0 : zI 8 0 = some (.aload_n 0, []) := by decide +kernel
theorem zi_8_1 : zI 8 1 = some (.iload_n 1, []) := by decide +kernel
theorem zi_8_2 : zI 8 2 = some (.invokevirtual 167, [14, 0, 1, 6, 60, 61, 9, 59, 0, 58]) := by decide +kernel
theorem zi_8_5 : zI 8 5 = some (.ifCond .ne 13, [18]) := by decide +kernel
theorem zi_8_18 : zI 8 18 = some (.iload_n 2, []) := by decide +kernel
theorem zi_8_19 : zI 8 19 = some (.ifCond .lt 18, [37]) := by decide +kernel
theorem zi_8_22 : zI 8 22 = some (.iload_n 2, []) := by decide +kernel
theorem zi_8_23 : zI 8 23 = some (.aload_n 0, []) := by decide +kernel
theorem zi_8_24 : zI 8 24 = some (.getfield 43, [6, 5, 31]) := by decide +kernel
theorem zi_8_27 : zI 8 27 = some (.getfield 256, [2, 7, 62]) := by decide +kernel
theorem zi_8_30 : zI 8 30 = some (.iload_n 1, []) := by decide +kernel
theorem zi_8_31 : zI 8 31 = some (.invokevirtual 83, [0, 0, 1, 1, 17, 18, 19, 16, 0, 15]) := by decide +kernel
theorem zi_8_34 : zI 8 34 = some (.if_icmp .lt 14, [48]) := by decide +kernel
theorem zi_8_48 : zI 8 48 = some (.iload_n 3, []) := by decide +kernel
theorem zi_8_49 : zI 8 49 = some (.iconst 3, []) := by decide +kernel
theorem zi_8_50 : zI 8 50 = some (.invokestatic 60, [6, 1, 2, 0, 12, 0, 9, 11, 0, 10]) := by decide +kernel
theorem zi_8_53 : zI 8 53 = some (.ifCond .ne 14, [67]) := by decide +kernel
theorem zi_8_67 : zI 8 67 = some (.aload_n 0, []) := by decide +kernel
theorem zi_8_68 : zI 8 68 = some (.getfield 43, [6, 5, 31]) := by decide +kernel
theorem zi_8_71 : zI 8 71 = some (.iload_n 1, []) := by decide +kernel
theorem zi_8_72 : zI 8 72 = some (.iload_n 2, []) := by decide +kernel
theorem zi_8_73 : zI 8 73 = some (.invokevirtual 263, [20, 0, 2, 2, 65, 66, 67, 64, 0, 63]) := by decide +kernel
theorem zi_8_76 : zI 8 76 = some (.istore 4, []) := by decide +kernel
theorem zi_8_78 : zI 8 78 = some (.iload_n 3, []) := by decide +kernel
theorem zi_8_79 : zI 8 79 = some (.tableswitch 50 0 2 #[25, 28, 39], [129, 104, 107, 118]) := by decide +kernel
theorem zi_8_104 : zI 8 104 = some (.iload 4, []) := by decide +kernel
theorem zi_8_106 : zI 8 106 = some (.ireturn, []) := by decide +kernel
theorem zi_8_107 : zI 8 107 = some (.aload_n 0, []) := by decide +kernel
theorem zi_8_108 : zI 8 108 = some (.getfield 43, [6, 5, 31]) := by decide +kernel
theorem zi_8_111 : zI 8 111 = some (.iload_n 1, []) := by decide +kernel
theorem zi_8_112 : zI 8 112 = some (.iload 4, []) := by decide +kernel
theorem zi_8_114 : zI 8 114 = some (.invokevirtual 266, [25, 0, 2, 2, 70, 71, 67, 69, 0, 68]) := by decide +kernel
theorem zi_8_117 : zI 8 117 = some (.ireturn, []) := by decide +kernel
theorem zi_8_118 : zI 8 118 = some (.aload_n 0, []) := by decide +kernel
theorem zi_8_119 : zI 8 119 = some (.getfield 43, [6, 5, 31]) := by decide +kernel
theorem zi_8_122 : zI 8 122 = some (.iload_n 1, []) := by decide +kernel
theorem zi_8_123 : zI 8 123 = some (.iload 4, []) := by decide +kernel
theorem zi_8_125 : zI 8 125 = some (.invokevirtual 269, [34, 0, 2, 2, 74, 75, 67, 73, 0, 72]) := by decide +kernel
theorem zi_8_128 : zI 8 128 = some (.ireturn, []) := by decide +kernel
theorem zi_8_129 : zI 8 129 = some (.aload_n 0, []) := by decide +kernel
theorem zi_8_130 : zI 8 130 = some (.getfield 43, [6, 5, 31]) := by decide +kernel
theorem zi_8_133 : zI 8 133 = some (.iload_n 1, []) := by decide +kernel
theorem zi_8_134 : zI 8 134 = some (.iload 4, []) := by decide +kernel
theorem zi_8_136 : zI 8 136 = some (.invokevirtual 272, [35, 0, 2, 2, 78, 79, 67, 77, 0, 76]) := by decide +kernel
theorem zi_8_139 : zI 8 139 = some (.ireturn, []) := by decide +kernel
theorem zi_10_0 : zI 10 0 = some (.aload_n 0, []) := by decide +kernel
theorem zi_10_1 : zI 10 1 = some (.iload_n 1, []) := by decide +kernel
theorem zi_10_2 : zI 10 2 = some (.invokevirtual 167, [14, 0, 1, 6, 60, 61, 9, 59, 0, 58]) := by decide +kernel
theorem zi_10_5 : zI 10 5 = some (.ifCond .ne 13, [18]) := by decide +kernel
theorem zi_10_18 : zI 10 18 = some (.iload_n 2, []) := by decide +kernel
theorem zi_10_19 : zI 10 19 = some (.iconst 4, []) := by decide +kernel
theorem zi_10_20 : zI 10 20 = some (.invokestatic 60, [6, 1, 2, 0, 12, 0, 9, 11, 0, 10]) := by decide +kernel
theorem zi_10_23 : zI 10 23 = some (.ifCond .ne 13, [36]) := by decide +kernel
theorem zi_10_36 : zI 10 36 = some (.iload_n 2, []) := by decide +kernel
theorem zi_10_37 : zI 10 37 = some (.tableswitch 70 0 3 #[31, 43, 52, 61], [107, 68, 80, 89, 98]) := by decide +kernel
theorem zi_10_68 : zI 10 68 = some (.aload_n 0, []) := by decide +kernel
theorem zi_10_69 : zI 10 69 = some (.getfield 19, [6, 1, 80]) := by decide +kernel
theorem zi_10_72 : zI 10 72 = some (.getfield 174, [5, 0, 81]) := by decide +kernel
theorem zi_10_75 : zI 10 75 = some (.iload_n 1, []) := by decide +kernel
theorem zi_10_76 : zI 10 76 = some (.invokevirtual 83, [0, 0, 1, 1, 17, 18, 19, 16, 0, 15]) := by decide +kernel
theorem zi_10_79 : zI 10 79 = some (.ireturn, []) := by decide +kernel
theorem zi_10_80 : zI 10 80 = some (.aload_n 0, []) := by decide +kernel
theorem zi_10_81 : zI 10 81 = some (.getfield 19, [6, 1, 80]) := by decide +kernel
theorem zi_10_84 : zI 10 84 = some (.iload_n 1, []) := by decide +kernel
theorem zi_10_85 : zI 10 85 = some (.invokevirtual 175, [37, 0, 1, 5, 84, 85, 86, 83, 0, 82]) := by decide +kernel
theorem zi_10_88 : zI 10 88 = some (.ireturn, []) := by decide +kernel
theorem zi_10_89 : zI 10 89 = some (.aload_n 0, []) := by decide +kernel
theorem zi_10_90 : zI 10 90 = some (.getfield 12, [6, 0, 13]) := by decide +kernel
theorem zi_10_93 : zI 10 93 = some (.iload_n 1, []) := by decide +kernel
theorem zi_10_94 : zI 10 94 = some (.invokevirtual 178, [51, 0, 1, 0, 89, 90, 91, 88, 0, 87]) := by decide +kernel
theorem zi_10_97 : zI 10 97 = some (.ireturn, []) := by decide +kernel
theorem zi_10_98 : zI 10 98 = some (.aload_n 0, []) := by decide +kernel
theorem zi_10_99 : zI 10 99 = some (.getfield 12, [6, 0, 13]) := by decide +kernel
theorem zi_10_102 : zI 10 102 = some (.iload_n 1, []) := by decide +kernel
theorem zi_10_103 : zI 10 103 = some (.invokevirtual 181, [52, 0, 1, 0, 94, 95, 91, 93, 0, 92]) := by decide +kernel
theorem zi_10_106 : zI 10 106 = some (.ireturn, []) := by decide +kernel
theorem zi_10_107 : zI 10 107 = some (.aload_n 0, []) := by decide +kernel
theorem zi_10_108 : zI 10 108 = some (.getfield 12, [6, 0, 13]) := by decide +kernel
theorem zi_10_111 : zI 10 111 = some (.iload_n 1, []) := by decide +kernel
theorem zi_10_112 : zI 10 112 = some (.invokevirtual 184, [53, 0, 1, 0, 98, 99, 91, 97, 0, 96]) := by decide +kernel
theorem zi_10_115 : zI 10 115 = some (.ireturn, []) := by decide +kernel
theorem zi_13_0 : zI 13 0 = some (.iload_n 1, []) := by decide +kernel
theorem zi_13_1 : zI 13 1 = some (.ifCond .lt 14, [15]) := by decide +kernel
theorem zi_13_4 : zI 13 4 = some (.iload_n 1, []) := by decide +kernel
theorem zi_13_5 : zI 13 5 = some (.aload_n 0, []) := by decide +kernel
theorem zi_13_6 : zI 13 6 = some (.getfield 36, [6, 4, 102]) := by decide +kernel
theorem zi_13_9 : zI 13 9 = some (.getfield 134, [4, 4, 103]) := by decide +kernel
theorem zi_13_12 : zI 13 12 = some (.if_icmp .lt 13, [25]) := by decide +kernel
theorem zi_13_25 : zI 13 25 = some (.iload_n 2, []) := by decide +kernel
theorem zi_13_26 : zI 13 26 = some (.iconst 2, []) := by decide +kernel
theorem zi_13_27 : zI 13 27 = some (.invokestatic 60, [6, 1, 2, 0, 12, 0, 9, 11, 0, 10]) := by decide +kernel
theorem zi_13_30 : zI 13 30 = some (.ifCond .ne 13, [43]) := by decide +kernel
theorem zi_13_43 : zI 13 43 = some (.iload_n 2, []) := by decide +kernel
theorem zi_13_44 : zI 13 44 = some (.lookupswitch 52 #[(0, 28), (1, 40)], [96, 72, 84]) := by decide +kernel
theorem zi_13_72 : zI 13 72 = some (.aload_n 0, []) := by decide +kernel
theorem zi_13_73 : zI 13 73 = some (.getfield 36, [6, 4, 102]) := by decide +kernel
theorem zi_13_76 : zI 13 76 = some (.getfield 248, [4, 0, 104]) := by decide +kernel
theorem zi_13_79 : zI 13 79 = some (.iload_n 1, []) := by decide +kernel
theorem zi_13_80 : zI 13 80 = some (.invokevirtual 83, [0, 0, 1, 1, 17, 18, 19, 16, 0, 15]) := by decide +kernel
theorem zi_13_83 : zI 13 83 = some (.ireturn, []) := by decide +kernel
theorem zi_13_84 : zI 13 84 = some (.aload_n 0, []) := by decide +kernel
theorem zi_13_85 : zI 13 85 = some (.getfield 36, [6, 4, 102]) := by decide +kernel
theorem zi_13_88 : zI 13 88 = some (.getfield 251, [4, 1, 105]) := by decide +kernel
theorem zi_13_91 : zI 13 91 = some (.iload_n 1, []) := by decide +kernel
theorem zi_13_92 : zI 13 92 = some (.invokevirtual 83, [0, 0, 1, 1, 17, 18, 19, 16, 0, 15]) := by decide +kernel
theorem zi_13_95 : zI 13 95 = some (.ireturn, []) := by decide +kernel
theorem zi_13_96 : zI 13 96 = some (.aload_n 0, []) := by decide +kernel
theorem zi_13_97 : zI 13 97 = some (.getfield 36, [6, 4, 102]) := by decide +kernel
theorem zi_13_100 : zI 13 100 = some (.getfield 253, [4, 2, 106]) := by decide +kernel
theorem zi_13_103 : zI 13 103 = some (.iload_n 1, []) := by decide +kernel
theorem zi_13_104 : zI 13 104 = some (.invokevirtual 83, [0, 0, 1, 1, 17, 18, 19, 16, 0, 15]) := by decide +kernel
theorem zi_13_107 : zI 13 107 = some (.ireturn, []) := by decide +kernel
theorem zi_14_0 : zI 14 0 = some (.iload_n 1, []) := by decide +kernel
theorem zi_14_1 : zI 14 1 = some (.ifCond .lt 18, [19]) := by decide +kernel
theorem zi_14_4 : zI 14 4 = some (.iload_n 1, []) := by decide +kernel
theorem zi_14_5 : zI 14 5 = some (.aload_n 0, []) := by decide +kernel
theorem zi_14_6 : zI 14 6 = some (.getfield 19, [6, 1, 80]) := by decide +kernel
theorem zi_14_9 : zI 14 9 = some (.getfield 126, [5, 2, 107]) := by decide +kernel
theorem zi_14_12 : zI 14 12 = some (.if_icmp .ge 7, [19]) := by decide +kernel
theorem zi_14_15 : zI 14 15 = some (.iconst 1, []) := by decide +kernel
theorem zi_14_16 : zI 14 16 = some (.goto 4, [20]) := by decide +kernel
theorem zi_14_20 : zI 14 20 = some (.ireturn, []) := by decide +kernel
theorem zi_15_0 : zI 15 0 = some (.iload_n 1, []) := by decide +kernel
theorem zi_15_1 : zI 15 1 = some (.iconst 5, []) := by decide +kernel
theorem zi_15_2 : zI 15 2 = some (.invokestatic 60, [6, 1, 2, 0, 12, 0, 9, 11, 0, 10]) := by decide +kernel
theorem zi_15_5 : zI 15 5 = some (.ifCond .ne 13, [18]) := by decide +kernel
theorem zi_15_18 : zI 15 18 = some (.iload_n 1, []) := by decide +kernel
theorem zi_15_19 : zI 15 19 = some (.tableswitch 73 0 4 #[33, 41, 49, 57, 65], [92, 52, 60, 68, 76, 84]) := by decide +kernel
theorem zi_15_52 : zI 15 52 = some (.aload_n 0, []) := by decide +kernel
theorem zi_15_53 : zI 15 53 = some (.getfield 12, [6, 0, 13]) := by decide +kernel
theorem zi_15_56 : zI 15 56 = some (.getfield 71, [0, 7, 108]) := by decide +kernel
theorem zi_15_59 : zI 15 59 = some (.ireturn, []) := by decide +kernel
theorem zi_15_60 : zI 15 60 = some (.aload_n 0, []) := by decide +kernel
theorem zi_15_61 : zI 15 61 = some (.getfield 12, [6, 0, 13]) := by decide +kernel
theorem zi_15_64 : zI 15 64 = some (.getfield 101, [0, 8, 109]) := by decide +kernel
theorem zi_15_67 : zI 15 67 = some (.ireturn, []) := by decide +kernel
theorem zi_15_68 : zI 15 68 = some (.aload_n 0, []) := by decide +kernel
theorem zi_15_69 : zI 15 69 = some (.getfield 19, [6, 1, 80]) := by decide +kernel
theorem zi_15_72 : zI 15 72 = some (.getfield 126, [5, 2, 107]) := by decide +kernel
theorem zi_15_75 : zI 15 75 = some (.ireturn, []) := by decide +kernel
theorem zi_15_76 : zI 15 76 = some (.aload_n 0, []) := by decide +kernel
theorem zi_15_77 : zI 15 77 = some (.getfield 29, [6, 3, 25]) := by decide +kernel
theorem zi_15_80 : zI 15 80 = some (.getfield 129, [3, 8, 110]) := by decide +kernel
theorem zi_15_83 : zI 15 83 = some (.ireturn, []) := by decide +kernel
theorem zi_15_84 : zI 15 84 = some (.aload_n 0, []) := by decide +kernel
theorem zi_15_85 : zI 15 85 = some (.getfield 29, [6, 3, 25]) := by decide +kernel
theorem zi_15_88 : zI 15 88 = some (.invokevirtual 130, [71, 0, 0, 3, 113, 114, 53, 112, 0, 111]) := by decide +kernel
theorem zi_15_91 : zI 15 91 = some (.ireturn, []) := by decide +kernel
theorem zi_15_92 : zI 15 92 = some (.aload_n 0, []) := by decide +kernel
theorem zi_15_93 : zI 15 93 = some (.getfield 36, [6, 4, 102]) := by decide +kernel
theorem zi_15_96 : zI 15 96 = some (.getfield 134, [4, 4, 103]) := by decide +kernel
theorem zi_15_99 : zI 15 99 = some (.ireturn, []) := by decide +kernel
theorem zi_16_0 : zI 16 0 = some (.aload_n 0, []) := by decide +kernel
theorem zi_16_1 : zI 16 1 = some (.iload_n 1, []) := by decide +kernel
theorem zi_16_2 : zI 16 2 = some (.invokevirtual 203, [44, 0, 1, 6, 43, 44, 9, 42, 0, 41]) := by decide +kernel
theorem zi_16_5 : zI 16 5 = some (.ifCond .ne 13, [18]) := by decide +kernel
theorem zi_16_18 : zI 16 18 = some (.iload_n 2, []) := by decide +kernel
theorem zi_16_19 : zI 16 19 = some (.ifCond .lt 18, [37]) := by decide +kernel
theorem zi_16_22 : zI 16 22 = some (.iload_n 2, []) := by decide +kernel
theorem zi_16_23 : zI 16 23 = some (.aload_n 0, []) := by decide +kernel
theorem zi_16_24 : zI 16 24 = some (.getfield 29, [6, 3, 25]) := by decide +kernel
theorem zi_16_27 : zI 16 27 = some (.getfield 216, [3, 4, 47]) := by decide +kernel
theorem zi_16_30 : zI 16 30 = some (.iload_n 1, []) := by decide +kernel
theorem zi_16_31 : zI 16 31 = some (.invokevirtual 83, [0, 0, 1, 1, 17, 18, 19, 16, 0, 15]) := by decide +kernel
theorem zi_16_34 : zI 16 34 = some (.if_icmp .lt 13, [47]) := by decide +kernel
theorem zi_16_47 : zI 16 47 = some (.aload_n 0, []) := by decide +kernel
theorem zi_16_48 : zI 16 48 = some (.getfield 29, [6, 3, 25]) := by decide +kernel
theorem zi_16_51 : zI 16 51 = some (.iload_n 1, []) := by decide +kernel
theorem zi_16_52 : zI 16 52 = some (.iload_n 2, []) := by decide +kernel
theorem zi_16_53 : zI 16 53 = some (.invokevirtual 229, [69, 0, 2, 3, 117, 118, 53, 116, 0, 115]) := by decide +kernel
theorem zi_16_56 : zI 16 56 = some (.ireturn, []) := by decide +kernel
theorem zi_21_0 : zI 21 0 = some (.iload_n 1, []) := by decide +kernel
theorem zi_21_1 : zI 21 1 = some (.ifCond .lt 18, [19]) := by decide +kernel
theorem zi_21_4 : zI 21 4 = some (.iload_n 1, []) := by decide +kernel
theorem zi_21_5 : zI 21 5 = some (.aload_n 0, []) := by decide +kernel
theorem zi_21_6 : zI 21 6 = some (.getfield 12, [6, 0, 13]) := by decide +kernel
theorem zi_21_9 : zI 21 9 = some (.getfield 71, [0, 7, 108]) := by decide +kernel
theorem zi_21_12 : zI 21 12 = some (.if_icmp .ge 7, [19]) := by decide +kernel
theorem zi_21_15 : zI 21 15 = some (.iconst 1, []) := by decide +kernel
theorem zi_21_16 : zI 21 16 = some (.goto 4, [20]) := by decide +kernel
theorem zi_21_20 : zI 21 20 = some (.ireturn, []) := by decide +kernel
theorem zi_27_0 : zI 27 0 = some (.aload_n 0, []) := by decide +kernel
theorem zi_27_1 : zI 27 1 = some (.getfield 29, [6, 3, 25]) := by decide +kernel
theorem zi_27_4 : zI 27 4 = some (.invokevirtual 232, [73, 0, 0, 3, 150, 151, 53, 149, 0, 148]) := by decide +kernel
theorem zi_27_7 : zI 27 7 = some (.ireturn, []) := by decide +kernel
theorem zi_28_0 : zI 28 0 = some (.aload_n 0, []) := by decide +kernel
theorem zi_28_1 : zI 28 1 = some (.iload_n 1, []) := by decide +kernel
theorem zi_28_2 : zI 28 2 = some (.invokevirtual 167, [14, 0, 1, 6, 60, 61, 9, 59, 0, 58]) := by decide +kernel
theorem zi_28_5 : zI 28 5 = some (.ifCond .ne 13, [18]) := by decide +kernel
theorem zi_28_18 : zI 28 18 = some (.aload_n 0, []) := by decide +kernel
theorem zi_28_19 : zI 28 19 = some (.getfield 43, [6, 5, 31]) := by decide +kernel
theorem zi_28_22 : zI 28 22 = some (.getfield 256, [2, 7, 62]) := by decide +kernel
theorem zi_28_25 : zI 28 25 = some (.iload_n 1, []) := by decide +kernel
theorem zi_28_26 : zI 28 26 = some (.invokevirtual 83, [0, 0, 1, 1, 17, 18, 19, 16, 0, 15]) := by decide +kernel
theorem zi_28_29 : zI 28 29 = some (.ireturn, []) := by decide +kernel
theorem zi_40_0 : zI 40 0 = some (.aload_n 0, []) := by decide +kernel
theorem zi_40_1 : zI 40 1 = some (.iload_n 1, []) := by decide +kernel
theorem zi_40_2 : zI 40 2 = some (.invokevirtual 167, [14, 0, 1, 6, 60, 61, 9, 59, 0, 58]) := by decide +kernel
theorem zi_40_5 : zI 40 5 = some (.ifCond .ne 13, [18]) := by decide +kernel
theorem zi_40_18 : zI 40 18 = some (.iload_n 2, []) := by decide +kernel
theorem zi_40_19 : zI 40 19 = some (.ifCond .lt 18, [37]) := by decide +kernel
theorem zi_40_22 : zI 40 22 = some (.iload_n 2, []) := by decide +kernel
theorem zi_40_23 : zI 40 23 = some (.aload_n 0, []) := by decide +kernel
theorem zi_40_24 : zI 40 24 = some (.getfield 19, [6, 1, 80]) := by decide +kernel
theorem zi_40_27 : zI 40 27 = some (.getfield 174, [5, 0, 81]) := by decide +kernel
theorem zi_40_30 : zI 40 30 = some (.iload_n 1, []) := by decide +kernel
theorem zi_40_31 : zI 40 31 = some (.invokevirtual 83, [0, 0, 1, 1, 17, 18, 19, 16, 0, 15]) := by decide +kernel
theorem zi_40_34 : zI 40 34 = some (.if_icmp .lt 13, [47]) := by decide +kernel
theorem zi_40_47 : zI 40 47 = some (.aload_n 0, []) := by decide +kernel
theorem zi_40_48 : zI 40 48 = some (.getfield 19, [6, 1, 80]) := by decide +kernel
theorem zi_40_51 : zI 40 51 = some (.iload_n 1, []) := by decide +kernel
theorem zi_40_52 : zI 40 52 = some (.iload_n 2, []) := by decide +kernel
theorem zi_40_53 : zI 40 53 = some (.invokevirtual 189, [19, 0, 2, 5, 209, 210, 86, 208, 0, 216]) := by decide +kernel
theorem zi_40_56 : zI 40 56 = some (.ireturn, []) := by decide +kernel
theorem zi_41_0 : zI 41 0 = some (.aload_n 0, []) := by decide +kernel
theorem zi_41_1 : zI 41 1 = some (.iload_n 1, []) := by decide +kernel
theorem zi_41_2 : zI 41 2 = some (.invokevirtual 167, [14, 0, 1, 6, 60, 61, 9, 59, 0, 58]) := by decide +kernel
theorem zi_41_5 : zI 41 5 = some (.ifCond .ne 13, [18]) := by decide +kernel
theorem zi_41_18 : zI 41 18 = some (.aload_n 0, []) := by decide +kernel
theorem zi_41_19 : zI 41 19 = some (.getfield 19, [6, 1, 80]) := by decide +kernel
theorem zi_41_22 : zI 41 22 = some (.iload_n 1, []) := by decide +kernel
theorem zi_41_23 : zI 41 23 = some (.iload_n 2, []) := by decide +kernel
theorem zi_41_24 : zI 41 24 = some (.invokevirtual 192, [38, 0, 2, 5, 219, 220, 86, 218, 0, 217]) := by decide +kernel
theorem zi_41_27 : zI 41 27 = some (.istore_n 3, []) := by decide +kernel
theorem zi_41_28 : zI 41 28 = some (.iload_n 3, []) := by decide +kernel
theorem zi_41_29 : zI 41 29 = some (.iconst (-1), []) := by decide +kernel
theorem zi_41_30 : zI 41 30 = some (.if_icmp .ne 13, [43]) := by decide +kernel
theorem zi_41_43 : zI 41 43 = some (.aload_n 0, []) := by decide +kernel
theorem zi_41_44 : zI 41 44 = some (.getfield 12, [6, 0, 13]) := by decide +kernel
theorem zi_41_47 : zI 41 47 = some (.iload_n 1, []) := by decide +kernel
theorem zi_41_48 : zI 41 48 = some (.iload_n 3, []) := by decide +kernel
theorem zi_41_49 : zI 41 49 = some (.invokevirtual 197, [54, 0, 2, 0, 223, 224, 91, 222, 0, 221]) := by decide +kernel
theorem zi_41_52 : zI 41 52 = some (.ireturn, []) := by decide +kernel
theorem zi_42_0 : zI 42 0 = some (.aload_n 0, []) := by decide +kernel
theorem zi_42_1 : zI 42 1 = some (.iload_n 1, []) := by decide +kernel
theorem zi_42_2 : zI 42 2 = some (.invokevirtual 135, [21, 0, 1, 6, 7, 8, 9, 6, 0, 5]) := by decide +kernel
theorem zi_42_5 : zI 42 5 = some (.ifCond .ne 13, [18]) := by decide +kernel
theorem zi_42_18 : zI 42 18 = some (.aload_n 0, []) := by decide +kernel
theorem zi_42_19 : zI 42 19 = some (.getfield 43, [6, 5, 31]) := by decide +kernel
theorem zi_42_22 : zI 42 22 = some (.aload_n 0, []) := by decide +kernel
theorem zi_42_23 : zI 42 23 = some (.getfield 12, [6, 0, 13]) := by decide +kernel
theorem zi_42_26 : zI 42 26 = some (.iload_n 1, []) := by decide +kernel
theorem zi_42_27 : zI 42 27 = some (.aload_n 0, []) := by decide +kernel
theorem zi_42_28 : zI 42 28 = some (.getfield 52, [6, 6, 27]) := by decide +kernel
theorem zi_42_31 : zI 42 31 = some (.iconst 3, []) := by decide +kernel
theorem zi_42_32 : zI 42 32 = some (.invokevirtual 83, [0, 0, 1, 1, 17, 18, 19, 16, 0, 15]) := by decide +kernel
theorem zi_42_35 : zI 42 35 = some (.invokevirtual 275, [61, 0, 3, 2, 227, 228, 67, 226, 0, 225]) := by decide +kernel
theorem zi_42_38 : zI 42 38 = some (.ireturn, []) := by decide +kernel
theorem zi_44_0 : zI 44 0 = some (.iload_n 1, []) := by decide +kernel
theorem zi_44_1 : zI 44 1 = some (.ifCond .lt 18, [19]) := by decide +kernel
theorem zi_44_4 : zI 44 4 = some (.iload_n 1, []) := by decide +kernel
theorem zi_44_5 : zI 44 5 = some (.aload_n 0, []) := by decide +kernel
theorem zi_44_6 : zI 44 6 = some (.getfield 29, [6, 3, 25]) := by decide +kernel
theorem zi_44_9 : zI 44 9 = some (.getfield 129, [3, 8, 110]) := by decide +kernel
theorem zi_44_12 : zI 44 12 = some (.if_icmp .ge 7, [19]) := by decide +kernel
theorem zi_44_15 : zI 44 15 = some (.iconst 1, []) := by decide +kernel
theorem zi_44_16 : zI 44 16 = some (.goto 4, [20]) := by decide +kernel
theorem zi_44_20 : zI 44 20 = some (.ireturn, []) := by decide +kernel
theorem zi_87_0 : zI 87 0 = some (.aload_n 0, []) := by decide +kernel
theorem zi_87_1 : zI 87 1 = some (.iload_n 1, []) := by decide +kernel
theorem zi_87_2 : zI 87 2 = some (.invokevirtual 135, [21, 0, 1, 6, 7, 8, 9, 6, 0, 5]) := by decide +kernel
theorem zi_87_5 : zI 87 5 = some (.ifCond .ne 13, [18]) := by decide +kernel
theorem zi_87_18 : zI 87 18 = some (.iload_n 2, []) := by decide +kernel
theorem zi_87_19 : zI 87 19 = some (.ifCond .lt 18, [37]) := by decide +kernel
theorem zi_87_22 : zI 87 22 = some (.iload_n 2, []) := by decide +kernel
theorem zi_87_23 : zI 87 23 = some (.aload_n 0, []) := by decide +kernel
theorem zi_87_24 : zI 87 24 = some (.getfield 12, [6, 0, 13]) := by decide +kernel
theorem zi_87_27 : zI 87 27 = some (.getfield 98, [0, 3, 22]) := by decide +kernel
theorem zi_87_30 : zI 87 30 = some (.iload_n 1, []) := by decide +kernel
theorem zi_87_31 : zI 87 31 = some (.invokevirtual 83, [0, 0, 1, 1, 17, 18, 19, 16, 0, 15]) := by decide +kernel
theorem zi_87_34 : zI 87 34 = some (.if_icmp .lt 13, [47]) := by decide +kernel
theorem zi_87_47 : zI 87 47 = some (.aload_n 0, []) := by decide +kernel
theorem zi_87_48 : zI 87 48 = some (.getfield 12, [6, 0, 13]) := by decide +kernel
theorem zi_87_51 : zI 87 51 = some (.iload_n 1, []) := by decide +kernel
theorem zi_87_52 : zI 87 52 = some (.iload_n 2, []) := by decide +kernel
theorem zi_87_53 : zI 87 53 = some (.invokevirtual 164, [11, 0, 2, 0, 214, 215, 91, 213, 0, 450]) := by decide +kernel
theorem zi_87_56 : zI 87 56 = some (.ireturn, []) := by decide +kernel
theorem zi_88_0 : zI 88 0 = some (.aload_n 0, []) := by decide +kernel
theorem zi_88_1 : zI 88 1 = some (.iload_n 1, []) := by decide +kernel
theorem zi_88_2 : zI 88 2 = some (.invokevirtual 135, [21, 0, 1, 6, 7, 8, 9, 6, 0, 5]) := by decide +kernel
theorem zi_88_5 : zI 88 5 = some (.ifCond .ne 13, [18]) := by decide +kernel
theorem zi_88_18 : zI 88 18 = some (.aload_n 0, []) := by decide +kernel
theorem zi_88_19 : zI 88 19 = some (.iload_n 2, []) := by decide +kernel
theorem zi_88_20 : zI 88 20 = some (.invokevirtual 167, [14, 0, 1, 6, 60, 61, 9, 59, 0, 58]) := by decide +kernel
theorem zi_88_23 : zI 88 23 = some (.ifCond .ne 13, [36]) := by decide +kernel
theorem zi_88_36 : zI 88 36 = some (.aload_n 0, []) := by decide +kernel
theorem zi_88_37 : zI 88 37 = some (.getfield 19, [6, 1, 80]) := by decide +kernel
theorem zi_88_40 : zI 88 40 = some (.aload_n 0, []) := by decide +kernel
theorem zi_88_41 : zI 88 41 = some (.getfield 12, [6, 0, 13]) := by decide +kernel
theorem zi_88_44 : zI 88 44 = some (.iload_n 1, []) := by decide +kernel
theorem zi_88_45 : zI 88 45 = some (.iload_n 2, []) := by decide +kernel
theorem zi_88_46 : zI 88 46 = some (.invokevirtual 200, [39, 0, 3, 5, 394, 395, 86, 393, 0, 451]) := by decide +kernel
theorem zi_88_49 : zI 88 49 = some (.ireturn, []) := by decide +kernel
theorem zi_90_0 : zI 90 0 = some (.aload_n 0, []) := by decide +kernel
theorem zi_90_1 : zI 90 1 = some (.iload_n 1, []) := by decide +kernel
theorem zi_90_2 : zI 90 2 = some (.invokevirtual 167, [14, 0, 1, 6, 60, 61, 9, 59, 0, 58]) := by decide +kernel
theorem zi_90_5 : zI 90 5 = some (.ifCond .ne 13, [18]) := by decide +kernel
theorem zi_90_18 : zI 90 18 = some (.iload_n 2, []) := by decide +kernel
theorem zi_90_19 : zI 90 19 = some (.ifCond .ge 13, [32]) := by decide +kernel
theorem zi_90_32 : zI 90 32 = some (.aload_n 0, []) := by decide +kernel
theorem zi_90_33 : zI 90 33 = some (.getfield 12, [6, 0, 13]) := by decide +kernel
theorem zi_90_36 : zI 90 36 = some (.iload_n 1, []) := by decide +kernel
theorem zi_90_37 : zI 90 37 = some (.iload_n 2, []) := by decide +kernel
theorem zi_90_38 : zI 90 38 = some (.iload_n 2, []) := by decide +kernel
theorem zi_90_39 : zI 90 39 = some (.aload_n 0, []) := by decide +kernel
theorem zi_90_40 : zI 90 40 = some (.getfield 52, [6, 6, 27]) := by decide +kernel
theorem zi_90_43 : zI 90 43 = some (.iconst 2, []) := by decide +kernel
theorem zi_90_44 : zI 90 44 = some (.invokevirtual 83, [0, 0, 1, 1, 17, 18, 19, 16, 0, 15]) := by decide +kernel
theorem zi_90_47 : zI 90 47 = some (.invokevirtual 240, [31, 0, 4, 0, 384, 385, 91, 383, 0, 456]) := by decide +kernel
theorem zi_90_50 : zI 90 50 = some (.ireturn, []) := by decide +kernel
theorem zi_91_0 : zI 91 0 = some (.iload_n 1, []) := by decide +kernel
theorem zi_91_1 : zI 91 1 = some (.sipush 1000, []) := by decide +kernel
theorem zi_91_4 : zI 91 4 = some (.invokestatic 60, [6, 1, 2, 0, 12, 0, 9, 11, 0, 10]) := by decide +kernel
theorem zi_91_7 : zI 91 7 = some (.ifCond .ne 14, [21]) := by decide +kernel
theorem zi_91_21 : zI 91 21 = some (.iconst 0, []) := by decide +kernel
theorem zi_91_22 : zI 91 22 = some (.istore_n 2, []) := by decide +kernel
theorem zi_91_23 : zI 91 23 = some (.iconst 0, []) := by decide +kernel
theorem zi_91_24 : zI 91 24 = some (.istore_n 3, []) := by decide +kernel
theorem zi_91_25 : zI 91 25 = some (.iload_n 3, []) := by decide +kernel
theorem zi_91_26 : zI 91 26 = some (.aload_n 0, []) := by decide +kernel
theorem zi_91_27 : zI 91 27 = some (.getfield 12, [6, 0, 13]) := by decide +kernel
theorem zi_91_30 : zI 91 30 = some (.getfield 71, [0, 7, 108]) := by decide +kernel
theorem zi_91_33 : zI 91 33 = some (.if_icmp .ge 39, [72]) := by decide +kernel
theorem zi_91_36 : zI 91 36 = some (.aload_n 0, []) := by decide +kernel
theorem zi_91_37 : zI 91 37 = some (.getfield 12, [6, 0, 13]) := by decide +kernel
theorem zi_91_40 : zI 91 40 = some (.getfield 152, [0, 6, 24]) := by decide +kernel
theorem zi_91_43 : zI 91 43 = some (.iload_n 3, []) := by decide +kernel
theorem zi_91_44 : zI 91 44 = some (.invokevirtual 83, [0, 0, 1, 1, 17, 18, 19, 16, 0, 15]) := by decide +kernel
theorem zi_91_47 : zI 91 47 = some (.ifCond .lt 19, [66]) := by decide +kernel
theorem zi_91_50 : zI 91 50 = some (.aload_n 0, []) := by decide +kernel
theorem zi_91_51 : zI 91 51 = some (.getfield 12, [6, 0, 13]) := by decide +kernel
theorem zi_91_54 : zI 91 54 = some (.iload_n 3, []) := by decide +kernel
theorem zi_91_55 : zI 91 55 = some (.iload_n 1, []) := by decide +kernel
theorem zi_91_56 : zI 91 56 = some (.invokevirtual 282, [32, 0, 2, 0, 341, 342, 91, 340, 0, 457]) := by decide +kernel
theorem zi_91_59 : zI 91 59 = some (.iconst (-1), []) := by decide +kernel
theorem zi_91_60 : zI 91 60 = some (.if_icmp .ne 6, [66]) := by decide +kernel
theorem zi_91_63 : zI 91 63 = some (.iinc 2 1, []) := by decide +kernel
theorem zi_91_66 : zI 91 66 = some (.iinc 3 1, []) := by decide +kernel
theorem zi_91_69 : zI 91 69 = some (.goto (-44), [25]) := by decide +kernel
theorem zi_91_72 : zI 91 72 = some (.iload_n 2, []) := by decide +kernel
theorem zi_91_73 : zI 91 73 = some (.ireturn, []) := by decide +kernel
/-! what is asked of a Nightjar at rest -/
section
variable {b : Nat} {F : Nat → Nat → Int32} {g : Nat → Nat} {h : zH} {x : Nat → Nat} {sh gp wi bk : Nat}
theorem c_hasLine (hb : b + 71 ≤ h.length) (l : Nat) (hl : l < g 0) (hn : g 0 ≤ 70) : zcalls zTB 21 [.ref b, .int (nI l)] (nput b F g h) (some (.int 1), nput b F g h) := by
  refine zcalls_of (Nat.le_of_ble_eq_true rfl) ?_
  show zruns zTB 21 0 [some (.ref b), some (.int (nI l))] [] _ _
  refine zr_iload_n (pc' := 1) zi_21_0 rfl rfl ?_
  refine zr_if (pc' := 4) zi_21_1 rfl (fun h1 => ?_) (fun h1 => ?_)
  · replace h1 := zx_lt_t h1
    exact absurd h1 (nI_pos (by omega))
  · replace h1 := zx_lt_f h1
    refine zr_iload_n (pc' := 5) zi_21_4 rfl rfl ?_
    refine zr_aload_n (pc' := 6) zi_21_5 rfl rfl ?_
    refine zr_get (pc' := 9) zi_21_6 (nput_at hb (k := 0) rfl) rfl rfl ?_
    refine zr_get (pc' := 12) zi_21_9 (nput_at hb (k := 1) rfl) rfl rfl ?_
    refine zr_icmp (pc' := 15) zi_21_12 rfl (fun h12 => ?_) (fun h12 => ?_)
    · replace h12 := zc_ge_t (by omega) (by omega) h12
      omega
    · replace h12 := zc_ge_f (by omega) (by omega) h12
      refine zr_iconst (v := (nI 1)) (pc' := 16) zi_21_15 rfl rfl ?_
      refine zr_goto zi_21_16 ?_
      exact zr_zreturn zi_21_20 rfl (by decide)
theorem c_hasTemplate (hb : b + 71 ≤ h.length) (l : Nat) (hl : l < g 2) (hn : g 2 ≤ 20) : zcalls zTB 14 [.ref b, .int (nI l)] (nput b F g h) (some (.int 1), nput b F g h) := by
  refine zcalls_of (Nat.le_of_ble_eq_true rfl) ?_
  show zruns zTB 14 0 [some (.ref b), some (.int (nI l))] [] _ _
  refine zr_iload_n (pc' := 1) zi_14_0 rfl rfl ?_
  refine zr_if (pc' := 4) zi_14_1 rfl (fun h1 => ?_) (fun h1 => ?_)
  · replace h1 := zx_lt_t h1
    exact absurd h1 (nI_pos (by omega))
  · replace h1 := zx_lt_f h1
    refine zr_iload_n (pc' := 5) zi_14_4 rfl rfl ?_
    refine zr_aload_n (pc' := 6) zi_14_5 rfl rfl ?_
    refine zr_get (pc' := 9) zi_14_6 (nput_at hb (k := 0) rfl) rfl rfl ?_
    refine zr_get (pc' := 12) zi_14_9 (nput_at hb (k := 16) rfl) rfl rfl ?_
    refine zr_icmp (pc' := 15) zi_14_12 rfl (fun h12 => ?_) (fun h12 => ?_)
    · replace h12 := zc_ge_t (by omega) (by omega) h12
      omega
    · replace h12 := zc_ge_f (by omega) (by omega) h12
      refine zr_iconst (v := (nI 1)) (pc' := 16) zi_14_15 rfl rfl ?_
      refine zr_goto zi_14_16 ?_
      exact zr_zreturn zi_14_20 rfl (by decide)
theorem c_hasSession (hb : b + 71 ≤ h.length) (l : Nat) (hl : l < g 4) (hn : g 4 ≤ 70) : zcalls zTB 44 [.ref b, .int (nI l)] (nput b F g h) (some (.int 1), nput b F g h) := by
  refine zcalls_of (Nat.le_of_ble_eq_true rfl) ?_
  show zruns zTB 44 0 [some (.ref b), some (.int (nI l))] [] _ _
  refine zr_iload_n (pc' := 1) zi_44_0 rfl rfl ?_
  refine zr_if (pc' := 4) zi_44_1 rfl (fun h1 => ?_) (fun h1 => ?_)
  · replace h1 := zx_lt_t h1
    exact absurd h1 (nI_pos (by omega))
  · replace h1 := zx_lt_f h1
    refine zr_iload_n (pc' := 5) zi_44_4 rfl rfl ?_
    refine zr_aload_n (pc' := 6) zi_44_5 rfl rfl ?_
    refine zr_get (pc' := 9) zi_44_6 (nput_at hb (k := 0) rfl) rfl rfl ?_
    refine zr_get (pc' := 12) zi_44_9 (nput_at hb (k := 26) rfl) rfl rfl ?_
    refine zr_icmp (pc' := 15) zi_44_12 rfl (fun h12 => ?_) (fun h12 => ?_)
    · replace h12 := zc_ge_t (by omega) (by omega) h12
      omega
    · replace h12 := zc_ge_f (by omega) (by omega) h12
      refine zr_iconst (v := (nI 1)) (pc' := 16) zi_44_15 rfl rfl ?_
      refine zr_goto zi_44_16 ?_
      exact zr_zreturn zi_44_20 rfl (by decide)
theorem zOk.S70 (q : zOk F g x sh gp wi bk) : g 4 ≤ 70 := by
  obtain ⟨C, Z, qs⟩ := q.to.se
  exact Nat.le_trans qs.le q.nb.n70
theorem c_many0 (hb : b + 71 ≤ h.length) (q : zOk F g x sh gp wi bk) : zcalls zTB 15 [.ref b, .int (nI 0)] (nput b F g h) (some (.int (nI (g 0))), nput b F g h) := by
  refine zcalls_of (Nat.le_of_ble_eq_true rfl) ?_
  show zruns zTB 15 0 [some (.ref b), some (.int (nI 0))] [] _ _
  refine zr_iload_n (pc' := 1) zi_15_0 rfl rfl ?_
  refine zr_iconst (v := (nI 5)) (pc' := 2) zi_15_1 rfl rfl ?_
  refine zr_s2 (pc' := 5) zi_15_2 rfl (c_inN _ _ (by omega) (by omega)) rfl ?_
  refine zr_if (pc' := 8) zi_15_5 rfl (fun h5 => ?_) (fun h5 => ?_)
  · replace h5 := zc_ne_t h5
    refine zr_iload_n (pc' := 19) zi_15_18 rfl rfl ?_
    refine zr_table_in zi_15_19 0 (by decide) (by decide) rfl ?_
    refine zr_aload_n (pc' := 53) zi_15_52 rfl rfl ?_
    refine zr_get (pc' := 56) zi_15_53 (nput_at hb (k := 0) rfl) rfl rfl ?_
    refine zr_get (pc' := 59) zi_15_56 (nput_at hb (k := 1) rfl) rfl rfl ?_
    exact zr_ireturn zi_15_59 rfl
  · replace h5 := zc_ne_f h5
    exact absurd h5 (by decide)
    
theorem c_many1 (hb : b + 71 ≤ h.length) (q : zOk F g x sh gp wi bk) : zcalls zTB 15 [.ref b, .int (nI 1)] (nput b F g h) (some (.int (nI (g 1))), nput b F g h) := by
  refine zcalls_of (Nat.le_of_ble_eq_true rfl) ?_
  show zruns zTB 15 0 [some (.ref b), some (.int (nI 1))] [] _ _
  refine zr_iload_n (pc' := 1) zi_15_0 rfl rfl ?_
  refine zr_iconst (v := (nI 5)) (pc' := 2) zi_15_1 rfl rfl ?_
  refine zr_s2 (pc' := 5) zi_15_2 rfl (c_inN _ _ (by omega) (by omega)) rfl ?_
  refine zr_if (pc' := 8) zi_15_5 rfl (fun h5 => ?_) (fun h5 => ?_)
  · replace h5 := zc_ne_t h5
    refine zr_iload_n (pc' := 19) zi_15_18 rfl rfl ?_
    refine zr_table_in zi_15_19 1 (by decide) (by decide) rfl ?_
    refine zr_aload_n (pc' := 61) zi_15_60 rfl rfl ?_
    refine zr_get (pc' := 64) zi_15_61 (nput_at hb (k := 0) rfl) rfl rfl ?_
    refine zr_get (pc' := 67) zi_15_64 (nput_at hb (k := 1) rfl) rfl rfl ?_
    exact zr_ireturn zi_15_67 rfl
  · replace h5 := zc_ne_f h5
    exact absurd h5 (by decide)
    
theorem c_many2 (hb : b + 71 ≤ h.length) (q : zOk F g x sh gp wi bk) : zcalls zTB 15 [.ref b, .int (nI 2)] (nput b F g h) (some (.int (nI (g 2))), nput b F g h) := by
  refine zcalls_of (Nat.le_of_ble_eq_true rfl) ?_
  show zruns zTB 15 0 [some (.ref b), some (.int (nI 2))] [] _ _
  refine zr_iload_n (pc' := 1) zi_15_0 rfl rfl ?_
  refine zr_iconst (v := (nI 5)) (pc' := 2) zi_15_1 rfl rfl ?_
  refine zr_s2 (pc' := 5) zi_15_2 rfl (c_inN _ _ (by omega) (by omega)) rfl ?_
  refine zr_if (pc' := 8) zi_15_5 rfl (fun h5 => ?_) (fun h5 => ?_)
  · replace h5 := zc_ne_t h5
    refine zr_iload_n (pc' := 19) zi_15_18 rfl rfl ?_
    refine zr_table_in zi_15_19 2 (by decide) (by decide) rfl ?_
    refine zr_aload_n (pc' := 69) zi_15_68 rfl rfl ?_
    refine zr_get (pc' := 72) zi_15_69 (nput_at hb (k := 0) rfl) rfl rfl ?_
    refine zr_get (pc' := 75) zi_15_72 (nput_at hb (k := 16) rfl) rfl rfl ?_
    exact zr_ireturn zi_15_75 rfl
  · replace h5 := zc_ne_f h5
    exact absurd h5 (by decide)
    
theorem c_many3 (hb : b + 71 ≤ h.length) (q : zOk F g x sh gp wi bk) : zcalls zTB 15 [.ref b, .int (nI 3)] (nput b F g h) (some (.int (nI (g 4))), nput b F g h) := by
  refine zcalls_of (Nat.le_of_ble_eq_true rfl) ?_
  show zruns zTB 15 0 [some (.ref b), some (.int (nI 3))] [] _ _
  refine zr_iload_n (pc' := 1) zi_15_0 rfl rfl ?_
  refine zr_iconst (v := (nI 5)) (pc' := 2) zi_15_1 rfl rfl ?_
  refine zr_s2 (pc' := 5) zi_15_2 rfl (c_inN _ _ (by omega) (by omega)) rfl ?_
  refine zr_if (pc' := 8) zi_15_5 rfl (fun h5 => ?_) (fun h5 => ?_)
  · replace h5 := zc_ne_t h5
    refine zr_iload_n (pc' := 19) zi_15_18 rfl rfl ?_
    refine zr_table_in zi_15_19 3 (by decide) (by decide) rfl ?_
    refine zr_aload_n (pc' := 77) zi_15_76 rfl rfl ?_
    refine zr_get (pc' := 80) zi_15_77 (nput_at hb (k := 0) rfl) rfl rfl ?_
    refine zr_get (pc' := 83) zi_15_80 (nput_at hb (k := 26) rfl) rfl rfl ?_
    exact zr_ireturn zi_15_83 rfl
  · replace h5 := zc_ne_f h5
    exact absurd h5 (by decide)
    
theorem c_many4 (hb : b + 71 ≤ h.length) (q : zOk F g x sh gp wi bk) : zcalls zTB 15 [.ref b, .int (nI 4)] (nput b F g h) (some (.int (nI (zcnt (zbrk F) (g 4)))), nput b F g h) := by
  refine zcalls_of (Nat.le_of_ble_eq_true rfl) ?_
  show zruns zTB 15 0 [some (.ref b), some (.int (nI 4))] [] _ _
  refine zr_iload_n (pc' := 1) zi_15_0 rfl rfl ?_
  refine zr_iconst (v := (nI 5)) (pc' := 2) zi_15_1 rfl rfl ?_
  refine zr_s2 (pc' := 5) zi_15_2 rfl (c_inN _ _ (by omega) (by omega)) rfl ?_
  refine zr_if (pc' := 8) zi_15_5 rfl (fun h5 => ?_) (fun h5 => ?_)
  · replace h5 := zc_ne_t h5
    refine zr_iload_n (pc' := 19) zi_15_18 rfl rfl ?_
    refine zr_table_in zi_15_19 4 (by decide) (by decide) rfl ?_
    refine zr_aload_n (pc' := 85) zi_15_84 rfl rfl ?_
    refine zr_get (pc' := 88) zi_15_85 (nput_at hb (k := 0) rfl) rfl rfl ?_
    refine zr_v0 (pc' := 91) zi_15_88 (nput_at hb (k := 26) rfl) rfl (c_howManyBroken hb q.S70) rfl ?_
    exact zr_ireturn zi_15_91 rfl
  · replace h5 := zc_ne_f h5
    exact absurd h5 (by decide)
theorem c_many5 (hb : b + 71 ≤ h.length) (q : zOk F g x sh gp wi bk) : zcalls zTB 15 [.ref b, .int (nI 5)] (nput b F g h) (some (.int (nI (g 5))), nput b F g h) := by
  refine zcalls_of (Nat.le_of_ble_eq_true rfl) ?_
  show zruns zTB 15 0 [some (.ref b), some (.int (nI 5))] [] _ _
  refine zr_iload_n (pc' := 1) zi_15_0 rfl rfl ?_
  refine zr_iconst (v := (nI 5)) (pc' := 2) zi_15_1 rfl rfl ?_
  refine zr_s2 (pc' := 5) zi_15_2 rfl (c_inN _ _ (by omega) (by omega)) rfl ?_
  refine zr_if (pc' := 8) zi_15_5 rfl (fun h5 => ?_) (fun h5 => ?_)
  · replace h5 := zc_ne_t h5
    refine zr_iload_n (pc' := 19) zi_15_18 rfl rfl ?_
    refine zr_table_out zi_15_19 (by decide) ?_
    refine zr_aload_n (pc' := 93) zi_15_92 rfl rfl ?_
    refine zr_get (pc' := 96) zi_15_93 (nput_at hb (k := 0) rfl) rfl rfl ?_
    refine zr_get (pc' := 99) zi_15_96 (nput_at hb (k := 43) rfl) rfl rfl ?_
    exact zr_ireturn zi_15_99 rfl
  · replace h5 := zc_ne_f h5
    exact absurd h5 (by decide)
    
theorem c_quoP {H : zH} (x o : Nat) (hx : x < 2 ^ 31) (h0 : 0 < o) (ho : o < 2 ^ 31) : zcalls zTB 17 [.int (nI x), .int (nI o)] H (some (.int (nI (x / o))), H) := by
  have hc := c_quo (H := H) x o hx ho
  rw [if_neg (by omega)] at hc
  exact hc
theorem c_ofLine0 (hb : b + 71 ≤ h.length) (q : zOk F g x sh gp wi bk) (l : Nat) (hl : l < g 0) : zcalls zTB 3 [.ref b, .int (nI l), .int (nI 0)] (nput b F g h) (some (.int (F 0 l)), nput b F g h) := by
  have hn := q.nb.n70
  refine zcalls_of (Nat.le_of_ble_eq_true rfl) ?_
  show zruns zTB 3 0 [some (.ref b), some (.int (nI l)), some (.int (nI 0))] [] _ _
  refine zr_aload_n (pc' := 1) zi_3_0 rfl rfl ?_
  refine zr_iload_n (pc' := 2) zi_3_1 rfl rfl ?_
  refine zr_v1 (pc' := 5) zi_3_2 (nput_at hb (k := 0) rfl) rfl (c_hasLine hb l hl hn) rfl ?_
  refine zr_if (pc' := 8) zi_3_5 rfl (fun h5 => ?_) (fun h5 => ?_)
  · replace h5 := zc_ne_t h5
    refine zr_iload_n (pc' := 19) zi_3_18 rfl rfl ?_
    refine zr_bipush (v := (nI 8)) (pc' := 21) zi_3_19 rfl rfl ?_
    refine zr_s2 (pc' := 24) zi_3_21 rfl (c_inN _ _ (by omega) (by omega)) rfl ?_
    refine zr_if (pc' := 27) zi_3_24 rfl (fun h24 => ?_) (fun h24 => ?_)
    · replace h24 := zc_ne_t h24
      refine zr_iload_n (pc' := 38) zi_3_37 rfl rfl ?_
      refine zr_table_in zi_3_38 0 (by decide) (by decide) rfl ?_
      refine zr_aload_n (pc' := 85) zi_3_84 rfl rfl ?_
      refine zr_get (pc' := 88) zi_3_85 (nput_at hb (k := 0) rfl) rfl rfl ?_
      refine zr_get (pc' := 91) zi_3_88 (nput_at hb (k := 1) rfl) rfl rfl ?_
      refine zr_iload_n (pc' := 92) zi_3_91 rfl rfl ?_
      refine zr_atN (pc' := 95) (by omega) zi_3_92 hb rfl rfl (by decide) rfl rfl ?_
      exact zr_ireturn zi_3_95 rfl
    · replace h24 := zc_ne_f h24
      exact absurd h24 (by decide)
      
      
  · replace h5 := zc_ne_f h5
    exact absurd h5 (by decide)
theorem c_ofLine1 (hb : b + 71 ≤ h.length) (q : zOk F g x sh gp wi bk) (l : Nat) (hl : l < g 0) : zcalls zTB 3 [.ref b, .int (nI l), .int (nI 1)] (nput b F g h) (some (.int (F 1 l)), nput b F g h) := by
  have hn := q.nb.n70
  refine zcalls_of (Nat.le_of_ble_eq_true rfl) ?_
  show zruns zTB 3 0 [some (.ref b), some (.int (nI l)), some (.int (nI 1))] [] _ _
  refine zr_aload_n (pc' := 1) zi_3_0 rfl rfl ?_
  refine zr_iload_n (pc' := 2) zi_3_1 rfl rfl ?_
  refine zr_v1 (pc' := 5) zi_3_2 (nput_at hb (k := 0) rfl) rfl (c_hasLine hb l hl hn) rfl ?_
  refine zr_if (pc' := 8) zi_3_5 rfl (fun h5 => ?_) (fun h5 => ?_)
  · replace h5 := zc_ne_t h5
    refine zr_iload_n (pc' := 19) zi_3_18 rfl rfl ?_
    refine zr_bipush (v := (nI 8)) (pc' := 21) zi_3_19 rfl rfl ?_
    refine zr_s2 (pc' := 24) zi_3_21 rfl (c_inN _ _ (by omega) (by omega)) rfl ?_
    refine zr_if (pc' := 27) zi_3_24 rfl (fun h24 => ?_) (fun h24 => ?_)
    · replace h24 := zc_ne_t h24
      refine zr_iload_n (pc' := 38) zi_3_37 rfl rfl ?_
      refine zr_table_in zi_3_38 1 (by decide) (by decide) rfl ?_
      refine zr_aload_n (pc' := 97) zi_3_96 rfl rfl ?_
      refine zr_get (pc' := 100) zi_3_97 (nput_at hb (k := 0) rfl) rfl rfl ?_
      refine zr_get (pc' := 103) zi_3_100 (nput_at hb (k := 1) rfl) rfl rfl ?_
      refine zr_iload_n (pc' := 104) zi_3_103 rfl rfl ?_
      refine zr_atN (pc' := 107) (by omega) zi_3_104 hb rfl rfl (by decide) rfl rfl ?_
      exact zr_ireturn zi_3_107 rfl
    · replace h24 := zc_ne_f h24
      exact absurd h24 (by decide)
      
      
  · replace h5 := zc_ne_f h5
    exact absurd h5 (by decide)
theorem c_ofLine2 (hb : b + 71 ≤ h.length) (q : zOk F g x sh gp wi bk) (l : Nat) (hl : l < g 0) : zcalls zTB 3 [.ref b, .int (nI l), .int (nI 2)] (nput b F g h) (some (.int (F 2 l)), nput b F g h) := by
  have hn := q.nb.n70
  refine zcalls_of (Nat.le_of_ble_eq_true rfl) ?_
  show zruns zTB 3 0 [some (.ref b), some (.int (nI l)), some (.int (nI 2))] [] _ _
  refine zr_aload_n (pc' := 1) zi_3_0 rfl rfl ?_
  refine zr_iload_n (pc' := 2) zi_3_1 rfl rfl ?_
  refine zr_v1 (pc' := 5) zi_3_2 (nput_at hb (k := 0) rfl) rfl (c_hasLine hb l hl hn) rfl ?_
  refine zr_if (pc' := 8) zi_3_5 rfl (fun h5 => ?_) (fun h5 => ?_)
  · replace h5 := zc_ne_t h5
    refine zr_iload_n (pc' := 19) zi_3_18 rfl rfl ?_
    refine zr_bipush (v := (nI 8)) (pc' := 21) zi_3_19 rfl rfl ?_
    refine zr_s2 (pc' := 24) zi_3_21 rfl (c_inN _ _ (by omega) (by omega)) rfl ?_
    refine zr_if (pc' := 27) zi_3_24 rfl (fun h24 => ?_) (fun h24 => ?_)
    · replace h24 := zc_ne_t h24
      refine zr_iload_n (pc' := 38) zi_3_37 rfl rfl ?_
      refine zr_table_in zi_3_38 2 (by decide) (by decide) rfl ?_
      refine zr_aload_n (pc' := 109) zi_3_108 rfl rfl ?_
      refine zr_get (pc' := 112) zi_3_109 (nput_at hb (k := 0) rfl) rfl rfl ?_
      refine zr_get (pc' := 115) zi_3_112 (nput_at hb (k := 1) rfl) rfl rfl ?_
      refine zr_iload_n (pc' := 116) zi_3_115 rfl rfl ?_
      refine zr_atN (pc' := 119) (by omega) zi_3_116 hb rfl rfl (by decide) rfl rfl ?_
      exact zr_ireturn zi_3_119 rfl
    · replace h24 := zc_ne_f h24
      exact absurd h24 (by decide)
      
      
  · replace h5 := zc_ne_f h5
    exact absurd h5 (by decide)
theorem c_ofLine3 (hb : b + 71 ≤ h.length) (q : zOk F g x sh gp wi bk) (l : Nat) (hl : l < g 0) : zcalls zTB 3 [.ref b, .int (nI l), .int (nI 3)] (nput b F g h) (some (.int (F 3 l)), nput b F g h) := by
  have hn := q.nb.n70
  refine zcalls_of (Nat.le_of_ble_eq_true rfl) ?_
  show zruns zTB 3 0 [some (.ref b), some (.int (nI l)), some (.int (nI 3))] [] _ _
  refine zr_aload_n (pc' := 1) zi_3_0 rfl rfl ?_
  refine zr_iload_n (pc' := 2) zi_3_1 rfl rfl ?_
  refine zr_v1 (pc' := 5) zi_3_2 (nput_at hb (k := 0) rfl) rfl (c_hasLine hb l hl hn) rfl ?_
  refine zr_if (pc' := 8) zi_3_5 rfl (fun h5 => ?_) (fun h5 => ?_)
  · replace h5 := zc_ne_t h5
    refine zr_iload_n (pc' := 19) zi_3_18 rfl rfl ?_
    refine zr_bipush (v := (nI 8)) (pc' := 21) zi_3_19 rfl rfl ?_
    refine zr_s2 (pc' := 24) zi_3_21 rfl (c_inN _ _ (by omega) (by omega)) rfl ?_
    refine zr_if (pc' := 27) zi_3_24 rfl (fun h24 => ?_) (fun h24 => ?_)
    · replace h24 := zc_ne_t h24
      refine zr_iload_n (pc' := 38) zi_3_37 rfl rfl ?_
      refine zr_table_in zi_3_38 3 (by decide) (by decide) rfl ?_
      refine zr_aload_n (pc' := 121) zi_3_120 rfl rfl ?_
      refine zr_get (pc' := 124) zi_3_121 (nput_at hb (k := 0) rfl) rfl rfl ?_
      refine zr_get (pc' := 127) zi_3_124 (nput_at hb (k := 1) rfl) rfl rfl ?_
      refine zr_iload_n (pc' := 128) zi_3_127 rfl rfl ?_
      refine zr_atN (pc' := 131) (by omega) zi_3_128 hb rfl rfl (by decide) rfl rfl ?_
      exact zr_ireturn zi_3_131 rfl
    · replace h24 := zc_ne_f h24
      exact absurd h24 (by decide)
      
      
  · replace h5 := zc_ne_f h5
    exact absurd h5 (by decide)
theorem c_ofLine4 (hb : b + 71 ≤ h.length) (q : zOk F g x sh gp wi bk) (l : Nat) (hl : l < g 0) : zcalls zTB 3 [.ref b, .int (nI l), .int (nI 4)] (nput b F g h) (some (.int (F 5 l)), nput b F g h) := by
  have hn := q.nb.n70
  refine zcalls_of (Nat.le_of_ble_eq_true rfl) ?_
  show zruns zTB 3 0 [some (.ref b), some (.int (nI l)), some (.int (nI 4))] [] _ _
  refine zr_aload_n (pc' := 1) zi_3_0 rfl rfl ?_
  refine zr_iload_n (pc' := 2) zi_3_1 rfl rfl ?_
  refine zr_v1 (pc' := 5) zi_3_2 (nput_at hb (k := 0) rfl) rfl (c_hasLine hb l hl hn) rfl ?_
  refine zr_if (pc' := 8) zi_3_5 rfl (fun h5 => ?_) (fun h5 => ?_)
  · replace h5 := zc_ne_t h5
    refine zr_iload_n (pc' := 19) zi_3_18 rfl rfl ?_
    refine zr_bipush (v := (nI 8)) (pc' := 21) zi_3_19 rfl rfl ?_
    refine zr_s2 (pc' := 24) zi_3_21 rfl (c_inN _ _ (by omega) (by omega)) rfl ?_
    refine zr_if (pc' := 27) zi_3_24 rfl (fun h24 => ?_) (fun h24 => ?_)
    · replace h24 := zc_ne_t h24
      refine zr_iload_n (pc' := 38) zi_3_37 rfl rfl ?_
      refine zr_table_in zi_3_38 4 (by decide) (by decide) rfl ?_
      refine zr_aload_n (pc' := 133) zi_3_132 rfl rfl ?_
      refine zr_get (pc' := 136) zi_3_133 (nput_at hb (k := 0) rfl) rfl rfl ?_
      refine zr_get (pc' := 139) zi_3_136 (nput_at hb (k := 1) rfl) rfl rfl ?_
      refine zr_iload_n (pc' := 140) zi_3_139 rfl rfl ?_
      refine zr_atN (pc' := 143) (by omega) zi_3_140 hb rfl rfl (by decide) rfl rfl ?_
      exact zr_ireturn zi_3_143 rfl
    · replace h24 := zc_ne_f h24
      exact absurd h24 (by decide)
      
      
  · replace h5 := zc_ne_f h5
    exact absurd h5 (by decide)
theorem c_ofLine5 (hb : b + 71 ≤ h.length) (q : zOk F g x sh gp wi bk) (l : Nat) (hl : l < g 0) : zcalls zTB 3 [.ref b, .int (nI l), .int (nI 5)] (nput b F g h) (some (.int (F 6 l)), nput b F g h) := by
  have hn := q.nb.n70
  refine zcalls_of (Nat.le_of_ble_eq_true rfl) ?_
  show zruns zTB 3 0 [some (.ref b), some (.int (nI l)), some (.int (nI 5))] [] _ _
  refine zr_aload_n (pc' := 1) zi_3_0 rfl rfl ?_
  refine zr_iload_n (pc' := 2) zi_3_1 rfl rfl ?_
  refine zr_v1 (pc' := 5) zi_3_2 (nput_at hb (k := 0) rfl) rfl (c_hasLine hb l hl hn) rfl ?_
  refine zr_if (pc' := 8) zi_3_5 rfl (fun h5 => ?_) (fun h5 => ?_)
  · replace h5 := zc_ne_t h5
    refine zr_iload_n (pc' := 19) zi_3_18 rfl rfl ?_
    refine zr_bipush (v := (nI 8)) (pc' := 21) zi_3_19 rfl rfl ?_
    refine zr_s2 (pc' := 24) zi_3_21 rfl (c_inN _ _ (by omega) (by omega)) rfl ?_
    refine zr_if (pc' := 27) zi_3_24 rfl (fun h24 => ?_) (fun h24 => ?_)
    · replace h24 := zc_ne_t h24
      refine zr_iload_n (pc' := 38) zi_3_37 rfl rfl ?_
      refine zr_table_in zi_3_38 5 (by decide) (by decide) rfl ?_
      refine zr_aload_n (pc' := 145) zi_3_144 rfl rfl ?_
      refine zr_get (pc' := 148) zi_3_145 (nput_at hb (k := 0) rfl) rfl rfl ?_
      refine zr_get (pc' := 151) zi_3_148 (nput_at hb (k := 1) rfl) rfl rfl ?_
      refine zr_iload_n (pc' := 152) zi_3_151 rfl rfl ?_
      refine zr_atN (pc' := 155) (by omega) zi_3_152 hb rfl rfl (by decide) rfl rfl ?_
      exact zr_ireturn zi_3_155 rfl
    · replace h24 := zc_ne_f h24
      exact absurd h24 (by decide)
      
      
  · replace h5 := zc_ne_f h5
    exact absurd h5 (by decide)
theorem c_ofLine6 (hb : b + 71 ≤ h.length) (q : zOk F g x sh gp wi bk) (l : Nat) (hl : l < g 0) : zcalls zTB 3 [.ref b, .int (nI l), .int (nI 6)] (nput b F g h) (some (.int (F 11 l)), nput b F g h) := by
  have hn := q.nb.n70
  refine zcalls_of (Nat.le_of_ble_eq_true rfl) ?_
  show zruns zTB 3 0 [some (.ref b), some (.int (nI l)), some (.int (nI 6))] [] _ _
  refine zr_aload_n (pc' := 1) zi_3_0 rfl rfl ?_
  refine zr_iload_n (pc' := 2) zi_3_1 rfl rfl ?_
  refine zr_v1 (pc' := 5) zi_3_2 (nput_at hb (k := 0) rfl) rfl (c_hasLine hb l hl hn) rfl ?_
  refine zr_if (pc' := 8) zi_3_5 rfl (fun h5 => ?_) (fun h5 => ?_)
  · replace h5 := zc_ne_t h5
    refine zr_iload_n (pc' := 19) zi_3_18 rfl rfl ?_
    refine zr_bipush (v := (nI 8)) (pc' := 21) zi_3_19 rfl rfl ?_
    refine zr_s2 (pc' := 24) zi_3_21 rfl (c_inN _ _ (by omega) (by omega)) rfl ?_
    refine zr_if (pc' := 27) zi_3_24 rfl (fun h24 => ?_) (fun h24 => ?_)
    · replace h24 := zc_ne_t h24
      refine zr_iload_n (pc' := 38) zi_3_37 rfl rfl ?_
      refine zr_table_in zi_3_38 6 (by decide) (by decide) rfl ?_
      refine zr_aload_n (pc' := 157) zi_3_156 rfl rfl ?_
      refine zr_get (pc' := 160) zi_3_157 (nput_at hb (k := 0) rfl) rfl rfl ?_
      refine zr_get (pc' := 163) zi_3_160 (nput_at hb (k := 26) rfl) rfl rfl ?_
      refine zr_iload_n (pc' := 164) zi_3_163 rfl rfl ?_
      refine zr_atN (pc' := 167) (by omega) zi_3_164 hb rfl rfl (by decide) rfl rfl ?_
      exact zr_ireturn zi_3_167 rfl
    · replace h24 := zc_ne_f h24
      exact absurd h24 (by decide)
      
      
  · replace h5 := zc_ne_f h5
    exact absurd h5 (by decide)
theorem c_ofLine7 (hb : b + 71 ≤ h.length) (q : zOk F g x sh gp wi bk) (l : Nat) (hl : l < g 0) : zcalls zTB 3 [.ref b, .int (nI l), .int (nI 7)] (nput b F g h) (some (.int (nI (x l / wi))), nput b F g h) := by
  have hn := q.nb.n70
  refine zcalls_of (Nat.le_of_ble_eq_true rfl) ?_
  show zruns zTB 3 0 [some (.ref b), some (.int (nI l)), some (.int (nI 7))] [] _ _
  refine zr_aload_n (pc' := 1) zi_3_0 rfl rfl ?_
  refine zr_iload_n (pc' := 2) zi_3_1 rfl rfl ?_
  refine zr_v1 (pc' := 5) zi_3_2 (nput_at hb (k := 0) rfl) rfl (c_hasLine hb l hl hn) rfl ?_
  refine zr_if (pc' := 8) zi_3_5 rfl (fun h5 => ?_) (fun h5 => ?_)
  · replace h5 := zc_ne_t h5
    refine zr_iload_n (pc' := 19) zi_3_18 rfl rfl ?_
    refine zr_bipush (v := (nI 8)) (pc' := 21) zi_3_19 rfl rfl ?_
    refine zr_s2 (pc' := 24) zi_3_21 rfl (c_inN _ _ (by omega) (by omega)) rfl ?_
    refine zr_if (pc' := 27) zi_3_24 rfl (fun h24 => ?_) (fun h24 => ?_)
    · replace h24 := zc_ne_t h24
      refine zr_iload_n (pc' := 38) zi_3_37 rfl rfl ?_
      refine zr_table_in zi_3_38 7 (by decide) (by decide) rfl ?_
      refine zr_aload_n (pc' := 169) zi_3_168 rfl rfl ?_
      refine zr_get (pc' := 172) zi_3_169 (nput_at hb (k := 0) rfl) rfl rfl ?_
      refine zr_get (pc' := 175) zi_3_172 (nput_at hb (k := 1) rfl) rfl rfl ?_
      refine zr_iload_n (pc' := 176) zi_3_175 rfl rfl ?_
      refine zr_atN (pc' := 179) (by omega) zi_3_176 hb rfl rfl (by decide) rfl rfl ?_
      refine zr_aload_n (pc' := 180) zi_3_179 rfl rfl ?_
      refine zr_get (pc' := 183) zi_3_180 (nput_at hb (k := 0) rfl) rfl rfl ?_
      refine zr_iconst (v := (nI 2)) (pc' := 184) zi_3_183 rfl rfl ?_
      refine zr_atN (pc' := 187) (by omega) zi_3_184 hb rfl rfl (by decide) rfl rfl ?_
      rw [(q.nb.tm l hl).1, q.nb.s2.1]
      refine zr_s2 (pc' := 190) zi_3_187 rfl (c_quoP _ _ (Nat.lt_of_le_of_lt (q.nb.tm l hl).2 (by omega)) q.nb.s2.2.1 (Nat.lt_of_le_of_lt q.nb.s2.2.2 (by omega))) rfl ?_
      exact zr_ireturn zi_3_190 rfl
    · replace h24 := zc_ne_f h24
      exact absurd h24 (by decide)
  · replace h5 := zc_ne_f h5
    exact absurd h5 (by decide)
theorem c_ofLine8 (hb : b + 71 ≤ h.length) (q : zOk F g x sh gp wi bk) (l : Nat) (hl : l < g 0) : zcalls zTB 3 [.ref b, .int (nI l), .int (nI 8)] (nput b F g h) (some (.int (F 23 l)), nput b F g h) := by
  have hn := q.nb.n70
  refine zcalls_of (Nat.le_of_ble_eq_true rfl) ?_
  show zruns zTB 3 0 [some (.ref b), some (.int (nI l)), some (.int (nI 8))] [] _ _
  refine zr_aload_n (pc' := 1) zi_3_0 rfl rfl ?_
  refine zr_iload_n (pc' := 2) zi_3_1 rfl rfl ?_
  refine zr_v1 (pc' := 5) zi_3_2 (nput_at hb (k := 0) rfl) rfl (c_hasLine hb l hl hn) rfl ?_
  refine zr_if (pc' := 8) zi_3_5 rfl (fun h5 => ?_) (fun h5 => ?_)
  · replace h5 := zc_ne_t h5
    refine zr_iload_n (pc' := 19) zi_3_18 rfl rfl ?_
    refine zr_bipush (v := (nI 8)) (pc' := 21) zi_3_19 rfl rfl ?_
    refine zr_s2 (pc' := 24) zi_3_21 rfl (c_inN _ _ (by omega) (by omega)) rfl ?_
    refine zr_if (pc' := 27) zi_3_24 rfl (fun h24 => ?_) (fun h24 => ?_)
    · replace h24 := zc_ne_t h24
      refine zr_iload_n (pc' := 38) zi_3_37 rfl rfl ?_
      refine zr_table_out zi_3_38 (by decide) ?_
      refine zr_aload_n (pc' := 192) zi_3_191 rfl rfl ?_
      refine zr_get (pc' := 195) zi_3_192 (nput_at hb (k := 0) rfl) rfl rfl ?_
      refine zr_get (pc' := 198) zi_3_195 (nput_at hb (k := 52) rfl) rfl rfl ?_
      refine zr_iload_n (pc' := 199) zi_3_198 rfl rfl ?_
      refine zr_atN (pc' := 202) (by omega) zi_3_199 hb rfl rfl (by decide) rfl rfl ?_
      exact zr_ireturn zi_3_202 rfl
    · replace h24 := zc_ne_f h24
      exact absurd h24 (by decide)
      
      
  · replace h5 := zc_ne_f h5
    exact absurd h5 (by decide)
theorem c_wordAt (hb : b + 71 ≤ h.length) (q : zOk F g x sh gp wi bk) (l p c : Nat) (hl : l < g 0) (hc : F 3 l = nI c) (hc8 : c ≤ 8) (hp : p < c) : zcalls zTB 87 [.ref b, .int (nI l), .int (nI p)] (nput b F g h) (some (.int (F 4 (l * 8 + p))), nput b F g h) := by
  have hn := q.nb.n70
  refine zcalls_of (Nat.le_of_ble_eq_true rfl) ?_
  show zruns zTB 87 0 [some (.ref b), some (.int (nI l)), some (.int (nI p))] [] _ _
  refine zr_aload_n (pc' := 1) zi_87_0 rfl rfl ?_
  refine zr_iload_n (pc' := 2) zi_87_1 rfl rfl ?_
  refine zr_v1 (pc' := 5) zi_87_2 (nput_at hb (k := 0) rfl) rfl (c_hasLine hb l hl hn) rfl ?_
  refine zr_if (pc' := 8) zi_87_5 rfl (fun h5 => ?_) (fun h5 => ?_)
  · replace h5 := zc_ne_t h5
    refine zr_iload_n (pc' := 19) zi_87_18 rfl rfl ?_
    refine zr_if (pc' := 22) zi_87_19 rfl (fun h19 => ?_) (fun h19 => ?_)
    · replace h19 := zx_lt_t h19
      exact absurd h19 (nI_pos (by omega))
    · replace h19 := zx_lt_f h19
      refine zr_iload_n (pc' := 23) zi_87_22 rfl rfl ?_
      refine zr_aload_n (pc' := 24) zi_87_23 rfl rfl ?_
      refine zr_get (pc' := 27) zi_87_24 (nput_at hb (k := 0) rfl) rfl rfl ?_
      refine zr_get (pc' := 30) zi_87_27 (nput_at hb (k := 1) rfl) rfl rfl ?_
      refine zr_iload_n (pc' := 31) zi_87_30 rfl rfl ?_
      refine zr_atN (pc' := 34) (by omega) zi_87_31 hb rfl rfl (by decide) rfl rfl ?_
      rw [hc]
      refine zr_icmp (pc' := 37) zi_87_34 rfl (fun h34 => ?_) (fun h34 => ?_)
      · replace h34 := zc_lt_t (by omega) (by omega) h34
        refine zr_aload_n (pc' := 48) zi_87_47 rfl rfl ?_
        refine zr_get (pc' := 51) zi_87_48 (nput_at hb (k := 0) rfl) rfl rfl ?_
        refine zr_iload_n (pc' := 52) zi_87_51 rfl rfl ?_
        refine zr_iload_n (pc' := 53) zi_87_52 rfl rfl ?_
        refine zr_v2 (pc' := 56) zi_87_53 (nput_at hb (k := 1) rfl) rfl (c_wordIn hb _ _ (by omega)) rfl ?_
        exact zr_ireturn zi_87_56 rfl
      · replace h34 := zc_lt_f (by omega) (by omega) h34
        omega
  · replace h5 := zc_ne_f h5
    exact absurd h5 (by decide)
theorem c_slot (hb : b + 71 ≤ h.length) (q : zOk F g x sh gp wi bk) (t p a : Nat) (ht : t < g 2) (ha : F 7 t = nI a) (ha8 : a ≤ 8) (hp : p < a) : zcalls zTB 40 [.ref b, .int (nI t), .int (nI p)] (nput b F g h) (some (.int (F 8 (t * 8 + p))), nput b F g h) := by
  have hT := q.nb.t20
  refine zcalls_of (Nat.le_of_ble_eq_true rfl) ?_
  show zruns zTB 40 0 [some (.ref b), some (.int (nI t)), some (.int (nI p))] [] _ _
  refine zr_aload_n (pc' := 1) zi_40_0 rfl rfl ?_
  refine zr_iload_n (pc' := 2) zi_40_1 rfl rfl ?_
  refine zr_v1 (pc' := 5) zi_40_2 (nput_at hb (k := 0) rfl) rfl (c_hasTemplate hb t ht hT) rfl ?_
  refine zr_if (pc' := 8) zi_40_5 rfl (fun h5 => ?_) (fun h5 => ?_)
  · replace h5 := zc_ne_t h5
    refine zr_iload_n (pc' := 19) zi_40_18 rfl rfl ?_
    refine zr_if (pc' := 22) zi_40_19 rfl (fun h19 => ?_) (fun h19 => ?_)
    · replace h19 := zx_lt_t h19
      exact absurd h19 (nI_pos (by omega))
    · replace h19 := zx_lt_f h19
      refine zr_iload_n (pc' := 23) zi_40_22 rfl rfl ?_
      refine zr_aload_n (pc' := 24) zi_40_23 rfl rfl ?_
      refine zr_get (pc' := 27) zi_40_24 (nput_at hb (k := 0) rfl) rfl rfl ?_
      refine zr_get (pc' := 30) zi_40_27 (nput_at hb (k := 16) rfl) rfl rfl ?_
      refine zr_iload_n (pc' := 31) zi_40_30 rfl rfl ?_
      refine zr_atN (pc' := 34) (by omega) zi_40_31 hb rfl rfl (by decide) rfl rfl ?_
      rw [ha]
      refine zr_icmp (pc' := 37) zi_40_34 rfl (fun h34 => ?_) (fun h34 => ?_)
      · replace h34 := zc_lt_t (by omega) (by omega) h34
        refine zr_aload_n (pc' := 48) zi_40_47 rfl rfl ?_
        refine zr_get (pc' := 51) zi_40_48 (nput_at hb (k := 0) rfl) rfl rfl ?_
        refine zr_iload_n (pc' := 52) zi_40_51 rfl rfl ?_
        refine zr_iload_n (pc' := 53) zi_40_52 rfl rfl ?_
        refine zr_v2 (pc' := 56) zi_40_53 (nput_at hb (k := 16) rfl) rfl (c_slotIn hb _ _ (by omega)) rfl ?_
        exact zr_ireturn zi_40_56 rfl
      · replace h34 := zc_lt_f (by omega) (by omega) h34
        omega
  · replace h5 := zc_ne_f h5
    exact absurd h5 (by decide)
theorem c_values (hb : b + 71 ≤ h.length) (q : zOk F g x sh gp wi bk) (t j a : Nat) (ht : t < g 2) (ha : F 7 t = nI a) (ha8 : a ≤ 8) (hj : j < zhol F t a) : ∃ r, (∃ v, r = nI v ∧ v ≤ zcnt (fun i => decide (F 5 i = nI t)) (g 1)) ∧ zcalls zTB 41 [.ref b, .int (nI t), .int (nI j)] (nput b F g h) (some (.int r), nput b F g h) := by
  have hT := q.nb.t20
  have hn := q.nb.n70
  have hm := q.nb.mn
  have hh : zhol F t a ≤ a := zcnt_le _ _
  obtain ⟨r, hr, hc⟩ := c_placeOfHole hb (F := F) (g := g) t a j (by omega) ha ha8 (by omega)
  obtain ⟨p, hp, rfl, hp2, hp3⟩ : ∃ p, p < a ∧ r = nI p ∧ F 8 (t * 8 + p) = -1 ∧ zhol F t p = j := by
    rcases hr with ⟨_, w⟩ | w
    · omega
    · exact w
  obtain ⟨v, hv, hc2⟩ := c_howManyWordsOf hb (F := F) (g := g) (nI t) p (by omega) (by omega)
  refine ⟨v, hv, ?_⟩
  refine zcalls_of (Nat.le_of_ble_eq_true rfl) ?_
  show zruns zTB 41 0 [some (.ref b), some (.int (nI t)), some (.int (nI j)), none] [] _ _
  refine zr_aload_n (pc' := 1) zi_41_0 rfl rfl ?_
  refine zr_iload_n (pc' := 2) zi_41_1 rfl rfl ?_
  refine zr_v1 (pc' := 5) zi_41_2 (nput_at hb (k := 0) rfl) rfl (c_hasTemplate hb t ht hT) rfl ?_
  refine zr_if (pc' := 8) zi_41_5 rfl (fun h5 => ?_) (fun h5 => ?_)
  · replace h5 := zc_ne_t h5
    refine zr_aload_n (pc' := 19) zi_41_18 rfl rfl ?_
    refine zr_get (pc' := 22) zi_41_19 (nput_at hb (k := 0) rfl) rfl rfl ?_
    refine zr_iload_n (pc' := 23) zi_41_22 rfl rfl ?_
    refine zr_iload_n (pc' := 24) zi_41_23 rfl rfl ?_
    refine zr_v2 (pc' := 27) zi_41_24 (nput_at hb (k := 16) rfl) rfl hc rfl ?_
    refine zr_istore_n (pc' := 28) zi_41_27 (Nat.le_of_ble_eq_true rfl) rfl rfl ?_
    dsimp only [zst1, zst2, zkill, List.set, List.getElem?_cons_succ, List.getElem?_cons_zero]
    refine zr_iload_n (pc' := 29) zi_41_28 rfl rfl ?_
    refine zr_iconst (v := (-1)) (pc' := 30) zi_41_29 rfl rfl ?_
    refine zr_icmp (pc' := 33) zi_41_30 rfl (fun h30 => ?_) (fun h30 => ?_)
    · replace h30 := zc_ne_t h30
      refine zr_aload_n (pc' := 44) zi_41_43 rfl rfl ?_
      refine zr_get (pc' := 47) zi_41_44 (nput_at hb (k := 0) rfl) rfl rfl ?_
      refine zr_iload_n (pc' := 48) zi_41_47 rfl rfl ?_
      refine zr_iload_n (pc' := 49) zi_41_48 rfl rfl ?_
      refine zr_v2 (pc' := 52) zi_41_49 (nput_at hb (k := 1) rfl) rfl hc2 rfl ?_
      exact zr_ireturn zi_41_52 rfl
    · replace h30 := zc_ne_f h30
      exact absurd h30 (nI_neg (by omega))
  · replace h5 := zc_ne_f h5
    exact absurd h5 (by decide)
theorem c_alike (hb : b + 71 ≤ h.length) (q : zOk F g x sh gp wi bk) (l t a : Nat) (hl : l < g 0) (ht : t < g 2) (ha : F 7 t = nI a) (ha8 : a ≤ 8) : zcalls zTB 88 [.ref b, .int (nI l), .int (nI t)] (nput b F g h) (some (.int (nI (zak F l t) - 1)), nput b F g h) := by
  have hT := q.nb.t20
  have hn := q.nb.n70
  refine zcalls_of (Nat.le_of_ble_eq_true rfl) ?_
  show zruns zTB 88 0 [some (.ref b), some (.int (nI l)), some (.int (nI t))] [] _ _
  refine zr_aload_n (pc' := 1) zi_88_0 rfl rfl ?_
  refine zr_iload_n (pc' := 2) zi_88_1 rfl rfl ?_
  refine zr_v1 (pc' := 5) zi_88_2 (nput_at hb (k := 0) rfl) rfl (c_hasLine hb l hl hn) rfl ?_
  refine zr_if (pc' := 8) zi_88_5 rfl (fun h5 => ?_) (fun h5 => ?_)
  · replace h5 := zc_ne_t h5
    refine zr_aload_n (pc' := 19) zi_88_18 rfl rfl ?_
    refine zr_iload_n (pc' := 20) zi_88_19 rfl rfl ?_
    refine zr_v1 (pc' := 23) zi_88_20 (nput_at hb (k := 0) rfl) rfl (c_hasTemplate hb t ht hT) rfl ?_
    refine zr_if (pc' := 26) zi_88_23 rfl (fun h23 => ?_) (fun h23 => ?_)
    · replace h23 := zc_ne_t h23
      refine zr_aload_n (pc' := 37) zi_88_36 rfl rfl ?_
      refine zr_get (pc' := 40) zi_88_37 (nput_at hb (k := 0) rfl) rfl rfl ?_
      refine zr_aload_n (pc' := 41) zi_88_40 rfl rfl ?_
      refine zr_get (pc' := 44) zi_88_41 (nput_at hb (k := 0) rfl) rfl rfl ?_
      refine zr_iload_n (pc' := 45) zi_88_44 rfl rfl ?_
      refine zr_iload_n (pc' := 46) zi_88_45 rfl rfl ?_
      refine zr_v3 (pc' := 49) zi_88_46 (nput_at hb (k := 16) rfl) rfl (c_likeness hb l t a (by omega) (by omega) ha ha8) rfl ?_
      exact zr_ireturn zi_88_49 rfl
    · replace h23 := zc_ne_f h23
      exact absurd h23 (by decide)
  · replace h5 := zc_ne_f h5
    exact absurd h5 (by decide)
theorem c_ofTemplate0 (hb : b + 71 ≤ h.length) (q : zOk F g x sh gp wi bk) (t a : Nat) (ht : t < g 2) (ha : F 7 t = nI a) (ha8 : a ≤ 8) : zcalls zTB 10 [.ref b, .int (nI t), .int (nI 0)] (nput b F g h) (some (.int (F 7 t)), nput b F g h) := by
  have hT := q.nb.t20
  have hn := q.nb.n70
  have hm := q.nb.mn
  refine zcalls_of (Nat.le_of_ble_eq_true rfl) ?_
  show zruns zTB 10 0 [some (.ref b), some (.int (nI t)), some (.int (nI 0))] [] _ _
  refine zr_aload_n (pc' := 1) zi_10_0 rfl rfl ?_
  refine zr_iload_n (pc' := 2) zi_10_1 rfl rfl ?_
  refine zr_v1 (pc' := 5) zi_10_2 (nput_at hb (k := 0) rfl) rfl (c_hasTemplate hb t ht hT) rfl ?_
  refine zr_if (pc' := 8) zi_10_5 rfl (fun h5 => ?_) (fun h5 => ?_)
  · replace h5 := zc_ne_t h5
    refine zr_iload_n (pc' := 19) zi_10_18 rfl rfl ?_
    refine zr_iconst (v := (nI 4)) (pc' := 20) zi_10_19 rfl rfl ?_
    refine zr_s2 (pc' := 23) zi_10_20 rfl (c_inN _ _ (by omega) (by omega)) rfl ?_
    refine zr_if (pc' := 26) zi_10_23 rfl (fun h23 => ?_) (fun h23 => ?_)
    · replace h23 := zc_ne_t h23
      refine zr_iload_n (pc' := 37) zi_10_36 rfl rfl ?_
      refine zr_table_in zi_10_37 0 (by decide) (by decide) rfl ?_
      refine zr_aload_n (pc' := 69) zi_10_68 rfl rfl ?_
      refine zr_get (pc' := 72) zi_10_69 (nput_at hb (k := 0) rfl) rfl rfl ?_
      refine zr_get (pc' := 75) zi_10_72 (nput_at hb (k := 16) rfl) rfl rfl ?_
      refine zr_iload_n (pc' := 76) zi_10_75 rfl rfl ?_
      refine zr_atN (pc' := 79) (by omega) zi_10_76 hb rfl rfl (by decide) rfl rfl ?_
      exact zr_ireturn zi_10_79 rfl
    · replace h23 := zc_ne_f h23
      exact absurd h23 (by decide)
      
  · replace h5 := zc_ne_f h5
    exact absurd h5 (by decide)
theorem c_ofTemplate1 (hb : b + 71 ≤ h.length) (q : zOk F g x sh gp wi bk) (t a : Nat) (ht : t < g 2) (ha : F 7 t = nI a) (ha8 : a ≤ 8) : zcalls zTB 10 [.ref b, .int (nI t), .int (nI 1)] (nput b F g h) (some (.int (nI (zhol F t a))), nput b F g h) := by
  have hT := q.nb.t20
  have hn := q.nb.n70
  have hm := q.nb.mn
  refine zcalls_of (Nat.le_of_ble_eq_true rfl) ?_
  show zruns zTB 10 0 [some (.ref b), some (.int (nI t)), some (.int (nI 1))] [] _ _
  refine zr_aload_n (pc' := 1) zi_10_0 rfl rfl ?_
  refine zr_iload_n (pc' := 2) zi_10_1 rfl rfl ?_
  refine zr_v1 (pc' := 5) zi_10_2 (nput_at hb (k := 0) rfl) rfl (c_hasTemplate hb t ht hT) rfl ?_
  refine zr_if (pc' := 8) zi_10_5 rfl (fun h5 => ?_) (fun h5 => ?_)
  · replace h5 := zc_ne_t h5
    refine zr_iload_n (pc' := 19) zi_10_18 rfl rfl ?_
    refine zr_iconst (v := (nI 4)) (pc' := 20) zi_10_19 rfl rfl ?_
    refine zr_s2 (pc' := 23) zi_10_20 rfl (c_inN _ _ (by omega) (by omega)) rfl ?_
    refine zr_if (pc' := 26) zi_10_23 rfl (fun h23 => ?_) (fun h23 => ?_)
    · replace h23 := zc_ne_t h23
      refine zr_iload_n (pc' := 37) zi_10_36 rfl rfl ?_
      refine zr_table_in zi_10_37 1 (by decide) (by decide) rfl ?_
      refine zr_aload_n (pc' := 81) zi_10_80 rfl rfl ?_
      refine zr_get (pc' := 84) zi_10_81 (nput_at hb (k := 0) rfl) rfl rfl ?_
      refine zr_iload_n (pc' := 85) zi_10_84 rfl rfl ?_
      refine zr_v1 (pc' := 88) zi_10_85 (nput_at hb (k := 16) rfl) rfl (c_howManyHoles hb t a (by omega) ha ha8) rfl ?_
      exact zr_ireturn zi_10_88 rfl
    · replace h23 := zc_ne_f h23
      exact absurd h23 (by decide)
  · replace h5 := zc_ne_f h5
    exact absurd h5 (by decide)
theorem c_ofTemplate2 (hb : b + 71 ≤ h.length) (q : zOk F g x sh gp wi bk) (t a : Nat) (ht : t < g 2) (ha : F 7 t = nI a) (ha8 : a ≤ 8) : zcalls zTB 10 [.ref b, .int (nI t), .int (nI 2)] (nput b F g h) (some (.int (nI (zcnt (fun j => decide (F 5 j = nI t)) (g 1)))), nput b F g h) := by
  have hT := q.nb.t20
  have hn := q.nb.n70
  have hm := q.nb.mn
  refine zcalls_of (Nat.le_of_ble_eq_true rfl) ?_
  show zruns zTB 10 0 [some (.ref b), some (.int (nI t)), some (.int (nI 2))] [] _ _
  refine zr_aload_n (pc' := 1) zi_10_0 rfl rfl ?_
  refine zr_iload_n (pc' := 2) zi_10_1 rfl rfl ?_
  refine zr_v1 (pc' := 5) zi_10_2 (nput_at hb (k := 0) rfl) rfl (c_hasTemplate hb t ht hT) rfl ?_
  refine zr_if (pc' := 8) zi_10_5 rfl (fun h5 => ?_) (fun h5 => ?_)
  · replace h5 := zc_ne_t h5
    refine zr_iload_n (pc' := 19) zi_10_18 rfl rfl ?_
    refine zr_iconst (v := (nI 4)) (pc' := 20) zi_10_19 rfl rfl ?_
    refine zr_s2 (pc' := 23) zi_10_20 rfl (c_inN _ _ (by omega) (by omega)) rfl ?_
    refine zr_if (pc' := 26) zi_10_23 rfl (fun h23 => ?_) (fun h23 => ?_)
    · replace h23 := zc_ne_t h23
      refine zr_iload_n (pc' := 37) zi_10_36 rfl rfl ?_
      refine zr_table_in zi_10_37 2 (by decide) (by decide) rfl ?_
      refine zr_aload_n (pc' := 90) zi_10_89 rfl rfl ?_
      refine zr_get (pc' := 93) zi_10_90 (nput_at hb (k := 0) rfl) rfl rfl ?_
      refine zr_iload_n (pc' := 94) zi_10_93 rfl rfl ?_
      refine zr_v1 (pc' := 97) zi_10_94 (nput_at hb (k := 1) rfl) rfl (c_howManyOf hb _ (by omega)) rfl ?_
      exact zr_ireturn zi_10_97 rfl
    · replace h23 := zc_ne_f h23
      exact absurd h23 (by decide)
  · replace h5 := zc_ne_f h5
    exact absurd h5 (by decide)
theorem c_ofTemplate3 (hb : b + 71 ≤ h.length) (q : zOk F g x sh gp wi bk) (t : Nat) (ht : t < g 2) : ∃ r, (∀ l, l < g 1 → F 5 l = nI t → r ≤ nI l) ∧ zcalls zTB 10 [.ref b, .int (nI t), .int (nI 3)] (nput b F g h) (some (.int r), nput b F g h) := by
  have hT := q.nb.t20
  have hn := q.nb.n70
  have hm := q.nb.mn
  obtain ⟨r, hr, hc⟩ := c_firstOf hb (F := F) (g := g) (nI t) (by omega)
  refine ⟨r, hr, ?_⟩
  refine zcalls_of (Nat.le_of_ble_eq_true rfl) ?_
  show zruns zTB 10 0 [some (.ref b), some (.int (nI t)), some (.int (nI 3))] [] _ _
  refine zr_aload_n (pc' := 1) zi_10_0 rfl rfl ?_
  refine zr_iload_n (pc' := 2) zi_10_1 rfl rfl ?_
  refine zr_v1 (pc' := 5) zi_10_2 (nput_at hb (k := 0) rfl) rfl (c_hasTemplate hb t ht hT) rfl ?_
  refine zr_if (pc' := 8) zi_10_5 rfl (fun h5 => ?_) (fun h5 => ?_)
  · replace h5 := zc_ne_t h5
    refine zr_iload_n (pc' := 19) zi_10_18 rfl rfl ?_
    refine zr_iconst (v := (nI 4)) (pc' := 20) zi_10_19 rfl rfl ?_
    refine zr_s2 (pc' := 23) zi_10_20 rfl (c_inN _ _ (by omega) (by omega)) rfl ?_
    refine zr_if (pc' := 26) zi_10_23 rfl (fun h23 => ?_) (fun h23 => ?_)
    · replace h23 := zc_ne_t h23
      refine zr_iload_n (pc' := 37) zi_10_36 rfl rfl ?_
      refine zr_table_in zi_10_37 3 (by decide) (by decide) rfl ?_
      refine zr_aload_n (pc' := 99) zi_10_98 rfl rfl ?_
      refine zr_get (pc' := 102) zi_10_99 (nput_at hb (k := 0) rfl) rfl rfl ?_
      refine zr_iload_n (pc' := 103) zi_10_102 rfl rfl ?_
      refine zr_v1 (pc' := 106) zi_10_103 (nput_at hb (k := 1) rfl) rfl hc rfl ?_
      exact zr_ireturn zi_10_106 rfl
    · replace h23 := zc_ne_f h23
      exact absurd h23 (by decide)
  · replace h5 := zc_ne_f h5
    exact absurd h5 (by decide)
theorem c_ofTemplate4 (hb : b + 71 ≤ h.length) (q : zOk F g x sh gp wi bk) (t : Nat) (ht : t < g 2) : ∃ r, (∀ l, l < g 1 → F 5 l = nI t → F 2 l ≤ r) ∧ zcalls zTB 10 [.ref b, .int (nI t), .int (nI 4)] (nput b F g h) (some (.int r), nput b F g h) := by
  have hT := q.nb.t20
  have hn := q.nb.n70
  have hm := q.nb.mn
  obtain ⟨r, hr, hc⟩ := c_worstLevelOf hb (F := F) (g := g) (nI t) (by omega)
  refine ⟨r, hr, ?_⟩
  refine zcalls_of (Nat.le_of_ble_eq_true rfl) ?_
  show zruns zTB 10 0 [some (.ref b), some (.int (nI t)), some (.int (nI 4))] [] _ _
  refine zr_aload_n (pc' := 1) zi_10_0 rfl rfl ?_
  refine zr_iload_n (pc' := 2) zi_10_1 rfl rfl ?_
  refine zr_v1 (pc' := 5) zi_10_2 (nput_at hb (k := 0) rfl) rfl (c_hasTemplate hb t ht hT) rfl ?_
  refine zr_if (pc' := 8) zi_10_5 rfl (fun h5 => ?_) (fun h5 => ?_)
  · replace h5 := zc_ne_t h5
    refine zr_iload_n (pc' := 19) zi_10_18 rfl rfl ?_
    refine zr_iconst (v := (nI 4)) (pc' := 20) zi_10_19 rfl rfl ?_
    refine zr_s2 (pc' := 23) zi_10_20 rfl (c_inN _ _ (by omega) (by omega)) rfl ?_
    refine zr_if (pc' := 26) zi_10_23 rfl (fun h23 => ?_) (fun h23 => ?_)
    · replace h23 := zc_ne_t h23
      refine zr_iload_n (pc' := 37) zi_10_36 rfl rfl ?_
      refine zr_table_out zi_10_37 (by decide) ?_
      refine zr_aload_n (pc' := 108) zi_10_107 rfl rfl ?_
      refine zr_get (pc' := 111) zi_10_108 (nput_at hb (k := 0) rfl) rfl rfl ?_
      refine zr_iload_n (pc' := 112) zi_10_111 rfl rfl ?_
      refine zr_v1 (pc' := 115) zi_10_112 (nput_at hb (k := 1) rfl) rfl hc rfl ?_
      exact zr_ireturn zi_10_115 rfl
    · replace h23 := zc_ne_f h23
      exact absurd h23 (by decide)
  · replace h5 := zc_ne_f h5
    exact absurd h5 (by decide)
theorem zOk.tk {C : Nat → Nat → Nat} {Z : Nat → Nat} (q : zOk F g x sh gp wi bk) (qs : zses F (g 4) (F 31 1) (g 0) C Z) (s : Nat) (hs : s < g 4) : ∀ k, k < Z s → ∃ t, t < 20 ∧ F 5 (C s k) = nI t := by
  intro k hk
  obtain ⟨h1, h2, h3⟩ := qs.el s hs k hk
  rcases q.to.ky (C s k) h1 with ⟨_, e⟩ | ⟨t, a, h4, h5, _⟩
  · rcases qs.ln (C s k) h1 with ⟨_, w⟩ | ⟨w, _⟩
    · rw [w] at h2
      exact absurd h2.symm (nI_neg (by have := q.S70; omega))
    · rw [e] at w
      exact absurd w (by decide)
  · exact ⟨t, h4, h5⟩
theorem c_ofSession0 (hb : b + 71 ≤ h.length) (q : zOk F g x sh gp wi bk) {C : Nat → Nat → Nat} {Z : Nat → Nat} (qs : zses F (g 4) (F 31 1) (g 0) C Z) (s : Nat) (hs : s < g 4) : zcalls zTB 7 [.ref b, .int (nI s), .int (nI 0)] (nput b F g h) (some (.int (F 6 (C s 0))), nput b F g h) := by
  have hS := q.S70
  have hn := q.nb.n70
  obtain ⟨hz0, hzn, hz1, hz2, hz3, hz4⟩ := qs.sz s hs
  have hc0 := (qs.el s hs 0 hz0).1
  have hc1 := (qs.el s hs (Z s - 1) (by omega)).1
  refine zcalls_of (Nat.le_of_ble_eq_true rfl) ?_
  show zruns zTB 7 0 [some (.ref b), some (.int (nI s)), some (.int (nI 0))] [] _ _
  refine zr_aload_n (pc' := 1) zi_7_0 rfl rfl ?_
  refine zr_iload_n (pc' := 2) zi_7_1 rfl rfl ?_
  refine zr_v1 (pc' := 5) zi_7_2 (nput_at hb (k := 0) rfl) rfl (c_hasSession hb s hs hS) rfl ?_
  refine zr_if (pc' := 8) zi_7_5 rfl (fun h5 => ?_) (fun h5 => ?_)
  · replace h5 := zc_ne_t h5
    refine zr_iload_n (pc' := 19) zi_7_18 rfl rfl ?_
    refine zr_bipush (v := (nI 6)) (pc' := 21) zi_7_19 rfl rfl ?_
    refine zr_s2 (pc' := 24) zi_7_21 rfl (c_inN _ _ (by omega) (by omega)) rfl ?_
    refine zr_if (pc' := 27) zi_7_24 rfl (fun h24 => ?_) (fun h24 => ?_)
    · replace h24 := zc_ne_t h24
      refine zr_iload_n (pc' := 38) zi_7_37 rfl rfl ?_
      refine zr_table_in zi_7_38 0 (by decide) (by decide) rfl ?_
      refine zr_aload_n (pc' := 77) zi_7_76 rfl rfl ?_
      refine zr_get (pc' := 80) zi_7_77 (nput_at hb (k := 0) rfl) rfl rfl ?_
      refine zr_get (pc' := 83) zi_7_80 (nput_at hb (k := 1) rfl) rfl rfl ?_
      refine zr_aload_n (pc' := 84) zi_7_83 rfl rfl ?_
      refine zr_get (pc' := 87) zi_7_84 (nput_at hb (k := 0) rfl) rfl rfl ?_
      refine zr_get (pc' := 90) zi_7_87 (nput_at hb (k := 26) rfl) rfl rfl ?_
      refine zr_iload_n (pc' := 91) zi_7_90 rfl rfl ?_
      refine zr_atN (pc' := 94) (by omega) zi_7_91 hb rfl rfl (by decide) rfl rfl ?_
      rw [hz1]
      
      refine zr_atN (pc' := 97) (by omega) zi_7_94 hb rfl rfl (by decide) rfl rfl ?_
      exact zr_ireturn zi_7_97 rfl
    · replace h24 := zc_ne_f h24
      exact absurd h24 (by decide)
  · replace h5 := zc_ne_f h5
    exact absurd h5 (by decide)
theorem c_ofSession1 (hb : b + 71 ≤ h.length) (q : zOk F g x sh gp wi bk) {C : Nat → Nat → Nat} {Z : Nat → Nat} (qs : zses F (g 4) (F 31 1) (g 0) C Z) (s : Nat) (hs : s < g 4) : zcalls zTB 7 [.ref b, .int (nI s), .int (nI 1)] (nput b F g h) (some (.int (F 0 (C s 0))), nput b F g h) := by
  have hS := q.S70
  have hn := q.nb.n70
  obtain ⟨hz0, hzn, hz1, hz2, hz3, hz4⟩ := qs.sz s hs
  have hc0 := (qs.el s hs 0 hz0).1
  have hc1 := (qs.el s hs (Z s - 1) (by omega)).1
  refine zcalls_of (Nat.le_of_ble_eq_true rfl) ?_
  show zruns zTB 7 0 [some (.ref b), some (.int (nI s)), some (.int (nI 1))] [] _ _
  refine zr_aload_n (pc' := 1) zi_7_0 rfl rfl ?_
  refine zr_iload_n (pc' := 2) zi_7_1 rfl rfl ?_
  refine zr_v1 (pc' := 5) zi_7_2 (nput_at hb (k := 0) rfl) rfl (c_hasSession hb s hs hS) rfl ?_
  refine zr_if (pc' := 8) zi_7_5 rfl (fun h5 => ?_) (fun h5 => ?_)
  · replace h5 := zc_ne_t h5
    refine zr_iload_n (pc' := 19) zi_7_18 rfl rfl ?_
    refine zr_bipush (v := (nI 6)) (pc' := 21) zi_7_19 rfl rfl ?_
    refine zr_s2 (pc' := 24) zi_7_21 rfl (c_inN _ _ (by omega) (by omega)) rfl ?_
    refine zr_if (pc' := 27) zi_7_24 rfl (fun h24 => ?_) (fun h24 => ?_)
    · replace h24 := zc_ne_t h24
      refine zr_iload_n (pc' := 38) zi_7_37 rfl rfl ?_
      refine zr_table_in zi_7_38 1 (by decide) (by decide) rfl ?_
      refine zr_aload_n (pc' := 99) zi_7_98 rfl rfl ?_
      refine zr_get (pc' := 102) zi_7_99 (nput_at hb (k := 0) rfl) rfl rfl ?_
      refine zr_get (pc' := 105) zi_7_102 (nput_at hb (k := 1) rfl) rfl rfl ?_
      refine zr_aload_n (pc' := 106) zi_7_105 rfl rfl ?_
      refine zr_get (pc' := 109) zi_7_106 (nput_at hb (k := 0) rfl) rfl rfl ?_
      refine zr_get (pc' := 112) zi_7_109 (nput_at hb (k := 26) rfl) rfl rfl ?_
      refine zr_iload_n (pc' := 113) zi_7_112 rfl rfl ?_
      refine zr_atN (pc' := 116) (by omega) zi_7_113 hb rfl rfl (by decide) rfl rfl ?_
      rw [hz1]
      
      refine zr_atN (pc' := 119) (by omega) zi_7_116 hb rfl rfl (by decide) rfl rfl ?_
      exact zr_ireturn zi_7_119 rfl
    · replace h24 := zc_ne_f h24
      exact absurd h24 (by decide)
  · replace h5 := zc_ne_f h5
    exact absurd h5 (by decide)
theorem c_ofSession2 (hb : b + 71 ≤ h.length) (q : zOk F g x sh gp wi bk) {C : Nat → Nat → Nat} {Z : Nat → Nat} (qs : zses F (g 4) (F 31 1) (g 0) C Z) (s : Nat) (hs : s < g 4) : zcalls zTB 7 [.ref b, .int (nI s), .int (nI 2)] (nput b F g h) (some (.int (F 0 (C s (Z s - 1)))), nput b F g h) := by
  have hS := q.S70
  have hn := q.nb.n70
  obtain ⟨hz0, hzn, hz1, hz2, hz3, hz4⟩ := qs.sz s hs
  have hc0 := (qs.el s hs 0 hz0).1
  have hc1 := (qs.el s hs (Z s - 1) (by omega)).1
  refine zcalls_of (Nat.le_of_ble_eq_true rfl) ?_
  show zruns zTB 7 0 [some (.ref b), some (.int (nI s)), some (.int (nI 2))] [] _ _
  refine zr_aload_n (pc' := 1) zi_7_0 rfl rfl ?_
  refine zr_iload_n (pc' := 2) zi_7_1 rfl rfl ?_
  refine zr_v1 (pc' := 5) zi_7_2 (nput_at hb (k := 0) rfl) rfl (c_hasSession hb s hs hS) rfl ?_
  refine zr_if (pc' := 8) zi_7_5 rfl (fun h5 => ?_) (fun h5 => ?_)
  · replace h5 := zc_ne_t h5
    refine zr_iload_n (pc' := 19) zi_7_18 rfl rfl ?_
    refine zr_bipush (v := (nI 6)) (pc' := 21) zi_7_19 rfl rfl ?_
    refine zr_s2 (pc' := 24) zi_7_21 rfl (c_inN _ _ (by omega) (by omega)) rfl ?_
    refine zr_if (pc' := 27) zi_7_24 rfl (fun h24 => ?_) (fun h24 => ?_)
    · replace h24 := zc_ne_t h24
      refine zr_iload_n (pc' := 38) zi_7_37 rfl rfl ?_
      refine zr_table_in zi_7_38 2 (by decide) (by decide) rfl ?_
      refine zr_aload_n (pc' := 121) zi_7_120 rfl rfl ?_
      refine zr_get (pc' := 124) zi_7_121 (nput_at hb (k := 0) rfl) rfl rfl ?_
      refine zr_get (pc' := 127) zi_7_124 (nput_at hb (k := 1) rfl) rfl rfl ?_
      refine zr_aload_n (pc' := 128) zi_7_127 rfl rfl ?_
      refine zr_get (pc' := 131) zi_7_128 (nput_at hb (k := 0) rfl) rfl rfl ?_
      refine zr_get (pc' := 134) zi_7_131 (nput_at hb (k := 26) rfl) rfl rfl ?_
      refine zr_iload_n (pc' := 135) zi_7_134 rfl rfl ?_
      refine zr_atN (pc' := 138) (by omega) zi_7_135 hb rfl rfl (by decide) rfl rfl ?_
      rw [hz2]
      
      refine zr_atN (pc' := 141) (by omega) zi_7_138 hb rfl rfl (by decide) rfl rfl ?_
      exact zr_ireturn zi_7_141 rfl
    · replace h24 := zc_ne_f h24
      exact absurd h24 (by decide)
  · replace h5 := zc_ne_f h5
    exact absurd h5 (by decide)
theorem c_ofSession3 (hb : b + 71 ≤ h.length) (q : zOk F g x sh gp wi bk) {C : Nat → Nat → Nat} {Z : Nat → Nat} (qs : zses F (g 4) (F 31 1) (g 0) C Z) (s : Nat) (hs : s < g 4) : zcalls zTB 7 [.ref b, .int (nI s), .int (nI 3)] (nput b F g h) (some (.int (nI (Z s))), nput b F g h) := by
  have hS := q.S70
  have hn := q.nb.n70
  obtain ⟨hz0, hzn, hz1, hz2, hz3, hz4⟩ := qs.sz s hs
  have hc0 := (qs.el s hs 0 hz0).1
  have hc1 := (qs.el s hs (Z s - 1) (by omega)).1
  refine zcalls_of (Nat.le_of_ble_eq_true rfl) ?_
  show zruns zTB 7 0 [some (.ref b), some (.int (nI s)), some (.int (nI 3))] [] _ _
  refine zr_aload_n (pc' := 1) zi_7_0 rfl rfl ?_
  refine zr_iload_n (pc' := 2) zi_7_1 rfl rfl ?_
  refine zr_v1 (pc' := 5) zi_7_2 (nput_at hb (k := 0) rfl) rfl (c_hasSession hb s hs hS) rfl ?_
  refine zr_if (pc' := 8) zi_7_5 rfl (fun h5 => ?_) (fun h5 => ?_)
  · replace h5 := zc_ne_t h5
    refine zr_iload_n (pc' := 19) zi_7_18 rfl rfl ?_
    refine zr_bipush (v := (nI 6)) (pc' := 21) zi_7_19 rfl rfl ?_
    refine zr_s2 (pc' := 24) zi_7_21 rfl (c_inN _ _ (by omega) (by omega)) rfl ?_
    refine zr_if (pc' := 27) zi_7_24 rfl (fun h24 => ?_) (fun h24 => ?_)
    · replace h24 := zc_ne_t h24
      refine zr_iload_n (pc' := 38) zi_7_37 rfl rfl ?_
      refine zr_table_in zi_7_38 3 (by decide) (by decide) rfl ?_
      refine zr_aload_n (pc' := 143) zi_7_142 rfl rfl ?_
      refine zr_get (pc' := 146) zi_7_143 (nput_at hb (k := 0) rfl) rfl rfl ?_
      refine zr_get (pc' := 149) zi_7_146 (nput_at hb (k := 26) rfl) rfl rfl ?_
      refine zr_iload_n (pc' := 150) zi_7_149 rfl rfl ?_
      refine zr_atN (pc' := 153) (by omega) zi_7_150 hb rfl rfl (by decide) rfl rfl ?_
      rw [hz3]
      
      exact zr_ireturn zi_7_153 rfl
    · replace h24 := zc_ne_f h24
      exact absurd h24 (by decide)
  · replace h5 := zc_ne_f h5
    exact absurd h5 (by decide)
theorem c_ofSession4 (hb : b + 71 ≤ h.length) (q : zOk F g x sh gp wi bk) {C : Nat → Nat → Nat} {Z : Nat → Nat} (qs : zses F (g 4) (F 31 1) (g 0) C Z) (s : Nat) (hs : s < g 4) : zcalls zTB 7 [.ref b, .int (nI s), .int (nI 4)] (nput b F g h) (some (.int (F 16 s)), nput b F g h) := by
  have hS := q.S70
  have hn := q.nb.n70
  obtain ⟨hz0, hzn, hz1, hz2, hz3, hz4⟩ := qs.sz s hs
  have hc0 := (qs.el s hs 0 hz0).1
  have hc1 := (qs.el s hs (Z s - 1) (by omega)).1
  refine zcalls_of (Nat.le_of_ble_eq_true rfl) ?_
  show zruns zTB 7 0 [some (.ref b), some (.int (nI s)), some (.int (nI 4))] [] _ _
  refine zr_aload_n (pc' := 1) zi_7_0 rfl rfl ?_
  refine zr_iload_n (pc' := 2) zi_7_1 rfl rfl ?_
  refine zr_v1 (pc' := 5) zi_7_2 (nput_at hb (k := 0) rfl) rfl (c_hasSession hb s hs hS) rfl ?_
  refine zr_if (pc' := 8) zi_7_5 rfl (fun h5 => ?_) (fun h5 => ?_)
  · replace h5 := zc_ne_t h5
    refine zr_iload_n (pc' := 19) zi_7_18 rfl rfl ?_
    refine zr_bipush (v := (nI 6)) (pc' := 21) zi_7_19 rfl rfl ?_
    refine zr_s2 (pc' := 24) zi_7_21 rfl (c_inN _ _ (by omega) (by omega)) rfl ?_
    refine zr_if (pc' := 27) zi_7_24 rfl (fun h24 => ?_) (fun h24 => ?_)
    · replace h24 := zc_ne_t h24
      refine zr_iload_n (pc' := 38) zi_7_37 rfl rfl ?_
      refine zr_table_in zi_7_38 4 (by decide) (by decide) rfl ?_
      refine zr_aload_n (pc' := 155) zi_7_154 rfl rfl ?_
      refine zr_get (pc' := 158) zi_7_155 (nput_at hb (k := 0) rfl) rfl rfl ?_
      refine zr_get (pc' := 161) zi_7_158 (nput_at hb (k := 26) rfl) rfl rfl ?_
      refine zr_iload_n (pc' := 162) zi_7_161 rfl rfl ?_
      refine zr_atN (pc' := 165) (by omega) zi_7_162 hb rfl rfl (by decide) rfl rfl ?_
      exact zr_ireturn zi_7_165 rfl
    · replace h24 := zc_ne_f h24
      exact absurd h24 (by decide)
      
      
  · replace h5 := zc_ne_f h5
    exact absurd h5 (by decide)
theorem c_ofSession6 (hb : b + 71 ≤ h.length) (q : zOk F g x sh gp wi bk) {C : Nat → Nat → Nat} {Z : Nat → Nat} (qs : zses F (g 4) (F 31 1) (g 0) C Z) (s : Nat) (hs : s < g 4) : zcalls zTB 7 [.ref b, .int (nI s), .int (nI 6)] (nput b F g h) (some (.int (nI (zU F (g 4) s))), nput b F g h) := by
  have hS := q.S70
  have hn := q.nb.n70
  obtain ⟨hz0, hzn, hz1, hz2, hz3, hz4⟩ := qs.sz s hs
  have hc0 := (qs.el s hs 0 hz0).1
  have hc1 := (qs.el s hs (Z s - 1) (by omega)).1
  refine zcalls_of (Nat.le_of_ble_eq_true rfl) ?_
  show zruns zTB 7 0 [some (.ref b), some (.int (nI s)), some (.int (nI 6))] [] _ _
  refine zr_aload_n (pc' := 1) zi_7_0 rfl rfl ?_
  refine zr_iload_n (pc' := 2) zi_7_1 rfl rfl ?_
  refine zr_v1 (pc' := 5) zi_7_2 (nput_at hb (k := 0) rfl) rfl (c_hasSession hb s hs hS) rfl ?_
  refine zr_if (pc' := 8) zi_7_5 rfl (fun h5 => ?_) (fun h5 => ?_)
  · replace h5 := zc_ne_t h5
    refine zr_iload_n (pc' := 19) zi_7_18 rfl rfl ?_
    refine zr_bipush (v := (nI 6)) (pc' := 21) zi_7_19 rfl rfl ?_
    refine zr_s2 (pc' := 24) zi_7_21 rfl (c_inN _ _ (by omega) (by omega)) rfl ?_
    refine zr_if (pc' := 27) zi_7_24 rfl (fun h24 => ?_) (fun h24 => ?_)
    · replace h24 := zc_ne_t h24
      refine zr_iload_n (pc' := 38) zi_7_37 rfl rfl ?_
      refine zr_table_out zi_7_38 (by decide) ?_
      refine zr_aload_n (pc' := 180) zi_7_179 rfl rfl ?_
      refine zr_get (pc' := 183) zi_7_180 (nput_at hb (k := 0) rfl) rfl rfl ?_
      refine zr_iload_n (pc' := 184) zi_7_183 rfl rfl ?_
      refine zr_v1 (pc' := 187) zi_7_184 (nput_at hb (k := 26) rfl) rfl (c_howManyAlike hb (g 4) hS q.to.pa s hs) rfl ?_
      exact zr_ireturn zi_7_187 rfl
    · replace h24 := zc_ne_f h24
      exact absurd h24 (by decide)
      
  · replace h5 := zc_ne_f h5
    exact absurd h5 (by decide)
theorem c_ofSession5 (hb : b + 71 ≤ h.length) (q : zOk F g x sh gp wi bk) {C : Nat → Nat → Nat} {Z : Nat → Nat} (qs : zses F (g 4) (F 31 1) (g 0) C Z) (s : Nat) (hs : s < g 4) : ∃ r, (∃ a, a ≤ Z s ∧ r = nI a) ∧ zcalls zTB 7 [.ref b, .int (nI s), .int (nI 5)] (nput b F g h) (some (.int r), nput b F g h) := by
  have hS := q.S70
  have hn := q.nb.n70
  obtain ⟨r, hr, hc⟩ := c_howManyTemplates hb (g := g) qs hn s hs (q.tk qs s hs)
  refine ⟨r, hr, ?_⟩
  refine zcalls_of (Nat.le_of_ble_eq_true rfl) ?_
  show zruns zTB 7 0 [some (.ref b), some (.int (nI s)), some (.int (nI 5))] [] _ _
  refine zr_aload_n (pc' := 1) zi_7_0 rfl rfl ?_
  refine zr_iload_n (pc' := 2) zi_7_1 rfl rfl ?_
  refine zr_v1 (pc' := 5) zi_7_2 (nput_at hb (k := 0) rfl) rfl (c_hasSession hb s hs hS) rfl ?_
  refine zr_if (pc' := 8) zi_7_5 rfl (fun h5 => ?_) (fun h5 => ?_)
  · replace h5 := zc_ne_t h5
    refine zr_iload_n (pc' := 19) zi_7_18 rfl rfl ?_
    refine zr_bipush (v := (nI 6)) (pc' := 21) zi_7_19 rfl rfl ?_
    refine zr_s2 (pc' := 24) zi_7_21 rfl (c_inN _ _ (by omega) (by omega)) rfl ?_
    refine zr_if (pc' := 27) zi_7_24 rfl (fun h24 => ?_) (fun h24 => ?_)
    · replace h24 := zc_ne_t h24
      refine zr_iload_n (pc' := 38) zi_7_37 rfl rfl ?_
      refine zr_table_in zi_7_38 5 (by decide) (by decide) rfl ?_
      refine zr_aload_n (pc' := 167) zi_7_166 rfl rfl ?_
      refine zr_get (pc' := 170) zi_7_167 (nput_at hb (k := 0) rfl) rfl rfl ?_
      refine zr_aload_n (pc' := 171) zi_7_170 rfl rfl ?_
      refine zr_get (pc' := 174) zi_7_171 (nput_at hb (k := 0) rfl) rfl rfl ?_
      refine zr_iload_n (pc' := 175) zi_7_174 rfl rfl ?_
      refine zr_v2 (pc' := 178) zi_7_175 (nput_at hb (k := 26) rfl) rfl hc rfl ?_
      exact zr_ireturn zi_7_178 rfl
    · replace h24 := zc_ne_f h24
      exact absurd h24 (by decide)
  · replace h5 := zc_ne_f h5
    exact absurd h5 (by decide)
theorem c_inSession (hb : b + 71 ≤ h.length) (q : zOk F g x sh gp wi bk) {C : Nat → Nat → Nat} {Z : Nat → Nat} (qs : zses F (g 4) (F 31 1) (g 0) C Z) (s k : Nat) (hs : s < g 4) (hk : k < Z s) : zcalls zTB 16 [.ref b, .int (nI s), .int (nI k)] (nput b F g h) (some (.int (nI (C s k))), nput b F g h) := by
  have hS := q.S70
  have hn := q.nb.n70
  obtain ⟨hz0, hzn, hz1, hz2, hz3, hz4⟩ := qs.sz s hs
  refine zcalls_of (Nat.le_of_ble_eq_true rfl) ?_
  show zruns zTB 16 0 [some (.ref b), some (.int (nI s)), some (.int (nI k))] [] _ _
  refine zr_aload_n (pc' := 1) zi_16_0 rfl rfl ?_
  refine zr_iload_n (pc' := 2) zi_16_1 rfl rfl ?_
  refine zr_v1 (pc' := 5) zi_16_2 (nput_at hb (k := 0) rfl) rfl (c_hasSession hb s hs hS) rfl ?_
  refine zr_if (pc' := 8) zi_16_5 rfl (fun h5 => ?_) (fun h5 => ?_)
  · replace h5 := zc_ne_t h5
    refine zr_iload_n (pc' := 19) zi_16_18 rfl rfl ?_
    refine zr_if (pc' := 22) zi_16_19 rfl (fun h19 => ?_) (fun h19 => ?_)
    · replace h19 := zx_lt_t h19
      exact absurd h19 (nI_pos (by omega))
    · replace h19 := zx_lt_f h19
      refine zr_iload_n (pc' := 23) zi_16_22 rfl rfl ?_
      refine zr_aload_n (pc' := 24) zi_16_23 rfl rfl ?_
      refine zr_get (pc' := 27) zi_16_24 (nput_at hb (k := 0) rfl) rfl rfl ?_
      refine zr_get (pc' := 30) zi_16_27 (nput_at hb (k := 26) rfl) rfl rfl ?_
      refine zr_iload_n (pc' := 31) zi_16_30 rfl rfl ?_
      refine zr_atN (pc' := 34) (by omega) zi_16_31 hb rfl rfl (by decide) rfl rfl ?_
      rw [hz3]
      refine zr_icmp (pc' := 37) zi_16_34 rfl (fun h34 => ?_) (fun h34 => ?_)
      · replace h34 := zc_lt_t (by omega) (by omega) h34
        refine zr_aload_n (pc' := 48) zi_16_47 rfl rfl ?_
        refine zr_get (pc' := 51) zi_16_48 (nput_at hb (k := 0) rfl) rfl rfl ?_
        refine zr_iload_n (pc' := 52) zi_16_51 rfl rfl ?_
        refine zr_iload_n (pc' := 53) zi_16_52 rfl rfl ?_
        refine zr_v2 (pc' := 56) zi_16_53 (nput_at hb (k := 26) rfl) rfl (c_lineIn hb qs hn s k hs hk) rfl ?_
        exact zr_ireturn zi_16_56 rfl
      · replace h34 := zc_lt_f (by omega) (by omega) h34
        omega
  · replace h5 := zc_ne_f h5
    exact absurd h5 (by decide)
theorem c_usual (hb : b + 71 ≤ h.length) (q : zOk F g x sh gp wi bk) : ∃ r, ((g 4 = 0 ∧ r = -1) ∨ ∃ e, e < g 4 ∧ r = nI e ∧ ∀ y, y < g 4 → zU F (g 4) y ≤ zU F (g 4) e) ∧ zcalls zTB 27 [.ref b] (nput b F g h) (some (.int r), nput b F g h) := by
  have hS := q.S70
  obtain ⟨r, hr, hc⟩ := c_mostAlike hb (F := F) (g := g) hS (zU F (g 4)) (fun s hs => ⟨⟨zU_pos hs, Nat.le_trans (zU_le _ _) hS⟩, c_howManyAlike hb _ hS q.to.pa s hs⟩)
  refine ⟨r, hr, ?_⟩
  refine zcalls_of (Nat.le_of_ble_eq_true rfl) ?_
  show zruns zTB 27 0 [some (.ref b)] [] _ _
  refine zr_aload_n (pc' := 1) zi_27_0 rfl rfl ?_
  refine zr_get (pc' := 4) zi_27_1 (nput_at hb (k := 0) rfl) rfl rfl ?_
  refine zr_v0 (pc' := 7) zi_27_4 (nput_at hb (k := 26) rfl) rfl hc rfl ?_
  exact zr_ireturn zi_27_7 rfl
theorem zqu_N (y w : Nat) (hy : y < 2 ^ 31) (h0 : 0 < w) (hw : w < 2 ^ 31) : zqu (nI y) (nI w) = nI (y / w) := by
  unfold zqu
  rw [if_neg (nI_ne0 h0 hw), pk_div hy h0 hw]
theorem c_count (hb : b + 71 ≤ h.length) (q : zOk F g x sh gp wi bk) (t v : Nat) (ht : t < g 2) (hv : v ≤ 9999) : zcalls zTB 90 [.ref b, .int (nI t), .int (nI v)] (nput b F g h) (some (.int (nI (zcnt (fun j => decide (F 5 j = nI t ∧ x j / wi = v)) (g 1)))), nput b F g h) := by
  have hT := q.nb.t20
  have hn := q.nb.n70
  have hm := q.nb.mn
  have hc := c_howManyBetween hb (F := F) (g := g) (nI t) (nI v) (nI v) (nI wi) (by omega)
  rw [zcnt_ext (q := fun j => decide (F 5 j = nI t ∧ x j / wi = v)) (fun j hj => by
    obtain ⟨h1, h2⟩ := q.nb.tm j (by omega)
    have hd : x j / wi ≤ x j := Nat.div_le_self _ _
    rw [h1, zqu_N _ _ (by omega) q.nb.s2.2.1 (by have := q.nb.s2.2.2; omega)]
    refine decide_eq_decide.mpr ⟨fun w => ⟨w.1, ?_⟩, fun w => ⟨w.1, ?_, ?_⟩⟩
    · have h3 := (nI_leI (by omega) (by omega)).mp w.2.1
      have h4 := (nI_leI (by omega) (by omega)).mp w.2.2
      omega
    · rw [w.2]
      exact Int32.le_refl _
    · rw [w.2]
      exact Int32.le_refl _)] at hc
  refine zcalls_of (Nat.le_of_ble_eq_true rfl) ?_
  show zruns zTB 90 0 [some (.ref b), some (.int (nI t)), some (.int (nI v))] [] _ _
  refine zr_aload_n (pc' := 1) zi_90_0 rfl rfl ?_
  refine zr_iload_n (pc' := 2) zi_90_1 rfl rfl ?_
  refine zr_v1 (pc' := 5) zi_90_2 (nput_at hb (k := 0) rfl) rfl (c_hasTemplate hb t ht hT) rfl ?_
  refine zr_if (pc' := 8) zi_90_5 rfl (fun h5 => ?_) (fun h5 => ?_)
  · replace h5 := zc_ne_t h5
    refine zr_iload_n (pc' := 19) zi_90_18 rfl rfl ?_
    refine zr_if (pc' := 22) zi_90_19 rfl (fun h19 => ?_) (fun h19 => ?_)
    · replace h19 := zx_ge_t h19
      refine zr_aload_n (pc' := 33) zi_90_32 rfl rfl ?_
      refine zr_get (pc' := 36) zi_90_33 (nput_at hb (k := 0) rfl) rfl rfl ?_
      refine zr_iload_n (pc' := 37) zi_90_36 rfl rfl ?_
      refine zr_iload_n (pc' := 38) zi_90_37 rfl rfl ?_
      refine zr_iload_n (pc' := 39) zi_90_38 rfl rfl ?_
      refine zr_aload_n (pc' := 40) zi_90_39 rfl rfl ?_
      refine zr_get (pc' := 43) zi_90_40 (nput_at hb (k := 0) rfl) rfl rfl ?_
      refine zr_iconst (v := (nI 2)) (pc' := 44) zi_90_43 rfl rfl ?_
      refine zr_atN (pc' := 47) (by omega) zi_90_44 hb rfl rfl (by decide) rfl rfl ?_
      rw [q.nb.s2.1]
      refine zr_v4 (pc' := 50) zi_90_47 (nput_at hb (k := 1) rfl) rfl hc rfl ?_
      exact zr_ireturn zi_90_50 rfl
    · replace h19 := zx_ge_f h19
      exact absurd (nI_pos' (by omega)) h19
  · replace h5 := zc_ne_f h5
    exact absurd h5 (by decide)
theorem c_spike0 (hb : b + 71 ≤ h.length) (q : zOk F g x sh gp wi bk) (k : Nat) (hk : k < g 5) : zcalls zTB 13 [.ref b, .int (nI k), .int (nI 0)] (nput b F g h) (some (.int (F 19 k)), nput b F g h) := by
  obtain ⟨vv, hP, _⟩ := q.to.sp
  refine zcalls_of (Nat.le_of_ble_eq_true rfl) ?_
  show zruns zTB 13 0 [some (.ref b), some (.int (nI k)), some (.int (nI 0))] [] _ _
  refine zr_iload_n (pc' := 1) zi_13_0 rfl rfl ?_
  refine zr_if (pc' := 4) zi_13_1 rfl (fun h1 => ?_) (fun h1 => ?_)
  · replace h1 := zx_lt_t h1
    exact absurd h1 (nI_pos (by omega))
  · replace h1 := zx_lt_f h1
    refine zr_iload_n (pc' := 5) zi_13_4 rfl rfl ?_
    refine zr_aload_n (pc' := 6) zi_13_5 rfl rfl ?_
    refine zr_get (pc' := 9) zi_13_6 (nput_at hb (k := 0) rfl) rfl rfl ?_
    refine zr_get (pc' := 12) zi_13_9 (nput_at hb (k := 43) rfl) rfl rfl ?_
    refine zr_icmp (pc' := 15) zi_13_12 rfl (fun h12 => ?_) (fun h12 => ?_)
    · replace h12 := zc_lt_t (by omega) (by omega) h12
      refine zr_iload_n (pc' := 26) zi_13_25 rfl rfl ?_
      refine zr_iconst (v := (nI 2)) (pc' := 27) zi_13_26 rfl rfl ?_
      refine zr_s2 (pc' := 30) zi_13_27 rfl (c_inN _ _ (by omega) (by omega)) rfl ?_
      refine zr_if (pc' := 33) zi_13_30 rfl (fun h30 => ?_) (fun h30 => ?_)
      · replace h30 := zc_ne_t h30
        refine zr_iload_n (pc' := 44) zi_13_43 rfl rfl ?_
        refine zr_lookup (t := 72) zi_13_44 rfl ?_
        refine zr_aload_n (pc' := 73) zi_13_72 rfl rfl ?_
        refine zr_get (pc' := 76) zi_13_73 (nput_at hb (k := 0) rfl) rfl rfl ?_
        refine zr_get (pc' := 79) zi_13_76 (nput_at hb (k := 43) rfl) rfl rfl ?_
        refine zr_iload_n (pc' := 80) zi_13_79 rfl rfl ?_
        refine zr_atN (pc' := 83) (by omega) zi_13_80 hb rfl rfl (by decide) rfl rfl ?_
        exact zr_ireturn zi_13_83 rfl
      · replace h30 := zc_ne_f h30
        exact absurd h30 (by decide)
    · replace h12 := zc_lt_f (by omega) (by omega) h12
      omega
theorem c_spike1 (hb : b + 71 ≤ h.length) (q : zOk F g x sh gp wi bk) (k : Nat) (hk : k < g 5) : zcalls zTB 13 [.ref b, .int (nI k), .int (nI 1)] (nput b F g h) (some (.int (F 20 k)), nput b F g h) := by
  obtain ⟨vv, hP, _⟩ := q.to.sp
  refine zcalls_of (Nat.le_of_ble_eq_true rfl) ?_
  show zruns zTB 13 0 [some (.ref b), some (.int (nI k)), some (.int (nI 1))] [] _ _
  refine zr_iload_n (pc' := 1) zi_13_0 rfl rfl ?_
  refine zr_if (pc' := 4) zi_13_1 rfl (fun h1 => ?_) (fun h1 => ?_)
  · replace h1 := zx_lt_t h1
    exact absurd h1 (nI_pos (by omega))
  · replace h1 := zx_lt_f h1
    refine zr_iload_n (pc' := 5) zi_13_4 rfl rfl ?_
    refine zr_aload_n (pc' := 6) zi_13_5 rfl rfl ?_
    refine zr_get (pc' := 9) zi_13_6 (nput_at hb (k := 0) rfl) rfl rfl ?_
    refine zr_get (pc' := 12) zi_13_9 (nput_at hb (k := 43) rfl) rfl rfl ?_
    refine zr_icmp (pc' := 15) zi_13_12 rfl (fun h12 => ?_) (fun h12 => ?_)
    · replace h12 := zc_lt_t (by omega) (by omega) h12
      refine zr_iload_n (pc' := 26) zi_13_25 rfl rfl ?_
      refine zr_iconst (v := (nI 2)) (pc' := 27) zi_13_26 rfl rfl ?_
      refine zr_s2 (pc' := 30) zi_13_27 rfl (c_inN _ _ (by omega) (by omega)) rfl ?_
      refine zr_if (pc' := 33) zi_13_30 rfl (fun h30 => ?_) (fun h30 => ?_)
      · replace h30 := zc_ne_t h30
        refine zr_iload_n (pc' := 44) zi_13_43 rfl rfl ?_
        refine zr_lookup (t := 84) zi_13_44 rfl ?_
        refine zr_aload_n (pc' := 85) zi_13_84 rfl rfl ?_
        refine zr_get (pc' := 88) zi_13_85 (nput_at hb (k := 0) rfl) rfl rfl ?_
        refine zr_get (pc' := 91) zi_13_88 (nput_at hb (k := 43) rfl) rfl rfl ?_
        refine zr_iload_n (pc' := 92) zi_13_91 rfl rfl ?_
        refine zr_atN (pc' := 95) (by omega) zi_13_92 hb rfl rfl (by decide) rfl rfl ?_
        exact zr_ireturn zi_13_95 rfl
      · replace h30 := zc_ne_f h30
        exact absurd h30 (by decide)
    · replace h12 := zc_lt_f (by omega) (by omega) h12
      omega
theorem c_spike2 (hb : b + 71 ≤ h.length) (q : zOk F g x sh gp wi bk) (k : Nat) (hk : k < g 5) : zcalls zTB 13 [.ref b, .int (nI k), .int (nI 2)] (nput b F g h) (some (.int (F 21 k)), nput b F g h) := by
  obtain ⟨vv, hP, _⟩ := q.to.sp
  refine zcalls_of (Nat.le_of_ble_eq_true rfl) ?_
  show zruns zTB 13 0 [some (.ref b), some (.int (nI k)), some (.int (nI 2))] [] _ _
  refine zr_iload_n (pc' := 1) zi_13_0 rfl rfl ?_
  refine zr_if (pc' := 4) zi_13_1 rfl (fun h1 => ?_) (fun h1 => ?_)
  · replace h1 := zx_lt_t h1
    exact absurd h1 (nI_pos (by omega))
  · replace h1 := zx_lt_f h1
    refine zr_iload_n (pc' := 5) zi_13_4 rfl rfl ?_
    refine zr_aload_n (pc' := 6) zi_13_5 rfl rfl ?_
    refine zr_get (pc' := 9) zi_13_6 (nput_at hb (k := 0) rfl) rfl rfl ?_
    refine zr_get (pc' := 12) zi_13_9 (nput_at hb (k := 43) rfl) rfl rfl ?_
    refine zr_icmp (pc' := 15) zi_13_12 rfl (fun h12 => ?_) (fun h12 => ?_)
    · replace h12 := zc_lt_t (by omega) (by omega) h12
      refine zr_iload_n (pc' := 26) zi_13_25 rfl rfl ?_
      refine zr_iconst (v := (nI 2)) (pc' := 27) zi_13_26 rfl rfl ?_
      refine zr_s2 (pc' := 30) zi_13_27 rfl (c_inN _ _ (by omega) (by omega)) rfl ?_
      refine zr_if (pc' := 33) zi_13_30 rfl (fun h30 => ?_) (fun h30 => ?_)
      · replace h30 := zc_ne_t h30
        refine zr_iload_n (pc' := 44) zi_13_43 rfl rfl ?_
        refine zr_lookup (t := 96) zi_13_44 rfl ?_
        refine zr_aload_n (pc' := 97) zi_13_96 rfl rfl ?_
        refine zr_get (pc' := 100) zi_13_97 (nput_at hb (k := 0) rfl) rfl rfl ?_
        refine zr_get (pc' := 103) zi_13_100 (nput_at hb (k := 43) rfl) rfl rfl ?_
        refine zr_iload_n (pc' := 104) zi_13_103 rfl rfl ?_
        refine zr_atN (pc' := 107) (by omega) zi_13_104 hb rfl rfl (by decide) rfl rfl ?_
        exact zr_ireturn zi_13_107 rfl
      · replace h30 := zc_ne_f h30
        exact absurd h30 (by decide)
    · replace h12 := zc_lt_f (by omega) (by omega) h12
      omega
theorem c_causes (hb : b + 71 ≤ h.length) (q : zOk F g x sh gp wi bk) (t : Nat) (ht : t < g 2) : zcalls zTB 28 [.ref b, .int (nI t)] (nput b F g h) (some (.int (F 30 t)), nput b F g h) := by
  have hT := q.nb.t20
  refine zcalls_of (Nat.le_of_ble_eq_true rfl) ?_
  show zruns zTB 28 0 [some (.ref b), some (.int (nI t))] [] _ _
  refine zr_aload_n (pc' := 1) zi_28_0 rfl rfl ?_
  refine zr_iload_n (pc' := 2) zi_28_1 rfl rfl ?_
  refine zr_v1 (pc' := 5) zi_28_2 (nput_at hb (k := 0) rfl) rfl (c_hasTemplate hb t ht hT) rfl ?_
  refine zr_if (pc' := 8) zi_28_5 rfl (fun h5 => ?_) (fun h5 => ?_)
  · replace h5 := zc_ne_t h5
    refine zr_aload_n (pc' := 19) zi_28_18 rfl rfl ?_
    refine zr_get (pc' := 22) zi_28_19 (nput_at hb (k := 0) rfl) rfl rfl ?_
    refine zr_get (pc' := 25) zi_28_22 (nput_at hb (k := 52) rfl) rfl rfl ?_
    refine zr_iload_n (pc' := 26) zi_28_25 rfl rfl ?_
    refine zr_atN (pc' := 29) (by omega) zi_28_26 hb rfl rfl (by decide) rfl rfl ?_
    exact zr_ireturn zi_28_29 rfl
  · replace h5 := zc_ne_f h5
    exact absurd h5 (by decide)
theorem c_cause0 (hb : b + 71 ≤ h.length) (q : zOk F g x sh gp wi bk) (t k N : Nat) (ht : t < g 2) (hh R sv : Nat → Nat) (hr : zrk F hh t (g 2) N R sv) (hk : k < N) : zcalls zTB 8 [.ref b, .int (nI t), .int (nI k), .int (nI 0)] (nput b F g h) (some (.int (nI (R k))), nput b F g h) := by
  have hT := q.nb.t20
  obtain ⟨hr1, hr2, hr3, hr4⟩ := hr
  obtain ⟨hk1, hk2, hk3⟩ := hr3 k hk
  refine zcalls_of (Nat.le_of_ble_eq_true rfl) ?_
  show zruns zTB 8 0 [some (.ref b), some (.int (nI t)), some (.int (nI k)), some (.int (nI 0)), none] [] _ _
  refine zr_aload_n (pc' := 1) zi_8_0 rfl rfl ?_
  refine zr_iload_n (pc' := 2) zi_8_1 rfl rfl ?_
  refine zr_v1 (pc' := 5) zi_8_2 (nput_at hb (k := 0) rfl) rfl (c_hasTemplate hb t ht hT) rfl ?_
  refine zr_if (pc' := 8) zi_8_5 rfl (fun h5 => ?_) (fun h5 => ?_)
  · replace h5 := zc_ne_t h5
    refine zr_iload_n (pc' := 19) zi_8_18 rfl rfl ?_
    refine zr_if (pc' := 22) zi_8_19 rfl (fun h19 => ?_) (fun h19 => ?_)
    · replace h19 := zx_lt_t h19
      exact absurd h19 (nI_pos (by omega))
    · replace h19 := zx_lt_f h19
      refine zr_iload_n (pc' := 23) zi_8_22 rfl rfl ?_
      refine zr_aload_n (pc' := 24) zi_8_23 rfl rfl ?_
      refine zr_get (pc' := 27) zi_8_24 (nput_at hb (k := 0) rfl) rfl rfl ?_
      refine zr_get (pc' := 30) zi_8_27 (nput_at hb (k := 52) rfl) rfl rfl ?_
      refine zr_iload_n (pc' := 31) zi_8_30 rfl rfl ?_
      refine zr_atN (pc' := 34) (by omega) zi_8_31 hb rfl rfl (by decide) rfl rfl ?_
      rw [hr1]
      refine zr_icmp (pc' := 37) zi_8_34 rfl (fun h34 => ?_) (fun h34 => ?_)
      · replace h34 := zc_lt_t (by omega) (by omega) h34
        refine zr_iload_n (pc' := 49) zi_8_48 rfl rfl ?_
        refine zr_iconst (v := (nI 3)) (pc' := 50) zi_8_49 rfl rfl ?_
        refine zr_s2 (pc' := 53) zi_8_50 rfl (c_inN _ _ (by omega) (by omega)) rfl ?_
        refine zr_if (pc' := 56) zi_8_53 rfl (fun h53 => ?_) (fun h53 => ?_)
        · replace h53 := zc_ne_t h53
          refine zr_aload_n (pc' := 68) zi_8_67 rfl rfl ?_
          refine zr_get (pc' := 71) zi_8_68 (nput_at hb (k := 0) rfl) rfl rfl ?_
          refine zr_iload_n (pc' := 72) zi_8_71 rfl rfl ?_
          refine zr_iload_n (pc' := 73) zi_8_72 rfl rfl ?_
          refine zr_v2 (pc' := 76) zi_8_73 (nput_at hb (k := 52) rfl) rfl (c_causeOf hb _ _ (by omega)) rfl ?_
          rw [hk1]
          
          refine zr_istore (pc' := 78) zi_8_76 (Nat.le_of_ble_eq_true rfl) rfl rfl ?_
          dsimp only [zst1, zst2, zkill, List.set, List.getElem?_cons_succ, List.getElem?_cons_zero]
          refine zr_iload_n (pc' := 79) zi_8_78 rfl rfl ?_
          refine zr_table_in zi_8_79 0 (by decide) (by decide) rfl ?_
          refine zr_iload (pc' := 106) zi_8_104 rfl rfl ?_
          exact zr_ireturn zi_8_106 rfl
        · replace h53 := zc_ne_f h53
          exact absurd h53 (by decide)
      · replace h34 := zc_lt_f (by omega) (by omega) h34
        omega
  · replace h5 := zc_ne_f h5
    exact absurd h5 (by decide)
theorem c_cause1 (hb : b + 71 ≤ h.length) (q : zOk F g x sh gp wi bk) (t k N : Nat) (ht : t < g 2) (hh R sv : Nat → Nat) (hr : zrk F hh t (g 2) N R sv) (hk : k < N) : zcalls zTB 8 [.ref b, .int (nI t), .int (nI k), .int (nI 1)] (nput b F g h) (some (.int (F 25 (t * 20 + R k))), nput b F g h) := by
  have hT := q.nb.t20
  obtain ⟨hr1, hr2, hr3, hr4⟩ := hr
  obtain ⟨hk1, hk2, hk3⟩ := hr3 k hk
  refine zcalls_of (Nat.le_of_ble_eq_true rfl) ?_
  show zruns zTB 8 0 [some (.ref b), some (.int (nI t)), some (.int (nI k)), some (.int (nI 1)), none] [] _ _
  refine zr_aload_n (pc' := 1) zi_8_0 rfl rfl ?_
  refine zr_iload_n (pc' := 2) zi_8_1 rfl rfl ?_
  refine zr_v1 (pc' := 5) zi_8_2 (nput_at hb (k := 0) rfl) rfl (c_hasTemplate hb t ht hT) rfl ?_
  refine zr_if (pc' := 8) zi_8_5 rfl (fun h5 => ?_) (fun h5 => ?_)
  · replace h5 := zc_ne_t h5
    refine zr_iload_n (pc' := 19) zi_8_18 rfl rfl ?_
    refine zr_if (pc' := 22) zi_8_19 rfl (fun h19 => ?_) (fun h19 => ?_)
    · replace h19 := zx_lt_t h19
      exact absurd h19 (nI_pos (by omega))
    · replace h19 := zx_lt_f h19
      refine zr_iload_n (pc' := 23) zi_8_22 rfl rfl ?_
      refine zr_aload_n (pc' := 24) zi_8_23 rfl rfl ?_
      refine zr_get (pc' := 27) zi_8_24 (nput_at hb (k := 0) rfl) rfl rfl ?_
      refine zr_get (pc' := 30) zi_8_27 (nput_at hb (k := 52) rfl) rfl rfl ?_
      refine zr_iload_n (pc' := 31) zi_8_30 rfl rfl ?_
      refine zr_atN (pc' := 34) (by omega) zi_8_31 hb rfl rfl (by decide) rfl rfl ?_
      rw [hr1]
      refine zr_icmp (pc' := 37) zi_8_34 rfl (fun h34 => ?_) (fun h34 => ?_)
      · replace h34 := zc_lt_t (by omega) (by omega) h34
        refine zr_iload_n (pc' := 49) zi_8_48 rfl rfl ?_
        refine zr_iconst (v := (nI 3)) (pc' := 50) zi_8_49 rfl rfl ?_
        refine zr_s2 (pc' := 53) zi_8_50 rfl (c_inN _ _ (by omega) (by omega)) rfl ?_
        refine zr_if (pc' := 56) zi_8_53 rfl (fun h53 => ?_) (fun h53 => ?_)
        · replace h53 := zc_ne_t h53
          refine zr_aload_n (pc' := 68) zi_8_67 rfl rfl ?_
          refine zr_get (pc' := 71) zi_8_68 (nput_at hb (k := 0) rfl) rfl rfl ?_
          refine zr_iload_n (pc' := 72) zi_8_71 rfl rfl ?_
          refine zr_iload_n (pc' := 73) zi_8_72 rfl rfl ?_
          refine zr_v2 (pc' := 76) zi_8_73 (nput_at hb (k := 52) rfl) rfl (c_causeOf hb _ _ (by omega)) rfl ?_
          rw [hk1]
          refine zr_istore (pc' := 78) zi_8_76 (Nat.le_of_ble_eq_true rfl) rfl rfl ?_
          dsimp only [zst1, zst2, zkill, List.set, List.getElem?_cons_succ, List.getElem?_cons_zero]
          refine zr_iload_n (pc' := 79) zi_8_78 rfl rfl ?_
          refine zr_table_in zi_8_79 1 (by decide) (by decide) rfl ?_
          refine zr_aload_n (pc' := 108) zi_8_107 rfl rfl ?_
          refine zr_get (pc' := 111) zi_8_108 (nput_at hb (k := 0) rfl) rfl rfl ?_
          refine zr_iload_n (pc' := 112) zi_8_111 rfl rfl ?_
          refine zr_iload (pc' := 114) zi_8_112 rfl rfl ?_
          refine zr_v2 (pc' := 117) zi_8_114 (nput_at hb (k := 52) rfl) rfl (c_hits hb _ _ (by omega)) rfl ?_
          exact zr_ireturn zi_8_117 rfl
        · replace h53 := zc_ne_f h53
          exact absurd h53 (by decide)
      · replace h34 := zc_lt_f (by omega) (by omega) h34
        omega
  · replace h5 := zc_ne_f h5
    exact absurd h5 (by decide)
theorem c_cause2 (hb : b + 71 ≤ h.length) (q : zOk F g x sh gp wi bk) (t k N : Nat) (ht : t < g 2) (hh R sv : Nat → Nat) (hr : zrk F hh t (g 2) N R sv) (hk : k < N) : zcalls zTB 8 [.ref b, .int (nI t), .int (nI k), .int (nI 2)] (nput b F g h) (some (.int (F 26 (R k) - F 25 (t * 20 + R k))), nput b F g h) := by
  have hT := q.nb.t20
  obtain ⟨hr1, hr2, hr3, hr4⟩ := hr
  obtain ⟨hk1, hk2, hk3⟩ := hr3 k hk
  refine zcalls_of (Nat.le_of_ble_eq_true rfl) ?_
  show zruns zTB 8 0 [some (.ref b), some (.int (nI t)), some (.int (nI k)), some (.int (nI 2)), none] [] _ _
  refine zr_aload_n (pc' := 1) zi_8_0 rfl rfl ?_
  refine zr_iload_n (pc' := 2) zi_8_1 rfl rfl ?_
  refine zr_v1 (pc' := 5) zi_8_2 (nput_at hb (k := 0) rfl) rfl (c_hasTemplate hb t ht hT) rfl ?_
  refine zr_if (pc' := 8) zi_8_5 rfl (fun h5 => ?_) (fun h5 => ?_)
  · replace h5 := zc_ne_t h5
    refine zr_iload_n (pc' := 19) zi_8_18 rfl rfl ?_
    refine zr_if (pc' := 22) zi_8_19 rfl (fun h19 => ?_) (fun h19 => ?_)
    · replace h19 := zx_lt_t h19
      exact absurd h19 (nI_pos (by omega))
    · replace h19 := zx_lt_f h19
      refine zr_iload_n (pc' := 23) zi_8_22 rfl rfl ?_
      refine zr_aload_n (pc' := 24) zi_8_23 rfl rfl ?_
      refine zr_get (pc' := 27) zi_8_24 (nput_at hb (k := 0) rfl) rfl rfl ?_
      refine zr_get (pc' := 30) zi_8_27 (nput_at hb (k := 52) rfl) rfl rfl ?_
      refine zr_iload_n (pc' := 31) zi_8_30 rfl rfl ?_
      refine zr_atN (pc' := 34) (by omega) zi_8_31 hb rfl rfl (by decide) rfl rfl ?_
      rw [hr1]
      refine zr_icmp (pc' := 37) zi_8_34 rfl (fun h34 => ?_) (fun h34 => ?_)
      · replace h34 := zc_lt_t (by omega) (by omega) h34
        refine zr_iload_n (pc' := 49) zi_8_48 rfl rfl ?_
        refine zr_iconst (v := (nI 3)) (pc' := 50) zi_8_49 rfl rfl ?_
        refine zr_s2 (pc' := 53) zi_8_50 rfl (c_inN _ _ (by omega) (by omega)) rfl ?_
        refine zr_if (pc' := 56) zi_8_53 rfl (fun h53 => ?_) (fun h53 => ?_)
        · replace h53 := zc_ne_t h53
          refine zr_aload_n (pc' := 68) zi_8_67 rfl rfl ?_
          refine zr_get (pc' := 71) zi_8_68 (nput_at hb (k := 0) rfl) rfl rfl ?_
          refine zr_iload_n (pc' := 72) zi_8_71 rfl rfl ?_
          refine zr_iload_n (pc' := 73) zi_8_72 rfl rfl ?_
          refine zr_v2 (pc' := 76) zi_8_73 (nput_at hb (k := 52) rfl) rfl (c_causeOf hb _ _ (by omega)) rfl ?_
          rw [hk1]
          refine zr_istore (pc' := 78) zi_8_76 (Nat.le_of_ble_eq_true rfl) rfl rfl ?_
          dsimp only [zst1, zst2, zkill, List.set, List.getElem?_cons_succ, List.getElem?_cons_zero]
          refine zr_iload_n (pc' := 79) zi_8_78 rfl rfl ?_
          refine zr_table_in zi_8_79 2 (by decide) (by decide) rfl ?_
          refine zr_aload_n (pc' := 119) zi_8_118 rfl rfl ?_
          refine zr_get (pc' := 122) zi_8_119 (nput_at hb (k := 0) rfl) rfl rfl ?_
          refine zr_iload_n (pc' := 123) zi_8_122 rfl rfl ?_
          refine zr_iload (pc' := 125) zi_8_123 rfl rfl ?_
          refine zr_v2 (pc' := 128) zi_8_125 (nput_at hb (k := 52) rfl) rfl (c_rest hb _ _ (by omega) (by omega)) rfl ?_
          exact zr_ireturn zi_8_128 rfl
        · replace h53 := zc_ne_f h53
          exact absurd h53 (by decide)
      · replace h34 := zc_lt_f (by omega) (by omega) h34
        omega
  · replace h5 := zc_ne_f h5
    exact absurd h5 (by decide)
theorem c_cause3 (hb : b + 71 ≤ h.length) (q : zOk F g x sh gp wi bk) (t k N : Nat) (ht : t < g 2) (hh R sv : Nat → Nat) (hr : zrk F hh t (g 2) N R sv) (hk : k < N) : zcalls zTB 8 [.ref b, .int (nI t), .int (nI k), .int (nI 3)] (nput b F g h) (some (.int (F 28 (t * 20 + R k))), nput b F g h) := by
  have hT := q.nb.t20
  obtain ⟨hr1, hr2, hr3, hr4⟩ := hr
  obtain ⟨hk1, hk2, hk3⟩ := hr3 k hk
  refine zcalls_of (Nat.le_of_ble_eq_true rfl) ?_
  show zruns zTB 8 0 [some (.ref b), some (.int (nI t)), some (.int (nI k)), some (.int (nI 3)), none] [] _ _
  refine zr_aload_n (pc' := 1) zi_8_0 rfl rfl ?_
  refine zr_iload_n (pc' := 2) zi_8_1 rfl rfl ?_
  refine zr_v1 (pc' := 5) zi_8_2 (nput_at hb (k := 0) rfl) rfl (c_hasTemplate hb t ht hT) rfl ?_
  refine zr_if (pc' := 8) zi_8_5 rfl (fun h5 => ?_) (fun h5 => ?_)
  · replace h5 := zc_ne_t h5
    refine zr_iload_n (pc' := 19) zi_8_18 rfl rfl ?_
    refine zr_if (pc' := 22) zi_8_19 rfl (fun h19 => ?_) (fun h19 => ?_)
    · replace h19 := zx_lt_t h19
      exact absurd h19 (nI_pos (by omega))
    · replace h19 := zx_lt_f h19
      refine zr_iload_n (pc' := 23) zi_8_22 rfl rfl ?_
      refine zr_aload_n (pc' := 24) zi_8_23 rfl rfl ?_
      refine zr_get (pc' := 27) zi_8_24 (nput_at hb (k := 0) rfl) rfl rfl ?_
      refine zr_get (pc' := 30) zi_8_27 (nput_at hb (k := 52) rfl) rfl rfl ?_
      refine zr_iload_n (pc' := 31) zi_8_30 rfl rfl ?_
      refine zr_atN (pc' := 34) (by omega) zi_8_31 hb rfl rfl (by decide) rfl rfl ?_
      rw [hr1]
      refine zr_icmp (pc' := 37) zi_8_34 rfl (fun h34 => ?_) (fun h34 => ?_)
      · replace h34 := zc_lt_t (by omega) (by omega) h34
        refine zr_iload_n (pc' := 49) zi_8_48 rfl rfl ?_
        refine zr_iconst (v := (nI 3)) (pc' := 50) zi_8_49 rfl rfl ?_
        refine zr_s2 (pc' := 53) zi_8_50 rfl (c_inN _ _ (by omega) (by omega)) rfl ?_
        refine zr_if (pc' := 56) zi_8_53 rfl (fun h53 => ?_) (fun h53 => ?_)
        · replace h53 := zc_ne_t h53
          refine zr_aload_n (pc' := 68) zi_8_67 rfl rfl ?_
          refine zr_get (pc' := 71) zi_8_68 (nput_at hb (k := 0) rfl) rfl rfl ?_
          refine zr_iload_n (pc' := 72) zi_8_71 rfl rfl ?_
          refine zr_iload_n (pc' := 73) zi_8_72 rfl rfl ?_
          refine zr_v2 (pc' := 76) zi_8_73 (nput_at hb (k := 52) rfl) rfl (c_causeOf hb _ _ (by omega)) rfl ?_
          rw [hk1]
          refine zr_istore (pc' := 78) zi_8_76 (Nat.le_of_ble_eq_true rfl) rfl rfl ?_
          dsimp only [zst1, zst2, zkill, List.set, List.getElem?_cons_succ, List.getElem?_cons_zero]
          refine zr_iload_n (pc' := 79) zi_8_78 rfl rfl ?_
          refine zr_table_out zi_8_79 (by decide) ?_
          refine zr_aload_n (pc' := 130) zi_8_129 rfl rfl ?_
          refine zr_get (pc' := 133) zi_8_130 (nput_at hb (k := 0) rfl) rfl rfl ?_
          refine zr_iload_n (pc' := 134) zi_8_133 rfl rfl ?_
          refine zr_iload (pc' := 136) zi_8_134 rfl rfl ?_
          refine zr_v2 (pc' := 139) zi_8_136 (nput_at hb (k := 52) rfl) rfl (c_score hb _ _ (by omega)) rfl ?_
          exact zr_ireturn zi_8_139 rfl
        · replace h53 := zc_ne_f h53
          exact absurd h53 (by decide)
      · replace h34 := zc_lt_f (by omega) (by omega) h34
        omega
  · replace h5 := zc_ne_f h5
    exact absurd h5 (by decide)
theorem c_because (hb : b + 71 ≤ h.length) (q : zOk F g x sh gp wi bk) (l : Nat) (hl : l < g 0) : ∃ r, zbeh F g l (nI bk) r ∧ zcalls zTB 42 [.ref b, .int (nI l)] (nput b F g h) (some (.int r), nput b F g h) := by
  have hn := q.nb.n70
  have hm := q.nb.mn
  have hT := q.nb.t20
  obtain ⟨r, hr, hc⟩ := c_lineBehind hb (F := F) (g := g) l (nI bk) (by omega) (by omega) (by
    rcases Nat.lt_or_ge l (g 1) with w | w
    · rcases q.nb.o2 l w with e | ⟨t, a, h1, h2, _⟩
      · exact .inl e
      · obtain ⟨N, R, sv, h3, h4, h5, _⟩ := q.to.rk t h1
        refine .inr ⟨t, N, by omega, h2, by omega, h3, fun p hp => ?_⟩
        obtain ⟨k1, k2, k3, _⟩ := h5 p hp
        exact ⟨R p, by omega, k3, k1⟩
    · exact .inl (q.nb.o1 l w hl))
  refine ⟨r, hr, ?_⟩
  refine zcalls_of (Nat.le_of_ble_eq_true rfl) ?_
  show zruns zTB 42 0 [some (.ref b), some (.int (nI l))] [] _ _
  refine zr_aload_n (pc' := 1) zi_42_0 rfl rfl ?_
  refine zr_iload_n (pc' := 2) zi_42_1 rfl rfl ?_
  refine zr_v1 (pc' := 5) zi_42_2 (nput_at hb (k := 0) rfl) rfl (c_hasLine hb l hl hn) rfl ?_
  refine zr_if (pc' := 8) zi_42_5 rfl (fun h5 => ?_) (fun h5 => ?_)
  · replace h5 := zc_ne_t h5
    refine zr_aload_n (pc' := 19) zi_42_18 rfl rfl ?_
    refine zr_get (pc' := 22) zi_42_19 (nput_at hb (k := 0) rfl) rfl rfl ?_
    refine zr_aload_n (pc' := 23) zi_42_22 rfl rfl ?_
    refine zr_get (pc' := 26) zi_42_23 (nput_at hb (k := 0) rfl) rfl rfl ?_
    refine zr_iload_n (pc' := 27) zi_42_26 rfl rfl ?_
    refine zr_aload_n (pc' := 28) zi_42_27 rfl rfl ?_
    refine zr_get (pc' := 31) zi_42_28 (nput_at hb (k := 0) rfl) rfl rfl ?_
    refine zr_iconst (v := (nI 3)) (pc' := 32) zi_42_31 rfl rfl ?_
    refine zr_atN (pc' := 35) (by omega) zi_42_32 hb rfl rfl (by decide) rfl rfl ?_
    rw [q.nb.s3.1]
    refine zr_v3 (pc' := 38) zi_42_35 (nput_at hb (k := 52) rfl) rfl hc rfl ?_
    exact zr_ireturn zi_42_38 rfl
  · replace h5 := zc_ne_f h5
    exact absurd h5 (by decide)
theorem l_sessionsWith (hb : b + 71 ≤ h.length) (hn : g 0 ≤ 70) (gap : Nat) (i : Nat) (hi : i ≤ g 0) : zruns zTB 91 25 [some (.ref b), some (.int (nI gap)), some (.int (nI (zcnt (zbg F (nI gap)) i))), some (.int (nI i))] [] (nput b F g h) (some (.int (nI (zcnt (zbg F (nI gap)) (g 0)))), nput b F g h) := by
  refine zr_iload_n (pc' := 26) zi_91_25 rfl rfl ?_
  refine zr_aload_n (pc' := 27) zi_91_26 rfl rfl ?_
  refine zr_get (pc' := 30) zi_91_27 (nput_at hb (k := 0) rfl) rfl rfl ?_
  refine zr_get (pc' := 33) zi_91_30 (nput_at hb (k := 1) rfl) rfl rfl ?_
  refine zr_icmp (pc' := 36) zi_91_33 rfl (fun h33 => ?_) (fun h33 => ?_)
  · replace h33 := zc_ge_t (by omega) (by omega) h33
    refine zr_iload_n (pc' := 73) zi_91_72 rfl rfl ?_
    rw [show g 0 = i by omega]
    exact zr_ireturn zi_91_73 rfl
  · replace h33 := zc_ge_f (by omega) (by omega) h33
    refine zr_aload_n (pc' := 37) zi_91_36 rfl rfl ?_
    refine zr_get (pc' := 40) zi_91_37 (nput_at hb (k := 0) rfl) rfl rfl ?_
    refine zr_get (pc' := 43) zi_91_40 (nput_at hb (k := 1) rfl) rfl rfl ?_
    refine zr_iload_n (pc' := 44) zi_91_43 rfl rfl ?_
    refine zr_atN (pc' := 47) (by omega) zi_91_44 hb rfl rfl (by decide) rfl rfl ?_
    refine zr_if (pc' := 50) zi_91_47 rfl (fun h47 => ?_) (fun h47 => ?_)
    · replace h47 := zx_lt_t h47
      refine zr_iinc (pc' := 69) zi_91_66 rfl (by first | exact n_inc _ | rfl) rfl rfl ?_
      dsimp only [zst1, zst2, zkill, List.set, List.getElem?_cons_succ, List.getElem?_cons_zero]
      refine zr_goto zi_91_69 ?_
      have ih := l_sessionsWith hb hn gap (i + 1) (by omega)
      rw [zcnt_f (by simp only [zbg, decide_eq_false_iff_not]; exact fun w => absurd w.1 (Int32.not_le.mpr h47))] at ih
      exact ih
    · replace h47 := zx_lt_f h47
      refine zr_aload_n (pc' := 51) zi_91_50 rfl rfl ?_
      refine zr_get (pc' := 54) zi_91_51 (nput_at hb (k := 0) rfl) rfl rfl ?_
      refine zr_iload_n (pc' := 55) zi_91_54 rfl rfl ?_
      refine zr_iload_n (pc' := 56) zi_91_55 rfl rfl ?_
      refine zr_v2 (pc' := 59) zi_91_56 (nput_at hb (k := 1) rfl) rfl (c_joined hb i _ (by omega)) rfl ?_
      refine zr_iconst (v := (-1)) (pc' := 60) zi_91_59 rfl rfl ?_
      refine zr_icmp (pc' := 63) zi_91_60 rfl (fun h60 => ?_) (fun h60 => ?_)
      · replace h60 := zc_ne_t h60
        refine zr_iinc (pc' := 69) zi_91_66 rfl (by first | exact n_inc _ | rfl) rfl rfl ?_
        dsimp only [zst1, zst2, zkill, List.set, List.getElem?_cons_succ, List.getElem?_cons_zero]
        refine zr_goto zi_91_69 ?_
        have ih := l_sessionsWith hb hn gap (i + 1) (by omega)
        rw [zcnt_f (by simp only [zbg, decide_eq_false_iff_not]; exact fun w => h60 w.2)] at ih
        exact ih
      · replace h60 := zc_ne_f h60
        refine zr_iinc (pc' := 66) zi_91_63 rfl (by first | exact n_inc _ | rfl) rfl rfl ?_
        dsimp only [zst1, zst2, zkill, List.set, List.getElem?_cons_succ, List.getElem?_cons_zero]
        refine zr_iinc (pc' := 69) zi_91_66 rfl (by first | exact n_inc _ | rfl) rfl rfl ?_
        dsimp only [zst1, zst2, zkill, List.set, List.getElem?_cons_succ, List.getElem?_cons_zero]
        refine zr_goto zi_91_69 ?_
        have ih := l_sessionsWith hb hn gap (i + 1) (by omega)
        rw [zcnt_t (by simp only [zbg, decide_eq_true_eq]; exact ⟨Int32.not_lt.mp h47, h60⟩)] at ih
        exact ih
termination_by g 0 - i
theorem c_sessionsWith (hb : b + 71 ≤ h.length) (q : zOk F g x sh gp wi bk) : zcalls zTB 91 [.ref b, .int (nI gp)] (nput b F g h) (some (.int (nI (g 4))), nput b F g h) := by
  obtain ⟨C, Z, qs⟩ := q.to.se
  have e := qs.ct
  rw [q.nb.s1.1] at e
  have hg := q.nb.s1.2
  rw [e]
  refine zcalls_of (Nat.le_of_ble_eq_true rfl) ?_
  show zruns zTB 91 0 [some (.ref b), some (.int (nI gp)), none, none] [] _ _
  refine zr_iload_n (pc' := 1) zi_91_0 rfl rfl ?_
  refine zr_sipush (v := (nI 1000)) (pc' := 4) zi_91_1 rfl rfl ?_
  refine zr_s2 (pc' := 7) zi_91_4 rfl (c_inN _ _ (by omega) (by omega)) rfl ?_
  refine zr_if (pc' := 10) zi_91_7 rfl (fun h7 => ?_) (fun h7 => ?_)
  · replace h7 := zc_ne_t h7
    refine zr_iconst (v := (nI 0)) (pc' := 22) zi_91_21 rfl rfl ?_
    refine zr_istore_n (pc' := 23) zi_91_22 (Nat.le_of_ble_eq_true rfl) rfl rfl ?_
    dsimp only [zst1, zst2, zkill, List.set, List.getElem?_cons_succ, List.getElem?_cons_zero]
    refine zr_iconst (v := (nI 0)) (pc' := 24) zi_91_23 rfl rfl ?_
    refine zr_istore_n (pc' := 25) zi_91_24 (Nat.le_of_ble_eq_true rfl) rfl rfl ?_
    dsimp only [zst1, zst2, zkill, List.set, List.getElem?_cons_succ, List.getElem?_cons_zero]
    exact l_sessionsWith hb q.nb.n70 gp 0 (Nat.zero_le _)
  · replace h7 := zc_ne_f h7
    exact absurd h7 (by decide)
end


theorem zi_6_0 : zI 6 0 = some (.lload_n 0, []) := by decide +kernel
theorem zi_6_1 : zI 6 1 = some (.ldc2_w 335, [31, 6]) := by decide +kernel
theorem zi_6_4 : zI 6 4 = some (.lmul, []) := by decide +kernel
theorem zi_6_5 : zI 6 5 = some (.iload_n 2, []) := by decide +kernel
theorem zi_6_6 : zI 6 6 = some (.i2l, []) := by decide +kernel
theorem zi_6_7 : zI 6 7 = some (.ladd, []) := by decide +kernel
theorem zi_6_8 : zI 6 8 = some (.lreturn, []) := by decide +kernel
theorem zi_105_0 : zI 105 0 = some (.lload_n 1, []) := by decide +kernel
theorem zi_105_1 : zI 105 1 = some (.lstore 4, []) := by decide +kernel
theorem zi_105_3 : zI 105 3 = some (.iconst 4, []) := by decide +kernel
theorem zi_105_4 : zI 105 4 = some (.istore 6, []) := by decide +kernel
theorem zi_105_6 : zI 105 6 = some (.iload 6, []) := by decide +kernel
theorem zi_105_8 : zI 105 8 = some (.bipush 8, []) := by decide +kernel
theorem zi_105_10 : zI 105 10 = some (.if_icmp .gt 23, [33]) := by decide +kernel
theorem zi_105_13 : zI 105 13 = some (.lload 4, []) := by decide +kernel
theorem zi_105_15 : zI 105 15 = some (.aload_n 0, []) := by decide +kernel
theorem zi_105_16 : zI 105 16 = some (.iload_n 3, []) := by decide +kernel
theorem zi_105_17 : zI 105 17 = some (.iload 6, []) := by decide +kernel
theorem zi_105_19 : zI 105 19 = some (.invokevirtual 314, [95, 0, 2, 6, 438, 439, 118, 437, 0, 436]) := by decide +kernel
theorem zi_105_22 : zI 105 22 = some (.invokestatic 295, [6, 1, 2, 0, 442, 0, 118, 441, 0, 440]) := by decide +kernel
theorem zi_105_25 : zI 105 25 = some (.lstore 4, []) := by decide +kernel
theorem zi_105_27 : zI 105 27 = some (.iinc 6 1, []) := by decide +kernel
theorem zi_105_30 : zI 105 30 = some (.goto (-24), [6]) := by decide +kernel
theorem zi_105_33 : zI 105 33 = some (.lload 4, []) := by decide +kernel
theorem zi_105_35 : zI 105 35 = some (.aload_n 0, []) := by decide +kernel
theorem zi_105_36 : zI 105 36 = some (.iload_n 3, []) := by decide +kernel
theorem zi_105_37 : zI 105 37 = some (.invokevirtual 317, [104, 0, 1, 6, 445, 446, 118, 444, 0, 443]) := by decide +kernel
theorem zi_105_40 : zI 105 40 = some (.invokestatic 295, [6, 1, 2, 0, 442, 0, 118, 441, 0, 440]) := by decide +kernel
theorem zi_105_43 : zI 105 43 = some (.lreturn, []) := by decide +kernel
theorem zi_106_0 : zI 106 0 = some (.lload_n 1, []) := by decide +kernel
theorem zi_106_1 : zI 106 1 = some (.iload_n 3, []) := by decide +kernel
theorem zi_106_2 : zI 106 2 = some (.invokestatic 295, [6, 1, 2, 0, 442, 0, 118, 441, 0, 440]) := by decide +kernel
theorem zi_106_5 : zI 106 5 = some (.lstore 4, []) := by decide +kernel
theorem zi_106_7 : zI 106 7 = some (.iconst 0, []) := by decide +kernel
theorem zi_106_8 : zI 106 8 = some (.istore 6, []) := by decide +kernel
theorem zi_106_10 : zI 106 10 = some (.iload 6, []) := by decide +kernel
theorem zi_106_12 : zI 106 12 = some (.iconst 4, []) := by decide +kernel
theorem zi_106_13 : zI 106 13 = some (.if_icmp .gt 23, [36]) := by decide +kernel
theorem zi_106_16 : zI 106 16 = some (.lload 4, []) := by decide +kernel
theorem zi_106_18 : zI 106 18 = some (.aload_n 0, []) := by decide +kernel
theorem zi_106_19 : zI 106 19 = some (.iload_n 3, []) := by decide +kernel
theorem zi_106_20 : zI 106 20 = some (.iload 6, []) := by decide +kernel
theorem zi_106_22 : zI 106 22 = some (.invokevirtual 320, [96, 0, 2, 6, 449, 450, 118, 448, 0, 447]) := by decide +kernel
theorem zi_106_25 : zI 106 25 = some (.invokestatic 295, [6, 1, 2, 0, 442, 0, 118, 441, 0, 440]) := by decide +kernel
theorem zi_106_28 : zI 106 28 = some (.lstore 4, []) := by decide +kernel
theorem zi_106_30 : zI 106 30 = some (.iinc 6 1, []) := by decide +kernel
theorem zi_106_33 : zI 106 33 = some (.goto (-23), [10]) := by decide +kernel
theorem zi_106_36 : zI 106 36 = some (.aload_n 0, []) := by decide +kernel
theorem zi_106_37 : zI 106 37 = some (.getfield 19, [6, 1, 13]) := by decide +kernel
theorem zi_106_40 : zI 106 40 = some (.getfield 174, [5, 0, 384]) := by decide +kernel
theorem zi_106_43 : zI 106 43 = some (.iload_n 3, []) := by decide +kernel
theorem zi_106_44 : zI 106 44 = some (.invokevirtual 83, [0, 0, 1, 1, 10, 11, 12, 9, 0, 56]) := by decide +kernel
theorem zi_106_47 : zI 106 47 = some (.istore 6, []) := by decide +kernel
theorem zi_106_49 : zI 106 49 = some (.iconst 0, []) := by decide +kernel
theorem zi_106_50 : zI 106 50 = some (.istore 7, []) := by decide +kernel
theorem zi_106_52 : zI 106 52 = some (.iload 7, []) := by decide +kernel
theorem zi_106_54 : zI 106 54 = some (.iload 6, []) := by decide +kernel
theorem zi_106_56 : zI 106 56 = some (.if_icmp .ge 23, [79]) := by decide +kernel
theorem zi_106_59 : zI 106 59 = some (.lload 4, []) := by decide +kernel
theorem zi_106_61 : zI 106 61 = some (.aload_n 0, []) := by decide +kernel
theorem zi_106_62 : zI 106 62 = some (.iload_n 3, []) := by decide +kernel
theorem zi_106_63 : zI 106 63 = some (.iload 7, []) := by decide +kernel
theorem zi_106_65 : zI 106 65 = some (.invokevirtual 323, [97, 0, 2, 6, 453, 454, 118, 452, 0, 451]) := by decide +kernel
theorem zi_106_68 : zI 106 68 = some (.invokestatic 295, [6, 1, 2, 0, 442, 0, 118, 441, 0, 440]) := by decide +kernel
theorem zi_106_71 : zI 106 71 = some (.lstore 4, []) := by decide +kernel
theorem zi_106_73 : zI 106 73 = some (.iinc 7 1, []) := by decide +kernel
theorem zi_106_76 : zI 106 76 = some (.goto (-24), [52]) := by decide +kernel
theorem zi_106_79 : zI 106 79 = some (.aload_n 0, []) := by decide +kernel
theorem zi_106_80 : zI 106 80 = some (.getfield 19, [6, 1, 13]) := by decide +kernel
theorem zi_106_83 : zI 106 83 = some (.iload_n 3, []) := by decide +kernel
theorem zi_106_84 : zI 106 84 = some (.invokevirtual 175, [39, 0, 1, 5, 387, 388, 139, 386, 0, 385]) := by decide +kernel
theorem zi_106_87 : zI 106 87 = some (.istore 7, []) := by decide +kernel
theorem zi_106_89 : zI 106 89 = some (.iconst 0, []) := by decide +kernel
theorem zi_106_90 : zI 106 90 = some (.istore 8, []) := by decide +kernel
theorem zi_106_92 : zI 106 92 = some (.iload 8, []) := by decide +kernel
theorem zi_106_94 : zI 106 94 = some (.iload 7, []) := by decide +kernel
theorem zi_106_96 : zI 106 96 = some (.if_icmp .ge 23, [119]) := by decide +kernel
theorem zi_106_99 : zI 106 99 = some (.lload 4, []) := by decide +kernel
theorem zi_106_101 : zI 106 101 = some (.aload_n 0, []) := by decide +kernel
theorem zi_106_102 : zI 106 102 = some (.iload_n 3, []) := by decide +kernel
theorem zi_106_103 : zI 106 103 = some (.iload 8, []) := by decide +kernel
theorem zi_106_105 : zI 106 105 = some (.invokevirtual 326, [98, 0, 2, 6, 457, 458, 118, 456, 0, 455]) := by decide +kernel
theorem zi_106_108 : zI 106 108 = some (.invokestatic 295, [6, 1, 2, 0, 442, 0, 118, 441, 0, 440]) := by decide +kernel
theorem zi_106_111 : zI 106 111 = some (.lstore 4, []) := by decide +kernel
theorem zi_106_113 : zI 106 113 = some (.iinc 8 1, []) := by decide +kernel
theorem zi_106_116 : zI 106 116 = some (.goto (-24), [92]) := by decide +kernel
theorem zi_106_119 : zI 106 119 = some (.aload_n 0, []) := by decide +kernel
theorem zi_106_120 : zI 106 120 = some (.iload_n 3, []) := by decide +kernel
theorem zi_106_121 : zI 106 121 = some (.invokevirtual 329, [102, 0, 1, 6, 461, 462, 118, 460, 0, 459]) := by decide +kernel
theorem zi_106_124 : zI 106 124 = some (.istore 8, []) := by decide +kernel
theorem zi_106_126 : zI 106 126 = some (.lload 4, []) := by decide +kernel
theorem zi_106_128 : zI 106 128 = some (.iload 8, []) := by decide +kernel
theorem zi_106_130 : zI 106 130 = some (.invokestatic 295, [6, 1, 2, 0, 442, 0, 118, 441, 0, 440]) := by decide +kernel
theorem zi_106_133 : zI 106 133 = some (.lstore 4, []) := by decide +kernel
theorem zi_106_135 : zI 106 135 = some (.iconst 0, []) := by decide +kernel
theorem zi_106_136 : zI 106 136 = some (.istore 9, []) := by decide +kernel
theorem zi_106_138 : zI 106 138 = some (.iload 9, []) := by decide +kernel
theorem zi_106_140 : zI 106 140 = some (.iload 8, []) := by decide +kernel
theorem zi_106_142 : zI 106 142 = some (.if_icmp .ge 40, [182]) := by decide +kernel
theorem zi_106_145 : zI 106 145 = some (.iconst 0, []) := by decide +kernel
theorem zi_106_146 : zI 106 146 = some (.istore 10, []) := by decide +kernel
theorem zi_106_148 : zI 106 148 = some (.iload 10, []) := by decide +kernel
theorem zi_106_150 : zI 106 150 = some (.iconst 3, []) := by decide +kernel
theorem zi_106_151 : zI 106 151 = some (.if_icmp .gt 25, [176]) := by decide +kernel
theorem zi_106_154 : zI 106 154 = some (.lload 4, []) := by decide +kernel
theorem zi_106_156 : zI 106 156 = some (.aload_n 0, []) := by decide +kernel
theorem zi_106_157 : zI 106 157 = some (.iload_n 3, []) := by decide +kernel
theorem zi_106_158 : zI 106 158 = some (.iload 9, []) := by decide +kernel
theorem zi_106_160 : zI 106 160 = some (.iload 10, []) := by decide +kernel
theorem zi_106_162 : zI 106 162 = some (.invokevirtual 332, [103, 0, 3, 6, 465, 466, 118, 464, 0, 463]) := by decide +kernel
theorem zi_106_165 : zI 106 165 = some (.invokestatic 295, [6, 1, 2, 0, 442, 0, 118, 441, 0, 440]) := by decide +kernel
theorem zi_106_168 : zI 106 168 = some (.lstore 4, []) := by decide +kernel
theorem zi_106_170 : zI 106 170 = some (.iinc 10 1, []) := by decide +kernel
theorem zi_106_173 : zI 106 173 = some (.goto (-25), [148]) := by decide +kernel
theorem zi_106_176 : zI 106 176 = some (.iinc 9 1, []) := by decide +kernel
theorem zi_106_179 : zI 106 179 = some (.goto (-41), [138]) := by decide +kernel
theorem zi_106_182 : zI 106 182 = some (.lload 4, []) := by decide +kernel
theorem zi_106_184 : zI 106 184 = some (.lreturn, []) := by decide +kernel
theorem zi_129_0 : zI 129 0 = some (.ldc2_w 290, [58085, 536]) := by decide +kernel
theorem zi_129_3 : zI 129 3 = some (.lstore_n 1, []) := by decide +kernel
theorem zi_129_4 : zI 129 4 = some (.iconst 0, []) := by decide +kernel
theorem zi_129_5 : zI 129 5 = some (.istore_n 3, []) := by decide +kernel
theorem zi_129_6 : zI 129 6 = some (.iload_n 3, []) := by decide +kernel
theorem zi_129_7 : zI 129 7 = some (.iconst 5, []) := by decide +kernel
theorem zi_129_8 : zI 129 8 = some (.if_icmp .gt 19, [27]) := by decide +kernel
theorem zi_129_11 : zI 129 11 = some (.lload_n 1, []) := by decide +kernel
theorem zi_129_12 : zI 129 12 = some (.aload_n 0, []) := by decide +kernel
theorem zi_129_13 : zI 129 13 = some (.iload_n 3, []) := by decide +kernel
theorem zi_129_14 : zI 129 14 = some (.invokevirtual 292, [94, 0, 1, 6, 539, 540, 118, 538, 0, 537]) := by decide +kernel
theorem zi_129_17 : zI 129 17 = some (.invokestatic 295, [6, 1, 2, 0, 442, 0, 118, 441, 0, 440]) := by decide +kernel
theorem zi_129_20 : zI 129 20 = some (.lstore_n 1, []) := by decide +kernel
theorem zi_129_21 : zI 129 21 = some (.iinc 3 1, []) := by decide +kernel
theorem zi_129_24 : zI 129 24 = some (.goto (-18), [6]) := by decide +kernel
theorem zi_129_27 : zI 129 27 = some (.iconst 0, []) := by decide +kernel
theorem zi_129_28 : zI 129 28 = some (.istore_n 3, []) := by decide +kernel
theorem zi_129_29 : zI 129 29 = some (.iload_n 3, []) := by decide +kernel
theorem zi_129_30 : zI 129 30 = some (.aload_n 0, []) := by decide +kernel
theorem zi_129_31 : zI 129 31 = some (.getfield 12, [6, 0, 34]) := by decide +kernel
theorem zi_129_34 : zI 129 34 = some (.getfield 71, [0, 7, 35]) := by decide +kernel
theorem zi_129_37 : zI 129 37 = some (.if_icmp .ge 16, [53]) := by decide +kernel
theorem zi_129_40 : zI 129 40 = some (.aload_n 0, []) := by decide +kernel
theorem zi_129_41 : zI 129 41 = some (.lload_n 1, []) := by decide +kernel
theorem zi_129_42 : zI 129 42 = some (.iload_n 3, []) := by decide +kernel
theorem zi_129_43 : zI 129 43 = some (.invokevirtual 299, [105, 0, 2, 6, 543, 544, 118, 542, 0, 541]) := by decide +kernel
theorem zi_129_46 : zI 129 46 = some (.lstore_n 1, []) := by decide +kernel
theorem zi_129_47 : zI 129 47 = some (.iinc 3 1, []) := by decide +kernel
theorem zi_129_50 : zI 129 50 = some (.goto (-21), [29]) := by decide +kernel
theorem zi_129_53 : zI 129 53 = some (.iconst 0, []) := by decide +kernel
theorem zi_129_54 : zI 129 54 = some (.istore_n 3, []) := by decide +kernel
theorem zi_129_55 : zI 129 55 = some (.iload_n 3, []) := by decide +kernel
theorem zi_129_56 : zI 129 56 = some (.aload_n 0, []) := by decide +kernel
theorem zi_129_57 : zI 129 57 = some (.getfield 19, [6, 1, 13]) := by decide +kernel
theorem zi_129_60 : zI 129 60 = some (.getfield 126, [5, 2, 14]) := by decide +kernel
theorem zi_129_63 : zI 129 63 = some (.if_icmp .ge 16, [79]) := by decide +kernel
theorem zi_129_66 : zI 129 66 = some (.aload_n 0, []) := by decide +kernel
theorem zi_129_67 : zI 129 67 = some (.lload_n 1, []) := by decide +kernel
theorem zi_129_68 : zI 129 68 = some (.iload_n 3, []) := by decide +kernel
theorem zi_129_69 : zI 129 69 = some (.invokevirtual 302, [106, 0, 2, 6, 547, 548, 118, 546, 0, 545]) := by decide +kernel
theorem zi_129_72 : zI 129 72 = some (.lstore_n 1, []) := by decide +kernel
theorem zi_129_73 : zI 129 73 = some (.iinc 3 1, []) := by decide +kernel
theorem zi_129_76 : zI 129 76 = some (.goto (-21), [55]) := by decide +kernel
theorem zi_129_79 : zI 129 79 = some (.iconst 0, []) := by decide +kernel
theorem zi_129_80 : zI 129 80 = some (.istore_n 3, []) := by decide +kernel
theorem zi_129_81 : zI 129 81 = some (.iload_n 3, []) := by decide +kernel
theorem zi_129_82 : zI 129 82 = some (.aload_n 0, []) := by decide +kernel
theorem zi_129_83 : zI 129 83 = some (.getfield 29, [6, 3, 54]) := by decide +kernel
theorem zi_129_86 : zI 129 86 = some (.getfield 129, [3, 8, 162]) := by decide +kernel
theorem zi_129_89 : zI 129 89 = some (.if_icmp .ge 37, [126]) := by decide +kernel
theorem zi_129_92 : zI 129 92 = some (.iconst 0, []) := by decide +kernel
theorem zi_129_93 : zI 129 93 = some (.istore 4, []) := by decide +kernel
theorem zi_129_95 : zI 129 95 = some (.iload 4, []) := by decide +kernel
theorem zi_129_97 : zI 129 97 = some (.bipush 6, []) := by decide +kernel
theorem zi_129_99 : zI 129 99 = some (.if_icmp .gt 21, [120]) := by decide +kernel
theorem zi_129_102 : zI 129 102 = some (.lload_n 1, []) := by decide +kernel
theorem zi_129_103 : zI 129 103 = some (.aload_n 0, []) := by decide +kernel
theorem zi_129_104 : zI 129 104 = some (.iload_n 3, []) := by decide +kernel
theorem zi_129_105 : zI 129 105 = some (.iload 4, []) := by decide +kernel
theorem zi_129_107 : zI 129 107 = some (.invokevirtual 305, [99, 0, 2, 6, 551, 552, 118, 550, 0, 549]) := by decide +kernel
theorem zi_129_110 : zI 129 110 = some (.invokestatic 295, [6, 1, 2, 0, 442, 0, 118, 441, 0, 440]) := by decide +kernel
theorem zi_129_113 : zI 129 113 = some (.lstore_n 1, []) := by decide +kernel
theorem zi_129_114 : zI 129 114 = some (.iinc 4 1, []) := by decide +kernel
theorem zi_129_117 : zI 129 117 = some (.goto (-22), [95]) := by decide +kernel
theorem zi_129_120 : zI 129 120 = some (.iinc 3 1, []) := by decide +kernel
theorem zi_129_123 : zI 129 123 = some (.goto (-42), [81]) := by decide +kernel
theorem zi_129_126 : zI 129 126 = some (.lload_n 1, []) := by decide +kernel
theorem zi_129_127 : zI 129 127 = some (.aload_n 0, []) := by decide +kernel
theorem zi_129_128 : zI 129 128 = some (.invokevirtual 308, [100, 0, 0, 6, 555, 556, 118, 554, 0, 553]) := by decide +kernel
theorem zi_129_131 : zI 129 131 = some (.invokestatic 295, [6, 1, 2, 0, 442, 0, 118, 441, 0, 440]) := by decide +kernel
theorem zi_129_134 : zI 129 134 = some (.lstore_n 1, []) := by decide +kernel
theorem zi_129_135 : zI 129 135 = some (.iconst 0, []) := by decide +kernel
theorem zi_129_136 : zI 129 136 = some (.istore_n 3, []) := by decide +kernel
theorem zi_129_137 : zI 129 137 = some (.iload_n 3, []) := by decide +kernel
theorem zi_129_138 : zI 129 138 = some (.aload_n 0, []) := by decide +kernel
theorem zi_129_139 : zI 129 139 = some (.getfield 36, [6, 4, 66]) := by decide +kernel
theorem zi_129_142 : zI 129 142 = some (.getfield 134, [4, 4, 366]) := by decide +kernel
theorem zi_129_145 : zI 129 145 = some (.if_icmp .ge 36, [181]) := by decide +kernel
theorem zi_129_148 : zI 129 148 = some (.iconst 0, []) := by decide +kernel
theorem zi_129_149 : zI 129 149 = some (.istore 4, []) := by decide +kernel
theorem zi_129_151 : zI 129 151 = some (.iload 4, []) := by decide +kernel
theorem zi_129_153 : zI 129 153 = some (.iconst 2, []) := by decide +kernel
theorem zi_129_154 : zI 129 154 = some (.if_icmp .gt 21, [175]) := by decide +kernel
theorem zi_129_157 : zI 129 157 = some (.lload_n 1, []) := by decide +kernel
theorem zi_129_158 : zI 129 158 = some (.aload_n 0, []) := by decide +kernel
theorem zi_129_159 : zI 129 159 = some (.iload_n 3, []) := by decide +kernel
theorem zi_129_160 : zI 129 160 = some (.iload 4, []) := by decide +kernel
theorem zi_129_162 : zI 129 162 = some (.invokevirtual 311, [101, 0, 2, 6, 559, 560, 118, 558, 0, 557]) := by decide +kernel
theorem zi_129_165 : zI 129 165 = some (.invokestatic 295, [6, 1, 2, 0, 442, 0, 118, 441, 0, 440]) := by decide +kernel
theorem zi_129_168 : zI 129 168 = some (.lstore_n 1, []) := by decide +kernel
theorem zi_129_169 : zI 129 169 = some (.iinc 4 1, []) := by decide +kernel
theorem zi_129_172 : zI 129 172 = some (.goto (-21), [151]) := by decide +kernel
theorem zi_129_175 : zI 129 175 = some (.iinc 3 1, []) := by decide +kernel
theorem zi_129_178 : zI 129 178 = some (.goto (-41), [137]) := by decide +kernel
theorem zi_129_181 : zI 129 181 = some (.lload_n 1, []) := by decide +kernel
theorem zi_129_182 : zI 129 182 = some (.lreturn, []) := by decide +kernel
/-! digest -/
section
variable {b : Nat} {F : Nat → Nat → Int32} {g : Nat → Nat} {h : zH} {x : Nat → Nat} {sh gp wi bk : Nat}
def zQl (H : zH) : zR → Prop := fun q => ∃ d, q = (some (.long d), H)
theorem zQl_out {y : Nat} {a : List Value} {h H : zH} (k : ∃ q, zQl H q ∧ zcalls zTB y a h q) : ∃ d, zcalls zTB y a h (some (.long d), H) := by
  obtain ⟨q, ⟨d, rfl⟩, hc⟩ := k
  exact ⟨d, hc⟩
theorem c_mix {H : zH} (d : Int64) (v : Int32) : ∃ d', zcalls zTB 6 [.long d, .int v] H (some (.long d'), H) := by
  refine zQl_out (zev_calls (Nat.le_of_ble_eq_true rfl) ?_)
  show zev 6 0 [some (.long d), none, some (.int v)] [] _ _
  refine zev_of (fun _ kk => zr_lload_n (pc' := 1) zi_6_0 rfl rfl kk) ?_
  refine zev_of (fun _ kk => zr_ldc2_w (pc' := 4) zi_6_1 rfl rfl kk) ?_
  refine zev_of (fun _ kk => zr_lmul (pc' := 5) zi_6_4 rfl rfl kk) ?_
  refine zev_of (fun _ kk => zr_iload_n (pc' := 6) zi_6_5 rfl rfl kk) ?_
  refine zev_of (fun _ kk => zr_i2l (pc' := 7) zi_6_6 rfl kk) ?_
  refine zev_of (fun _ kk => zr_ladd (pc' := 8) zi_6_7 rfl rfl kk) ?_
  refine zev_ret (zr_lreturn zi_6_8 rfl) ?_
  exact ⟨_, rfl⟩
theorem c_manyA (hb : b + 71 ≤ h.length) (q : zOk F g x sh gp wi bk) (k : Nat) (hk : k ≤ 5) : ∃ r, zcalls zTB 94 [.ref b, .int (nI k)] (nput b F g h) (some (.int r), nput b F g h) := by
  rcases (show k = 0 ∨ k = 1 ∨ k = 2 ∨ k = 3 ∨ k = 4 ∨ k = 5 by omega) with rfl | rfl | rfl | rfl | rfl | rfl
  · exact ⟨_, c_many0 hb q⟩
  · exact ⟨_, c_many1 hb q⟩
  · exact ⟨_, c_many2 hb q⟩
  · exact ⟨_, c_many3 hb q⟩
  · exact ⟨_, c_many4 hb q⟩
  · exact ⟨_, c_many5 hb q⟩
theorem c_ofLineA (hb : b + 71 ≤ h.length) (q : zOk F g x sh gp wi bk) (l : Nat) (hl : l < g 0) (k : Nat) (hk : k ≤ 8) : ∃ r, zcalls zTB 95 [.ref b, .int (nI l), .int (nI k)] (nput b F g h) (some (.int r), nput b F g h) := by
  rcases (show k = 0 ∨ k = 1 ∨ k = 2 ∨ k = 3 ∨ k = 4 ∨ k = 5 ∨ k = 6 ∨ k = 7 ∨ k = 8 by omega) with rfl | rfl | rfl | rfl | rfl | rfl | rfl | rfl | rfl
  · exact ⟨_, c_ofLine0 hb q l hl⟩
  · exact ⟨_, c_ofLine1 hb q l hl⟩
  · exact ⟨_, c_ofLine2 hb q l hl⟩
  · exact ⟨_, c_ofLine3 hb q l hl⟩
  · exact ⟨_, c_ofLine4 hb q l hl⟩
  · exact ⟨_, c_ofLine5 hb q l hl⟩
  · exact ⟨_, c_ofLine6 hb q l hl⟩
  · exact ⟨_, c_ofLine7 hb q l hl⟩
  · exact ⟨_, c_ofLine8 hb q l hl⟩
theorem c_ofTemplateA (hb : b + 71 ≤ h.length) (q : zOk F g x sh gp wi bk) (t a : Nat) (ht : t < g 2) (ha : F 7 t = nI a) (ha8 : a ≤ 8) (k : Nat) (hk : k ≤ 4) : ∃ r, zcalls zTB 96 [.ref b, .int (nI t), .int (nI k)] (nput b F g h) (some (.int r), nput b F g h) := by
  rcases (show k = 0 ∨ k = 1 ∨ k = 2 ∨ k = 3 ∨ k = 4 by omega) with rfl | rfl | rfl | rfl | rfl
  · exact ⟨_, c_ofTemplate0 hb q t a ht ha ha8⟩
  · exact ⟨_, c_ofTemplate1 hb q t a ht ha ha8⟩
  · exact ⟨_, c_ofTemplate2 hb q t a ht ha ha8⟩
  · obtain ⟨r, _, hc⟩ := c_ofTemplate3 hb q t ht
    exact ⟨r, hc⟩
  · obtain ⟨r, _, hc⟩ := c_ofTemplate4 hb q t ht
    exact ⟨r, hc⟩
theorem c_ofSessionA (hb : b + 71 ≤ h.length) (q : zOk F g x sh gp wi bk) (s : Nat) (hs : s < g 4) (k : Nat) (hk : k ≤ 6) : ∃ r, zcalls zTB 99 [.ref b, .int (nI s), .int (nI k)] (nput b F g h) (some (.int r), nput b F g h) := by
  obtain ⟨C, Z, qs⟩ := q.to.se
  rcases (show k = 0 ∨ k = 1 ∨ k = 2 ∨ k = 3 ∨ k = 4 ∨ k = 5 ∨ k = 6 by omega) with rfl | rfl | rfl | rfl | rfl | rfl | rfl
  · exact ⟨_, c_ofSession0 hb q qs s hs⟩
  · exact ⟨_, c_ofSession1 hb q qs s hs⟩
  · exact ⟨_, c_ofSession2 hb q qs s hs⟩
  · exact ⟨_, c_ofSession3 hb q qs s hs⟩
  · exact ⟨_, c_ofSession4 hb q qs s hs⟩
  · obtain ⟨r, _, hc⟩ := c_ofSession5 hb q qs s hs
    exact ⟨r, hc⟩
  · exact ⟨_, c_ofSession6 hb q qs s hs⟩
theorem c_spikeA (hb : b + 71 ≤ h.length) (q : zOk F g x sh gp wi bk) (s : Nat) (hs : s < g 5) (k : Nat) (hk : k ≤ 2) : ∃ r, zcalls zTB 101 [.ref b, .int (nI s), .int (nI k)] (nput b F g h) (some (.int r), nput b F g h) := by
  rcases (show k = 0 ∨ k = 1 ∨ k = 2 by omega) with rfl | rfl | rfl
  · exact ⟨_, c_spike0 hb q s hs⟩
  · exact ⟨_, c_spike1 hb q s hs⟩
  · exact ⟨_, c_spike2 hb q s hs⟩
theorem c_causeA (hb : b + 71 ≤ h.length) (q : zOk F g x sh gp wi bk) (t k N : Nat) (ht : t < g 2) (hN : F 30 t = nI N) (hN2 : N ≤ 20) (hk : k < N) (w : Nat) (hw : w ≤ 3) : ∃ r, zcalls zTB 103 [.ref b, .int (nI t), .int (nI k), .int (nI w)] (nput b F g h) (some (.int r), nput b F g h) := by
  have hT := q.nb.t20
  obtain ⟨M, R, sv, hr⟩ := q.to.rk t ht
  have e : M = N := (nI_eq (by have := hr.2.1; omega) (by omega)).mp (hr.1.symm.trans hN)
  subst e
  rcases (show w = 0 ∨ w = 1 ∨ w = 2 ∨ w = 3 by omega) with rfl | rfl | rfl | rfl
  · exact ⟨_, c_cause0 hb q t k M ht _ R sv hr hk⟩
  · exact ⟨_, c_cause1 hb q t k M ht _ R sv hr hk⟩
  · exact ⟨_, c_cause2 hb q t k M ht _ R sv hr hk⟩
  · exact ⟨_, c_cause3 hb q t k M ht _ R sv hr hk⟩
theorem l_mixLine (hb : b + 71 ≤ h.length) (q : zOk F g x sh gp wi bk) (l : Nat) (hl : l < g 0) (d0 : Int64) (k : Nat) (hk : k ≤ 9) (d : Int64) : zev 105 6 [some (.ref b), some (.long d0), none, some (.int (nI l)), some (.long d), none, some (.int (nI k))] [] (nput b F g h) (zQl (nput b F g h)) := by
  refine zev_of (fun _ kk => zr_iload (pc' := 8) zi_105_6 rfl rfl kk) ?_
  refine zev_of (fun _ kk => zr_bipush (v := (nI 8)) (pc' := 10) zi_105_8 rfl rfl kk) ?_
  refine zv_icmp (pc' := 13) zi_105_10 rfl (fun h10 => ?_) (fun h10 => ?_)
  · replace h10 := zc_gt_t (by omega) (by omega) h10
    refine zev_of (fun _ kk => zr_lload (pc' := 35) zi_105_33 rfl rfl kk) ?_
    refine zev_of (fun _ kk => zr_aload_n (pc' := 36) zi_105_35 rfl rfl kk) ?_
    refine zev_of (fun _ kk => zr_iload_n (pc' := 37) zi_105_36 rfl rfl kk) ?_
    obtain ⟨r, _, hc⟩ := c_because hb q l hl
    refine zev_of (fun _ kk => zr_v1 (pc' := 40) zi_105_37 (nput_at hb (k := 0) rfl) rfl hc rfl kk) ?_
    obtain ⟨d2, hd2⟩ := c_mix (H := nput b F g h) d r
    refine zev_of (fun _ kk => zr_s2 (pc' := 43) zi_105_40 rfl hd2 rfl kk) ?_
    refine zev_ret (zr_lreturn zi_105_43 rfl) ?_
    exact ⟨_, rfl⟩
  · replace h10 := zc_gt_f (by omega) (by omega) h10
    refine zev_of (fun _ kk => zr_lload (pc' := 15) zi_105_13 rfl rfl kk) ?_
    refine zev_of (fun _ kk => zr_aload_n (pc' := 16) zi_105_15 rfl rfl kk) ?_
    refine zev_of (fun _ kk => zr_iload_n (pc' := 17) zi_105_16 rfl rfl kk) ?_
    refine zev_of (fun _ kk => zr_iload (pc' := 19) zi_105_17 rfl rfl kk) ?_
    obtain ⟨r, hc⟩ := c_ofLineA hb q l hl k (by omega)
    refine zev_of (fun _ kk => zr_v2 (pc' := 22) zi_105_19 (nput_at hb (k := 0) rfl) rfl hc rfl kk) ?_
    obtain ⟨d2, hd2⟩ := c_mix (H := nput b F g h) d r
    refine zev_of (fun _ kk => zr_s2 (pc' := 25) zi_105_22 rfl hd2 rfl kk) ?_
    refine zev_of (fun _ kk => zr_lstore (pc' := 27) zi_105_25 (Nat.le_of_ble_eq_true rfl) rfl rfl kk) ?_
    dsimp only [zst1, zst2, zkill, List.set, List.getElem?_cons_succ, List.getElem?_cons_zero]
    refine zev_of (fun _ kk => zr_iinc (pc' := 30) zi_105_27 rfl (by first | exact n_inc _ | rfl) rfl rfl kk) ?_
    dsimp only [zst1, zst2, zkill, List.set, List.getElem?_cons_succ, List.getElem?_cons_zero]
    refine zev_of (fun _ kk => zr_goto zi_105_30 kk) ?_
    exact l_mixLine hb q l hl d0 (k + 1) (by omega) d2
termination_by 9 - k
theorem c_mixLine (hb : b + 71 ≤ h.length) (q : zOk F g x sh gp wi bk) (l : Nat) (hl : l < g 0) (d : Int64) : ∃ d', zcalls zTB 105 [.ref b, .long d, .int (nI l)] (nput b F g h) (some (.long d'), nput b F g h) := by
  refine zQl_out (zev_calls (Nat.le_of_ble_eq_true rfl) ?_)
  show zev 105 0 [some (.ref b), some (.long d), none, some (.int (nI l)), none, none, none] [] _ _
  refine zev_of (fun _ kk => zr_lload_n (pc' := 1) zi_105_0 rfl rfl kk) ?_
  refine zev_of (fun _ kk => zr_lstore (pc' := 3) zi_105_1 (Nat.le_of_ble_eq_true rfl) rfl rfl kk) ?_
  dsimp only [zst1, zst2, zkill, List.set, List.getElem?_cons_succ, List.getElem?_cons_zero]
  refine zev_of (fun _ kk => zr_iconst (v := (nI 4)) (pc' := 4) zi_105_3 rfl rfl kk) ?_
  refine zev_of (fun _ kk => zr_istore (pc' := 6) zi_105_4 (Nat.le_of_ble_eq_true rfl) rfl rfl kk) ?_
  dsimp only [zst1, zst2, zkill, List.set, List.getElem?_cons_succ, List.getElem?_cons_zero]
  exact l_mixLine hb q l hl d 4 (by omega) d
theorem l_mixT5 (hb : b + 71 ≤ h.length) {Q : zR → Prop} (q : zOk F g x sh gp wi bk) (t N : Nat) (ht : t < g 2) (hN : F 30 t = nI N) (hN2 : N ≤ 20) (c : Nat) (hc : c < N) (A : Int64) (B C : Int32) (kk : ∀ d X, zev 106 176 [some (.ref b), some (.long A), none, some (.int (nI t)), some (.long d), none, some (.int B), some (.int C), some (.int (nI N)), some (.int (nI c)), X] [] (nput b F g h) Q) (w : Nat) (hw : w ≤ 4) (d : Int64) : zev 106 148 [some (.ref b), some (.long A), none, some (.int (nI t)), some (.long d), none, some (.int B), some (.int C), some (.int (nI N)), some (.int (nI c)), some (.int (nI w))] [] (nput b F g h) Q := by
  refine zev_of (fun _ kk => zr_iload (pc' := 150) zi_106_148 rfl rfl kk) ?_
  refine zev_of (fun _ kk => zr_iconst (v := (nI 3)) (pc' := 151) zi_106_150 rfl rfl kk) ?_
  refine zv_icmp (pc' := 154) zi_106_151 rfl (fun h151 => ?_) (fun h151 => ?_)
  · replace h151 := zc_gt_t (by omega) (by omega) h151
    exact kk _ _
  · replace h151 := zc_gt_f (by omega) (by omega) h151
    refine zev_of (fun _ kk => zr_lload (pc' := 156) zi_106_154 rfl rfl kk) ?_
    refine zev_of (fun _ kk => zr_aload_n (pc' := 157) zi_106_156 rfl rfl kk) ?_
    refine zev_of (fun _ kk => zr_iload_n (pc' := 158) zi_106_157 rfl rfl kk) ?_
    refine zev_of (fun _ kk => zr_iload (pc' := 160) zi_106_158 rfl rfl kk) ?_
    refine zev_of (fun _ kk => zr_iload (pc' := 162) zi_106_160 rfl rfl kk) ?_
    obtain ⟨r, hcl⟩ := c_causeA hb q t c N ht hN hN2 hc w (by omega)
    refine zev_of (fun _ kk => zr_v3 (pc' := 165) zi_106_162 (nput_at hb (k := 0) rfl) rfl hcl rfl kk) ?_
    obtain ⟨d2, hd2⟩ := c_mix (H := nput b F g h) d r
    refine zev_of (fun _ kk => zr_s2 (pc' := 168) zi_106_165 rfl hd2 rfl kk) ?_
    refine zev_of (fun _ kk => zr_lstore (pc' := 170) zi_106_168 (Nat.le_of_ble_eq_true rfl) rfl rfl kk) ?_
    dsimp only [zst1, zst2, zkill, List.set, List.getElem?_cons_succ, List.getElem?_cons_zero]
    refine zev_of (fun _ kk => zr_iinc (pc' := 173) zi_106_170 rfl (by first | exact n_inc _ | rfl) rfl rfl kk) ?_
    dsimp only [zst1, zst2, zkill, List.set, List.getElem?_cons_succ, List.getElem?_cons_zero]
    refine zev_of (fun _ kk => zr_goto zi_106_173 kk) ?_
    exact l_mixT5 hb q t N ht hN hN2 c hc A B C kk (w + 1) (by omega) d2
termination_by 4 - w
theorem l_mixT4 (hb : b + 71 ≤ h.length) (q : zOk F g x sh gp wi bk) (t N : Nat) (ht : t < g 2) (hN : F 30 t = nI N) (hN2 : N ≤ 20) (A : Int64) (B C : Int32) (c : Nat) (hc : c ≤ N) (d : Int64) (X : Option Value) : zev 106 138 [some (.ref b), some (.long A), none, some (.int (nI t)), some (.long d), none, some (.int B), some (.int C), some (.int (nI N)), some (.int (nI c)), X] [] (nput b F g h) (zQl (nput b F g h)) := by
  refine zev_of (fun _ kk => zr_iload (pc' := 140) zi_106_138 rfl rfl kk) ?_
  refine zev_of (fun _ kk => zr_iload (pc' := 142) zi_106_140 rfl rfl kk) ?_
  refine zv_icmp (pc' := 145) zi_106_142 rfl (fun h142 => ?_) (fun h142 => ?_)
  · replace h142 := zc_ge_t (by omega) (by omega) h142
    refine zev_of (fun _ kk => zr_lload (pc' := 184) zi_106_182 rfl rfl kk) ?_
    refine zev_ret (zr_lreturn zi_106_184 rfl) ?_
    exact ⟨_, rfl⟩
  · replace h142 := zc_ge_f (by omega) (by omega) h142
    refine zev_of (fun _ kk => zr_iconst (v := (nI 0)) (pc' := 146) zi_106_145 rfl rfl kk) ?_
    refine zev_of (fun _ kk => zr_istore (pc' := 148) zi_106_146 (Nat.le_of_ble_eq_true rfl) rfl rfl kk) ?_
    dsimp only [zst1, zst2, zkill, List.set, List.getElem?_cons_succ, List.getElem?_cons_zero]
    refine l_mixT5 hb q t N ht hN hN2 c (by omega) A B C (fun d X => ?_) 0 (by omega) d
    refine zev_of (fun _ kk => zr_iinc (pc' := 179) zi_106_176 rfl (by first | exact n_inc _ | rfl) rfl rfl kk) ?_
    dsimp only [zst1, zst2, zkill, List.set, List.getElem?_cons_succ, List.getElem?_cons_zero]
    refine zev_of (fun _ kk => zr_goto zi_106_179 kk) ?_
    exact l_mixT4 hb q t N ht hN hN2 A B C (c + 1) (by omega) d X
termination_by N - c
theorem l_mixT3 (hb : b + 71 ≤ h.length) (q : zOk F g x sh gp wi bk) (t a : Nat) (ht : t < g 2) (ha : F 7 t = nI a) (ha8 : a ≤ 8) (A : Int64) (B : Int32) (j : Nat) (hj : j ≤ zhol F t a) (d : Int64) : zev 106 92 [some (.ref b), some (.long A), none, some (.int (nI t)), some (.long d), none, some (.int B), some (.int (nI (zhol F t a))), some (.int (nI j)), none, none] [] (nput b F g h) (zQl (nput b F g h)) := by
  have hh : zhol F t a ≤ a := zcnt_le _ _
  have hT := q.nb.t20
  obtain ⟨N, R, sv, hr⟩ := q.to.rk t ht
  have hN2 : N ≤ 20 := Nat.le_trans hr.2.1 hT
  refine zev_of (fun _ kk => zr_iload (pc' := 94) zi_106_92 rfl rfl kk) ?_
  refine zev_of (fun _ kk => zr_iload (pc' := 96) zi_106_94 rfl rfl kk) ?_
  refine zv_icmp (pc' := 99) zi_106_96 rfl (fun h96 => ?_) (fun h96 => ?_)
  · replace h96 := zc_ge_t (by omega) (by omega) h96
    refine zev_of (fun _ kk => zr_aload_n (pc' := 120) zi_106_119 rfl rfl kk) ?_
    refine zev_of (fun _ kk => zr_iload_n (pc' := 121) zi_106_120 rfl rfl kk) ?_
    refine zev_of (fun _ kk => zr_v1 (pc' := 124) zi_106_121 (nput_at hb (k := 0) rfl) rfl (c_causes hb q t ht) rfl kk) ?_
    rw [hr.1]
    refine zev_of (fun _ kk => zr_istore (pc' := 126) zi_106_124 (Nat.le_of_ble_eq_true rfl) rfl rfl kk) ?_
    dsimp only [zst1, zst2, zkill, List.set, List.getElem?_cons_succ, List.getElem?_cons_zero]
    refine zev_of (fun _ kk => zr_lload (pc' := 128) zi_106_126 rfl rfl kk) ?_
    refine zev_of (fun _ kk => zr_iload (pc' := 130) zi_106_128 rfl rfl kk) ?_
    obtain ⟨d2, hd2⟩ := c_mix (H := nput b F g h) d (nI N)
    refine zev_of (fun _ kk => zr_s2 (pc' := 133) zi_106_130 rfl hd2 rfl kk) ?_
    refine zev_of (fun _ kk => zr_lstore (pc' := 135) zi_106_133 (Nat.le_of_ble_eq_true rfl) rfl rfl kk) ?_
    dsimp only [zst1, zst2, zkill, List.set, List.getElem?_cons_succ, List.getElem?_cons_zero]
    refine zev_of (fun _ kk => zr_iconst (v := (nI 0)) (pc' := 136) zi_106_135 rfl rfl kk) ?_
    refine zev_of (fun _ kk => zr_istore (pc' := 138) zi_106_136 (Nat.le_of_ble_eq_true rfl) rfl rfl kk) ?_
    dsimp only [zst1, zst2, zkill, List.set, List.getElem?_cons_succ, List.getElem?_cons_zero]
    exact l_mixT4 hb q t N ht hr.1 hN2 A B _ 0 (Nat.zero_le _) d2 none
  · replace h96 := zc_ge_f (by omega) (by omega) h96
    refine zev_of (fun _ kk => zr_lload (pc' := 101) zi_106_99 rfl rfl kk) ?_
    refine zev_of (fun _ kk => zr_aload_n (pc' := 102) zi_106_101 rfl rfl kk) ?_
    refine zev_of (fun _ kk => zr_iload_n (pc' := 103) zi_106_102 rfl rfl kk) ?_
    refine zev_of (fun _ kk => zr_iload (pc' := 105) zi_106_103 rfl rfl kk) ?_
    obtain ⟨r, _, hcl⟩ := c_values hb q t j a ht ha ha8 (by omega)
    refine zev_of (fun _ kk => zr_v2 (pc' := 108) zi_106_105 (nput_at hb (k := 0) rfl) rfl hcl rfl kk) ?_
    obtain ⟨d2, hd2⟩ := c_mix (H := nput b F g h) d r
    refine zev_of (fun _ kk => zr_s2 (pc' := 111) zi_106_108 rfl hd2 rfl kk) ?_
    refine zev_of (fun _ kk => zr_lstore (pc' := 113) zi_106_111 (Nat.le_of_ble_eq_true rfl) rfl rfl kk) ?_
    dsimp only [zst1, zst2, zkill, List.set, List.getElem?_cons_succ, List.getElem?_cons_zero]
    refine zev_of (fun _ kk => zr_iinc (pc' := 116) zi_106_113 rfl (by first | exact n_inc _ | rfl) rfl rfl kk) ?_
    dsimp only [zst1, zst2, zkill, List.set, List.getElem?_cons_succ, List.getElem?_cons_zero]
    refine zev_of (fun _ kk => zr_goto zi_106_116 kk) ?_
    exact l_mixT3 hb q t a ht ha ha8 A B (j + 1) (by omega) d2
termination_by zhol F t a - j
theorem l_mixT2 (hb : b + 71 ≤ h.length) (q : zOk F g x sh gp wi bk) (t a : Nat) (ht : t < g 2) (ha : F 7 t = nI a) (ha8 : a ≤ 8) (A : Int64) (p : Nat) (hp : p ≤ a) (d : Int64) : zev 106 52 [some (.ref b), some (.long A), none, some (.int (nI t)), some (.long d), none, some (.int (nI a)), some (.int (nI p)), none, none, none] [] (nput b F g h) (zQl (nput b F g h)) := by
  have hT := q.nb.t20
  refine zev_of (fun _ kk => zr_iload (pc' := 54) zi_106_52 rfl rfl kk) ?_
  refine zev_of (fun _ kk => zr_iload (pc' := 56) zi_106_54 rfl rfl kk) ?_
  refine zv_icmp (pc' := 59) zi_106_56 rfl (fun h56 => ?_) (fun h56 => ?_)
  · replace h56 := zc_ge_t (by omega) (by omega) h56
    refine zev_of (fun _ kk => zr_aload_n (pc' := 80) zi_106_79 rfl rfl kk) ?_
    refine zev_of (fun _ kk => zr_get (pc' := 83) zi_106_80 (nput_at hb (k := 0) rfl) rfl rfl kk) ?_
    refine zev_of (fun _ kk => zr_iload_n (pc' := 84) zi_106_83 rfl rfl kk) ?_
    refine zev_of (fun _ kk => zr_v1 (pc' := 87) zi_106_84 (nput_at hb (k := 16) rfl) rfl (c_howManyHoles hb t a (by omega) ha ha8) rfl kk) ?_
    refine zev_of (fun _ kk => zr_istore (pc' := 89) zi_106_87 (Nat.le_of_ble_eq_true rfl) rfl rfl kk) ?_
    dsimp only [zst1, zst2, zkill, List.set, List.getElem?_cons_succ, List.getElem?_cons_zero]
    refine zev_of (fun _ kk => zr_iconst (v := (nI 0)) (pc' := 90) zi_106_89 rfl rfl kk) ?_
    refine zev_of (fun _ kk => zr_istore (pc' := 92) zi_106_90 (Nat.le_of_ble_eq_true rfl) rfl rfl kk) ?_
    dsimp only [zst1, zst2, zkill, List.set, List.getElem?_cons_succ, List.getElem?_cons_zero]
    exact l_mixT3 hb q t a ht ha ha8 A _ 0 (Nat.zero_le _) d
  · replace h56 := zc_ge_f (by omega) (by omega) h56
    refine zev_of (fun _ kk => zr_lload (pc' := 61) zi_106_59 rfl rfl kk) ?_
    refine zev_of (fun _ kk => zr_aload_n (pc' := 62) zi_106_61 rfl rfl kk) ?_
    refine zev_of (fun _ kk => zr_iload_n (pc' := 63) zi_106_62 rfl rfl kk) ?_
    refine zev_of (fun _ kk => zr_iload (pc' := 65) zi_106_63 rfl rfl kk) ?_
    refine zev_of (fun _ kk => zr_v2 (pc' := 68) zi_106_65 (nput_at hb (k := 0) rfl) rfl (c_slot hb q t p a ht ha ha8 (by omega)) rfl kk) ?_
    obtain ⟨d2, hd2⟩ := c_mix (H := nput b F g h) d (F 8 (t * 8 + p))
    refine zev_of (fun _ kk => zr_s2 (pc' := 71) zi_106_68 rfl hd2 rfl kk) ?_
    refine zev_of (fun _ kk => zr_lstore (pc' := 73) zi_106_71 (Nat.le_of_ble_eq_true rfl) rfl rfl kk) ?_
    dsimp only [zst1, zst2, zkill, List.set, List.getElem?_cons_succ, List.getElem?_cons_zero]
    refine zev_of (fun _ kk => zr_iinc (pc' := 76) zi_106_73 rfl (by first | exact n_inc _ | rfl) rfl rfl kk) ?_
    dsimp only [zst1, zst2, zkill, List.set, List.getElem?_cons_succ, List.getElem?_cons_zero]
    refine zev_of (fun _ kk => zr_goto zi_106_76 kk) ?_
    exact l_mixT2 hb q t a ht ha ha8 A (p + 1) (by omega) d2
termination_by a - p
theorem l_mixT1 (hb : b + 71 ≤ h.length) (q : zOk F g x sh gp wi bk) (t a : Nat) (ht : t < g 2) (ha : F 7 t = nI a) (ha8 : a ≤ 8) (A : Int64) (k : Nat) (hk : k ≤ 5) (d : Int64) : zev 106 10 [some (.ref b), some (.long A), none, some (.int (nI t)), some (.long d), none, some (.int (nI k)), none, none, none, none] [] (nput b F g h) (zQl (nput b F g h)) := by
  have hT := q.nb.t20
  refine zev_of (fun _ kk => zr_iload (pc' := 12) zi_106_10 rfl rfl kk) ?_
  refine zev_of (fun _ kk => zr_iconst (v := (nI 4)) (pc' := 13) zi_106_12 rfl rfl kk) ?_
  refine zv_icmp (pc' := 16) zi_106_13 rfl (fun h13 => ?_) (fun h13 => ?_)
  · replace h13 := zc_gt_t (by omega) (by omega) h13
    refine zev_of (fun _ kk => zr_aload_n (pc' := 37) zi_106_36 rfl rfl kk) ?_
    refine zev_of (fun _ kk => zr_get (pc' := 40) zi_106_37 (nput_at hb (k := 0) rfl) rfl rfl kk) ?_
    refine zev_of (fun _ kk => zr_get (pc' := 43) zi_106_40 (nput_at hb (k := 16) rfl) rfl rfl kk) ?_
    refine zev_of (fun _ kk => zr_iload_n (pc' := 44) zi_106_43 rfl rfl kk) ?_
    refine zev_of (fun _ kk => zr_atN (pc' := 47) (by omega) zi_106_44 hb rfl rfl (by decide) rfl rfl kk) ?_
    rw [ha]
    refine zev_of (fun _ kk => zr_istore (pc' := 49) zi_106_47 (Nat.le_of_ble_eq_true rfl) rfl rfl kk) ?_
    dsimp only [zst1, zst2, zkill, List.set, List.getElem?_cons_succ, List.getElem?_cons_zero]
    refine zev_of (fun _ kk => zr_iconst (v := (nI 0)) (pc' := 50) zi_106_49 rfl rfl kk) ?_
    refine zev_of (fun _ kk => zr_istore (pc' := 52) zi_106_50 (Nat.le_of_ble_eq_true rfl) rfl rfl kk) ?_
    dsimp only [zst1, zst2, zkill, List.set, List.getElem?_cons_succ, List.getElem?_cons_zero]
    exact l_mixT2 hb q t a ht ha ha8 A 0 (Nat.zero_le _) d
  · replace h13 := zc_gt_f (by omega) (by omega) h13
    refine zev_of (fun _ kk => zr_lload (pc' := 18) zi_106_16 rfl rfl kk) ?_
    refine zev_of (fun _ kk => zr_aload_n (pc' := 19) zi_106_18 rfl rfl kk) ?_
    refine zev_of (fun _ kk => zr_iload_n (pc' := 20) zi_106_19 rfl rfl kk) ?_
    refine zev_of (fun _ kk => zr_iload (pc' := 22) zi_106_20 rfl rfl kk) ?_
    obtain ⟨r, hcl⟩ := c_ofTemplateA hb q t a ht ha ha8 k (by omega)
    refine zev_of (fun _ kk => zr_v2 (pc' := 25) zi_106_22 (nput_at hb (k := 0) rfl) rfl hcl rfl kk) ?_
    obtain ⟨d2, hd2⟩ := c_mix (H := nput b F g h) d r
    refine zev_of (fun _ kk => zr_s2 (pc' := 28) zi_106_25 rfl hd2 rfl kk) ?_
    refine zev_of (fun _ kk => zr_lstore (pc' := 30) zi_106_28 (Nat.le_of_ble_eq_true rfl) rfl rfl kk) ?_
    dsimp only [zst1, zst2, zkill, List.set, List.getElem?_cons_succ, List.getElem?_cons_zero]
    refine zev_of (fun _ kk => zr_iinc (pc' := 33) zi_106_30 rfl (by first | exact n_inc _ | rfl) rfl rfl kk) ?_
    dsimp only [zst1, zst2, zkill, List.set, List.getElem?_cons_succ, List.getElem?_cons_zero]
    refine zev_of (fun _ kk => zr_goto zi_106_33 kk) ?_
    exact l_mixT1 hb q t a ht ha ha8 A (k + 1) (by omega) d2
termination_by 5 - k
theorem c_mixTemplate (hb : b + 71 ≤ h.length) (q : zOk F g x sh gp wi bk) (t : Nat) (ht : t < g 2) (d : Int64) : ∃ d', zcalls zTB 106 [.ref b, .long d, .int (nI t)] (nput b F g h) (some (.long d'), nput b F g h) := by
  obtain ⟨a, ha8, ha⟩ := q.nb.ts t ht
  refine zQl_out (zev_calls (Nat.le_of_ble_eq_true rfl) ?_)
  show zev 106 0 [some (.ref b), some (.long d), none, some (.int (nI t)), none, none, none, none, none, none, none] [] _ _
  refine zev_of (fun _ kk => zr_lload_n (pc' := 1) zi_106_0 rfl rfl kk) ?_
  refine zev_of (fun _ kk => zr_iload_n (pc' := 2) zi_106_1 rfl rfl kk) ?_
  obtain ⟨d2, hd2⟩ := c_mix (H := nput b F g h) d (nI t)
  refine zev_of (fun _ kk => zr_s2 (pc' := 5) zi_106_2 rfl hd2 rfl kk) ?_
  refine zev_of (fun _ kk => zr_lstore (pc' := 7) zi_106_5 (Nat.le_of_ble_eq_true rfl) rfl rfl kk) ?_
  dsimp only [zst1, zst2, zkill, List.set, List.getElem?_cons_succ, List.getElem?_cons_zero]
  refine zev_of (fun _ kk => zr_iconst (v := (nI 0)) (pc' := 8) zi_106_7 rfl rfl kk) ?_
  refine zev_of (fun _ kk => zr_istore (pc' := 10) zi_106_8 (Nat.le_of_ble_eq_true rfl) rfl rfl kk) ?_
  dsimp only [zst1, zst2, zkill, List.set, List.getElem?_cons_succ, List.getElem?_cons_zero]
  exact l_mixT1 hb q t a ht ha ha8 d 0 (Nat.zero_le _) d2
theorem l_dig6 (hb : b + 71 ≤ h.length) {Q : zR → Prop} (q : zOk F g x sh gp wi bk) (s : Nat) (hs : s < g 5) (kk : ∀ d X, zev 129 175 [some (.ref b), some (.long d), none, some (.int (nI s)), X] [] (nput b F g h) Q) (w : Nat) (hw : w ≤ 3) (d : Int64) : zev 129 151 [some (.ref b), some (.long d), none, some (.int (nI s)), some (.int (nI w))] [] (nput b F g h) Q := by
  refine zev_of (fun _ kk => zr_iload (pc' := 153) zi_129_151 rfl rfl kk) ?_
  refine zev_of (fun _ kk => zr_iconst (v := (nI 2)) (pc' := 154) zi_129_153 rfl rfl kk) ?_
  refine zv_icmp (pc' := 157) zi_129_154 rfl (fun h154 => ?_) (fun h154 => ?_)
  · replace h154 := zc_gt_t (by omega) (by omega) h154
    exact kk _ _
  · replace h154 := zc_gt_f (by omega) (by omega) h154
    refine zev_of (fun _ kk => zr_lload_n (pc' := 158) zi_129_157 rfl rfl kk) ?_
    refine zev_of (fun _ kk => zr_aload_n (pc' := 159) zi_129_158 rfl rfl kk) ?_
    refine zev_of (fun _ kk => zr_iload_n (pc' := 160) zi_129_159 rfl rfl kk) ?_
    refine zev_of (fun _ kk => zr_iload (pc' := 162) zi_129_160 rfl rfl kk) ?_
    obtain ⟨r, hcl⟩ := c_spikeA hb q s hs w (by omega)
    refine zev_of (fun _ kk => zr_v2 (pc' := 165) zi_129_162 (nput_at hb (k := 0) rfl) rfl hcl rfl kk) ?_
    obtain ⟨d2, hd2⟩ := c_mix (H := nput b F g h) d r
    refine zev_of (fun _ kk => zr_s2 (pc' := 168) zi_129_165 rfl hd2 rfl kk) ?_
    refine zev_of (fun _ kk => zr_lstore_n (pc' := 169) zi_129_168 (Nat.le_of_ble_eq_true rfl) rfl rfl kk) ?_
    dsimp only [zst1, zst2, zkill, List.set, List.getElem?_cons_succ, List.getElem?_cons_zero]
    refine zev_of (fun _ kk => zr_iinc (pc' := 172) zi_129_169 rfl (by first | exact n_inc _ | rfl) rfl rfl kk) ?_
    dsimp only [zst1, zst2, zkill, List.set, List.getElem?_cons_succ, List.getElem?_cons_zero]
    refine zev_of (fun _ kk => zr_goto zi_129_172 kk) ?_
    exact l_dig6 hb q s hs kk (w + 1) (by omega) d2
termination_by 3 - w
theorem l_dig5 (hb : b + 71 ≤ h.length) (q : zOk F g x sh gp wi bk) (s : Nat) (hs : s ≤ g 5) (d : Int64) (X : Option Value) : zev 129 137 [some (.ref b), some (.long d), none, some (.int (nI s)), X] [] (nput b F g h) (zQl (nput b F g h)) := by
  obtain ⟨vv, hP, _⟩ := q.to.sp
  refine zev_of (fun _ kk => zr_iload_n (pc' := 138) zi_129_137 rfl rfl kk) ?_
  refine zev_of (fun _ kk => zr_aload_n (pc' := 139) zi_129_138 rfl rfl kk) ?_
  refine zev_of (fun _ kk => zr_get (pc' := 142) zi_129_139 (nput_at hb (k := 0) rfl) rfl rfl kk) ?_
  refine zev_of (fun _ kk => zr_get (pc' := 145) zi_129_142 (nput_at hb (k := 43) rfl) rfl rfl kk) ?_
  refine zv_icmp (pc' := 148) zi_129_145 rfl (fun h145 => ?_) (fun h145 => ?_)
  · replace h145 := zc_ge_t (by omega) (by omega) h145
    refine zev_of (fun _ kk => zr_lload_n (pc' := 182) zi_129_181 rfl rfl kk) ?_
    refine zev_ret (zr_lreturn zi_129_182 rfl) ?_
    exact ⟨_, rfl⟩
  · replace h145 := zc_ge_f (by omega) (by omega) h145
    refine zev_of (fun _ kk => zr_iconst (v := (nI 0)) (pc' := 149) zi_129_148 rfl rfl kk) ?_
    refine zev_of (fun _ kk => zr_istore (pc' := 151) zi_129_149 (Nat.le_of_ble_eq_true rfl) rfl rfl kk) ?_
    dsimp only [zst1, zst2, zkill, List.set, List.getElem?_cons_succ, List.getElem?_cons_zero]
    refine l_dig6 hb q s (by omega) (fun d X => ?_) 0 (by omega) d
    refine zev_of (fun _ kk => zr_iinc (pc' := 178) zi_129_175 rfl (by first | exact n_inc _ | rfl) rfl rfl kk) ?_
    dsimp only [zst1, zst2, zkill, List.set, List.getElem?_cons_succ, List.getElem?_cons_zero]
    refine zev_of (fun _ kk => zr_goto zi_129_178 kk) ?_
    exact l_dig5 hb q (s + 1) (by omega) d X
termination_by g 5 - s
theorem l_dig4 (hb : b + 71 ≤ h.length) {Q : zR → Prop} (q : zOk F g x sh gp wi bk) (s : Nat) (hs : s < g 4) (kk : ∀ d X, zev 129 120 [some (.ref b), some (.long d), none, some (.int (nI s)), X] [] (nput b F g h) Q) (w : Nat) (hw : w ≤ 7) (d : Int64) : zev 129 95 [some (.ref b), some (.long d), none, some (.int (nI s)), some (.int (nI w))] [] (nput b F g h) Q := by
  refine zev_of (fun _ kk => zr_iload (pc' := 97) zi_129_95 rfl rfl kk) ?_
  refine zev_of (fun _ kk => zr_bipush (v := (nI 6)) (pc' := 99) zi_129_97 rfl rfl kk) ?_
  refine zv_icmp (pc' := 102) zi_129_99 rfl (fun h99 => ?_) (fun h99 => ?_)
  · replace h99 := zc_gt_t (by omega) (by omega) h99
    exact kk _ _
  · replace h99 := zc_gt_f (by omega) (by omega) h99
    refine zev_of (fun _ kk => zr_lload_n (pc' := 103) zi_129_102 rfl rfl kk) ?_
    refine zev_of (fun _ kk => zr_aload_n (pc' := 104) zi_129_103 rfl rfl kk) ?_
    refine zev_of (fun _ kk => zr_iload_n (pc' := 105) zi_129_104 rfl rfl kk) ?_
    refine zev_of (fun _ kk => zr_iload (pc' := 107) zi_129_105 rfl rfl kk) ?_
    obtain ⟨r, hcl⟩ := c_ofSessionA hb q s hs w (by omega)
    refine zev_of (fun _ kk => zr_v2 (pc' := 110) zi_129_107 (nput_at hb (k := 0) rfl) rfl hcl rfl kk) ?_
    obtain ⟨d2, hd2⟩ := c_mix (H := nput b F g h) d r
    refine zev_of (fun _ kk => zr_s2 (pc' := 113) zi_129_110 rfl hd2 rfl kk) ?_
    refine zev_of (fun _ kk => zr_lstore_n (pc' := 114) zi_129_113 (Nat.le_of_ble_eq_true rfl) rfl rfl kk) ?_
    dsimp only [zst1, zst2, zkill, List.set, List.getElem?_cons_succ, List.getElem?_cons_zero]
    refine zev_of (fun _ kk => zr_iinc (pc' := 117) zi_129_114 rfl (by first | exact n_inc _ | rfl) rfl rfl kk) ?_
    dsimp only [zst1, zst2, zkill, List.set, List.getElem?_cons_succ, List.getElem?_cons_zero]
    refine zev_of (fun _ kk => zr_goto zi_129_117 kk) ?_
    exact l_dig4 hb q s hs kk (w + 1) (by omega) d2
termination_by 7 - w
theorem l_dig3 (hb : b + 71 ≤ h.length) (q : zOk F g x sh gp wi bk) (s : Nat) (hs : s ≤ g 4) (d : Int64) (X : Option Value) : zev 129 81 [some (.ref b), some (.long d), none, some (.int (nI s)), X] [] (nput b F g h) (zQl (nput b F g h)) := by
  have hS := q.S70
  refine zev_of (fun _ kk => zr_iload_n (pc' := 82) zi_129_81 rfl rfl kk) ?_
  refine zev_of (fun _ kk => zr_aload_n (pc' := 83) zi_129_82 rfl rfl kk) ?_
  refine zev_of (fun _ kk => zr_get (pc' := 86) zi_129_83 (nput_at hb (k := 0) rfl) rfl rfl kk) ?_
  refine zev_of (fun _ kk => zr_get (pc' := 89) zi_129_86 (nput_at hb (k := 26) rfl) rfl rfl kk) ?_
  refine zv_icmp (pc' := 92) zi_129_89 rfl (fun h89 => ?_) (fun h89 => ?_)
  · replace h89 := zc_ge_t (by omega) (by omega) h89
    refine zev_of (fun _ kk => zr_lload_n (pc' := 127) zi_129_126 rfl rfl kk) ?_
    refine zev_of (fun _ kk => zr_aload_n (pc' := 128) zi_129_127 rfl rfl kk) ?_
    obtain ⟨r, _, hcl⟩ := c_usual hb q
    refine zev_of (fun _ kk => zr_v0 (pc' := 131) zi_129_128 (nput_at hb (k := 0) rfl) rfl hcl rfl kk) ?_
    obtain ⟨d2, hd2⟩ := c_mix (H := nput b F g h) d r
    refine zev_of (fun _ kk => zr_s2 (pc' := 134) zi_129_131 rfl hd2 rfl kk) ?_
    refine zev_of (fun _ kk => zr_lstore_n (pc' := 135) zi_129_134 (Nat.le_of_ble_eq_true rfl) rfl rfl kk) ?_
    dsimp only [zst1, zst2, zkill, List.set, List.getElem?_cons_succ, List.getElem?_cons_zero]
    refine zev_of (fun _ kk => zr_iconst (v := (nI 0)) (pc' := 136) zi_129_135 rfl rfl kk) ?_
    refine zev_of (fun _ kk => zr_istore_n (pc' := 137) zi_129_136 (Nat.le_of_ble_eq_true rfl) rfl rfl kk) ?_
    dsimp only [zst1, zst2, zkill, List.set, List.getElem?_cons_succ, List.getElem?_cons_zero]
    exact l_dig5 hb q 0 (Nat.zero_le _) d2 _
  · replace h89 := zc_ge_f (by omega) (by omega) h89
    refine zev_of (fun _ kk => zr_iconst (v := (nI 0)) (pc' := 93) zi_129_92 rfl rfl kk) ?_
    refine zev_of (fun _ kk => zr_istore (pc' := 95) zi_129_93 (Nat.le_of_ble_eq_true rfl) rfl rfl kk) ?_
    dsimp only [zst1, zst2, zkill, List.set, List.getElem?_cons_succ, List.getElem?_cons_zero]
    refine l_dig4 hb q s (by omega) (fun d X => ?_) 0 (by omega) d
    refine zev_of (fun _ kk => zr_iinc (pc' := 123) zi_129_120 rfl (by first | exact n_inc _ | rfl) rfl rfl kk) ?_
    dsimp only [zst1, zst2, zkill, List.set, List.getElem?_cons_succ, List.getElem?_cons_zero]
    refine zev_of (fun _ kk => zr_goto zi_129_123 kk) ?_
    exact l_dig3 hb q (s + 1) (by omega) d X
termination_by g 4 - s
theorem l_dig2 (hb : b + 71 ≤ h.length) (q : zOk F g x sh gp wi bk) (t : Nat) (ht : t ≤ g 2) (d : Int64) : zev 129 55 [some (.ref b), some (.long d), none, some (.int (nI t)), none] [] (nput b F g h) (zQl (nput b F g h)) := by
  have hT := q.nb.t20
  refine zev_of (fun _ kk => zr_iload_n (pc' := 56) zi_129_55 rfl rfl kk) ?_
  refine zev_of (fun _ kk => zr_aload_n (pc' := 57) zi_129_56 rfl rfl kk) ?_
  refine zev_of (fun _ kk => zr_get (pc' := 60) zi_129_57 (nput_at hb (k := 0) rfl) rfl rfl kk) ?_
  refine zev_of (fun _ kk => zr_get (pc' := 63) zi_129_60 (nput_at hb (k := 16) rfl) rfl rfl kk) ?_
  refine zv_icmp (pc' := 66) zi_129_63 rfl (fun h63 => ?_) (fun h63 => ?_)
  · replace h63 := zc_ge_t (by omega) (by omega) h63
    refine zev_of (fun _ kk => zr_iconst (v := (nI 0)) (pc' := 80) zi_129_79 rfl rfl kk) ?_
    refine zev_of (fun _ kk => zr_istore_n (pc' := 81) zi_129_80 (Nat.le_of_ble_eq_true rfl) rfl rfl kk) ?_
    dsimp only [zst1, zst2, zkill, List.set, List.getElem?_cons_succ, List.getElem?_cons_zero]
    exact l_dig3 hb q 0 (Nat.zero_le _) d none
  · replace h63 := zc_ge_f (by omega) (by omega) h63
    refine zev_of (fun _ kk => zr_aload_n (pc' := 67) zi_129_66 rfl rfl kk) ?_
    refine zev_of (fun _ kk => zr_lload_n (pc' := 68) zi_129_67 rfl rfl kk) ?_
    refine zev_of (fun _ kk => zr_iload_n (pc' := 69) zi_129_68 rfl rfl kk) ?_
    obtain ⟨d2, hd2⟩ := c_mixTemplate hb q t (by omega) d
    refine zev_of (fun _ kk => zr_v2 (pc' := 72) zi_129_69 (nput_at hb (k := 0) rfl) rfl hd2 rfl kk) ?_
    refine zev_of (fun _ kk => zr_lstore_n (pc' := 73) zi_129_72 (Nat.le_of_ble_eq_true rfl) rfl rfl kk) ?_
    dsimp only [zst1, zst2, zkill, List.set, List.getElem?_cons_succ, List.getElem?_cons_zero]
    refine zev_of (fun _ kk => zr_iinc (pc' := 76) zi_129_73 rfl (by first | exact n_inc _ | rfl) rfl rfl kk) ?_
    dsimp only [zst1, zst2, zkill, List.set, List.getElem?_cons_succ, List.getElem?_cons_zero]
    refine zev_of (fun _ kk => zr_goto zi_129_76 kk) ?_
    exact l_dig2 hb q (t + 1) (by omega) d2
termination_by g 2 - t
theorem l_dig1 (hb : b + 71 ≤ h.length) (q : zOk F g x sh gp wi bk) (l : Nat) (hl : l ≤ g 0) (d : Int64) : zev 129 29 [some (.ref b), some (.long d), none, some (.int (nI l)), none] [] (nput b F g h) (zQl (nput b F g h)) := by
  have hn := q.nb.n70
  refine zev_of (fun _ kk => zr_iload_n (pc' := 30) zi_129_29 rfl rfl kk) ?_
  refine zev_of (fun _ kk => zr_aload_n (pc' := 31) zi_129_30 rfl rfl kk) ?_
  refine zev_of (fun _ kk => zr_get (pc' := 34) zi_129_31 (nput_at hb (k := 0) rfl) rfl rfl kk) ?_
  refine zev_of (fun _ kk => zr_get (pc' := 37) zi_129_34 (nput_at hb (k := 1) rfl) rfl rfl kk) ?_
  refine zv_icmp (pc' := 40) zi_129_37 rfl (fun h37 => ?_) (fun h37 => ?_)
  · replace h37 := zc_ge_t (by omega) (by omega) h37
    refine zev_of (fun _ kk => zr_iconst (v := (nI 0)) (pc' := 54) zi_129_53 rfl rfl kk) ?_
    refine zev_of (fun _ kk => zr_istore_n (pc' := 55) zi_129_54 (Nat.le_of_ble_eq_true rfl) rfl rfl kk) ?_
    dsimp only [zst1, zst2, zkill, List.set, List.getElem?_cons_succ, List.getElem?_cons_zero]
    exact l_dig2 hb q 0 (Nat.zero_le _) d
  · replace h37 := zc_ge_f (by omega) (by omega) h37
    refine zev_of (fun _ kk => zr_aload_n (pc' := 41) zi_129_40 rfl rfl kk) ?_
    refine zev_of (fun _ kk => zr_lload_n (pc' := 42) zi_129_41 rfl rfl kk) ?_
    refine zev_of (fun _ kk => zr_iload_n (pc' := 43) zi_129_42 rfl rfl kk) ?_
    obtain ⟨d2, hd2⟩ := c_mixLine hb q l (by omega) d
    refine zev_of (fun _ kk => zr_v2 (pc' := 46) zi_129_43 (nput_at hb (k := 0) rfl) rfl hd2 rfl kk) ?_
    refine zev_of (fun _ kk => zr_lstore_n (pc' := 47) zi_129_46 (Nat.le_of_ble_eq_true rfl) rfl rfl kk) ?_
    dsimp only [zst1, zst2, zkill, List.set, List.getElem?_cons_succ, List.getElem?_cons_zero]
    refine zev_of (fun _ kk => zr_iinc (pc' := 50) zi_129_47 rfl (by first | exact n_inc _ | rfl) rfl rfl kk) ?_
    dsimp only [zst1, zst2, zkill, List.set, List.getElem?_cons_succ, List.getElem?_cons_zero]
    refine zev_of (fun _ kk => zr_goto zi_129_50 kk) ?_
    exact l_dig1 hb q (l + 1) (by omega) d2
termination_by g 0 - l
theorem l_dig0 (hb : b + 71 ≤ h.length) (q : zOk F g x sh gp wi bk) (k : Nat) (hk : k ≤ 6) (d : Int64) : zev 129 6 [some (.ref b), some (.long d), none, some (.int (nI k)), none] [] (nput b F g h) (zQl (nput b F g h)) := by
  refine zev_of (fun _ kk => zr_iload_n (pc' := 7) zi_129_6 rfl rfl kk) ?_
  refine zev_of (fun _ kk => zr_iconst (v := (nI 5)) (pc' := 8) zi_129_7 rfl rfl kk) ?_
  refine zv_icmp (pc' := 11) zi_129_8 rfl (fun h8 => ?_) (fun h8 => ?_)
  · replace h8 := zc_gt_t (by omega) (by omega) h8
    refine zev_of (fun _ kk => zr_iconst (v := (nI 0)) (pc' := 28) zi_129_27 rfl rfl kk) ?_
    refine zev_of (fun _ kk => zr_istore_n (pc' := 29) zi_129_28 (Nat.le_of_ble_eq_true rfl) rfl rfl kk) ?_
    dsimp only [zst1, zst2, zkill, List.set, List.getElem?_cons_succ, List.getElem?_cons_zero]
    exact l_dig1 hb q 0 (Nat.zero_le _) d
  · replace h8 := zc_gt_f (by omega) (by omega) h8
    refine zev_of (fun _ kk => zr_lload_n (pc' := 12) zi_129_11 rfl rfl kk) ?_
    refine zev_of (fun _ kk => zr_aload_n (pc' := 13) zi_129_12 rfl rfl kk) ?_
    refine zev_of (fun _ kk => zr_iload_n (pc' := 14) zi_129_13 rfl rfl kk) ?_
    obtain ⟨r, hcl⟩ := c_manyA hb q k (by omega)
    refine zev_of (fun _ kk => zr_v1 (pc' := 17) zi_129_14 (nput_at hb (k := 0) rfl) rfl hcl rfl kk) ?_
    obtain ⟨d2, hd2⟩ := c_mix (H := nput b F g h) d r
    refine zev_of (fun _ kk => zr_s2 (pc' := 20) zi_129_17 rfl hd2 rfl kk) ?_
    refine zev_of (fun _ kk => zr_lstore_n (pc' := 21) zi_129_20 (Nat.le_of_ble_eq_true rfl) rfl rfl kk) ?_
    dsimp only [zst1, zst2, zkill, List.set, List.getElem?_cons_succ, List.getElem?_cons_zero]
    refine zev_of (fun _ kk => zr_iinc (pc' := 24) zi_129_21 rfl (by first | exact n_inc _ | rfl) rfl rfl kk) ?_
    dsimp only [zst1, zst2, zkill, List.set, List.getElem?_cons_succ, List.getElem?_cons_zero]
    refine zev_of (fun _ kk => zr_goto zi_129_24 kk) ?_
    exact l_dig0 hb q (k + 1) (by omega) d2
termination_by 6 - k
theorem c_digest (hb : b + 71 ≤ h.length) (q : zOk F g x sh gp wi bk) : ∃ d, zcalls zTB 129 [.ref b] (nput b F g h) (some (.long d), nput b F g h) := by
  refine zQl_out (zev_calls (Nat.le_of_ble_eq_true rfl) ?_)
  show zev 129 0 [some (.ref b), none, none, none, none] [] _ _
  refine zev_of (fun _ kk => zr_ldc2_w (pc' := 3) zi_129_0 rfl rfl kk) ?_
  refine zev_of (fun _ kk => zr_lstore_n (pc' := 4) zi_129_3 (Nat.le_of_ble_eq_true rfl) rfl rfl kk) ?_
  dsimp only [zst1, zst2, zkill, List.set, List.getElem?_cons_succ, List.getElem?_cons_zero]
  refine zev_of (fun _ kk => zr_iconst (v := (nI 0)) (pc' := 5) zi_129_4 rfl rfl kk) ?_
  refine zev_of (fun _ kk => zr_istore_n (pc' := 6) zi_129_5 (Nat.le_of_ble_eq_true rfl) rfl rfl kk) ?_
  dsimp only [zst1, zst2, zkill, List.set, List.getElem?_cons_succ, List.getElem?_cons_zero]
  exact l_dig0 hb q 0 (Nat.zero_le _) _
end


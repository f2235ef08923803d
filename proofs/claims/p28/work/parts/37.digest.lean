theorem zi_5_0 : zI 5 0 = some (.lload_n 0, []) := by decide +kernel
theorem zi_5_1 : zI 5 1 = some (.ldc2_w 335, [31, 40]) := by decide +kernel
theorem zi_5_4 : zI 5 4 = some (.lmul, []) := by decide +kernel
theorem zi_5_5 : zI 5 5 = some (.iload_n 2, []) := by decide +kernel
theorem zi_5_6 : zI 5 6 = some (.i2l, []) := by decide +kernel
theorem zi_5_7 : zI 5 7 = some (.ladd, []) := by decide +kernel
theorem zi_5_8 : zI 5 8 = some (.lreturn, []) := by decide +kernel
theorem zi_43_0 : zI 43 0 = some (.ldc2_w 290, [58085, 229]) := by decide +kernel
theorem zi_43_3 : zI 43 3 = some (.lstore_n 1, []) := by decide +kernel
theorem zi_43_4 : zI 43 4 = some (.iconst 0, []) := by decide +kernel
theorem zi_43_5 : zI 43 5 = some (.istore_n 3, []) := by decide +kernel
theorem zi_43_6 : zI 43 6 = some (.iload_n 3, []) := by decide +kernel
theorem zi_43_7 : zI 43 7 = some (.iconst 5, []) := by decide +kernel
theorem zi_43_8 : zI 43 8 = some (.if_icmp .gt 19, [27]) := by decide +kernel
theorem zi_43_11 : zI 43 11 = some (.lload_n 1, []) := by decide +kernel
theorem zi_43_12 : zI 43 12 = some (.aload_n 0, []) := by decide +kernel
theorem zi_43_13 : zI 43 13 = some (.iload_n 3, []) := by decide +kernel
theorem zi_43_14 : zI 43 14 = some (.invokevirtual 292, [15, 0, 1, 6, 232, 233, 9, 231, 0, 230]) := by decide +kernel
theorem zi_43_17 : zI 43 17 = some (.invokestatic 295, [5, 1, 2, 0, 236, 0, 9, 235, 0, 234]) := by decide +kernel
theorem zi_43_20 : zI 43 20 = some (.lstore_n 1, []) := by decide +kernel
theorem zi_43_21 : zI 43 21 = some (.iinc 3 1, []) := by decide +kernel
theorem zi_43_24 : zI 43 24 = some (.goto (-18), [6]) := by decide +kernel
theorem zi_43_27 : zI 43 27 = some (.iconst 0, []) := by decide +kernel
theorem zi_43_28 : zI 43 28 = some (.istore_n 3, []) := by decide +kernel
theorem zi_43_29 : zI 43 29 = some (.iload_n 3, []) := by decide +kernel
theorem zi_43_30 : zI 43 30 = some (.aload_n 0, []) := by decide +kernel
theorem zi_43_31 : zI 43 31 = some (.getfield 12, [6, 0, 13]) := by decide +kernel
theorem zi_43_34 : zI 43 34 = some (.getfield 71, [0, 7, 108]) := by decide +kernel
theorem zi_43_37 : zI 43 37 = some (.if_icmp .ge 16, [53]) := by decide +kernel
theorem zi_43_40 : zI 43 40 = some (.aload_n 0, []) := by decide +kernel
theorem zi_43_41 : zI 43 41 = some (.lload_n 1, []) := by decide +kernel
theorem zi_43_42 : zI 43 42 = some (.iload_n 3, []) := by decide +kernel
theorem zi_43_43 : zI 43 43 = some (.invokevirtual 299, [92, 0, 2, 6, 239, 240, 9, 238, 0, 237]) := by decide +kernel
theorem zi_43_46 : zI 43 46 = some (.lstore_n 1, []) := by decide +kernel
theorem zi_43_47 : zI 43 47 = some (.iinc 3 1, []) := by decide +kernel
theorem zi_43_50 : zI 43 50 = some (.goto (-21), [29]) := by decide +kernel
theorem zi_43_53 : zI 43 53 = some (.iconst 0, []) := by decide +kernel
theorem zi_43_54 : zI 43 54 = some (.istore_n 3, []) := by decide +kernel
theorem zi_43_55 : zI 43 55 = some (.iload_n 3, []) := by decide +kernel
theorem zi_43_56 : zI 43 56 = some (.aload_n 0, []) := by decide +kernel
theorem zi_43_57 : zI 43 57 = some (.getfield 19, [6, 1, 80]) := by decide +kernel
theorem zi_43_60 : zI 43 60 = some (.getfield 126, [5, 2, 107]) := by decide +kernel
theorem zi_43_63 : zI 43 63 = some (.if_icmp .ge 16, [79]) := by decide +kernel
theorem zi_43_66 : zI 43 66 = some (.aload_n 0, []) := by decide +kernel
theorem zi_43_67 : zI 43 67 = some (.lload_n 1, []) := by decide +kernel
theorem zi_43_68 : zI 43 68 = some (.iload_n 3, []) := by decide +kernel
theorem zi_43_69 : zI 43 69 = some (.invokevirtual 302, [93, 0, 2, 6, 243, 244, 9, 242, 0, 241]) := by decide +kernel
theorem zi_43_72 : zI 43 72 = some (.lstore_n 1, []) := by decide +kernel
theorem zi_43_73 : zI 43 73 = some (.iinc 3 1, []) := by decide +kernel
theorem zi_43_76 : zI 43 76 = some (.goto (-21), [55]) := by decide +kernel
theorem zi_43_79 : zI 43 79 = some (.iconst 0, []) := by decide +kernel
theorem zi_43_80 : zI 43 80 = some (.istore_n 3, []) := by decide +kernel
theorem zi_43_81 : zI 43 81 = some (.iload_n 3, []) := by decide +kernel
theorem zi_43_82 : zI 43 82 = some (.aload_n 0, []) := by decide +kernel
theorem zi_43_83 : zI 43 83 = some (.getfield 29, [6, 3, 25]) := by decide +kernel
theorem zi_43_86 : zI 43 86 = some (.getfield 129, [3, 8, 110]) := by decide +kernel
theorem zi_43_89 : zI 43 89 = some (.if_icmp .ge 37, [126]) := by decide +kernel
theorem zi_43_92 : zI 43 92 = some (.iconst 0, []) := by decide +kernel
theorem zi_43_93 : zI 43 93 = some (.istore 4, []) := by decide +kernel
theorem zi_43_95 : zI 43 95 = some (.iload 4, []) := by decide +kernel
theorem zi_43_97 : zI 43 97 = some (.bipush 6, []) := by decide +kernel
theorem zi_43_99 : zI 43 99 = some (.if_icmp .gt 21, [120]) := by decide +kernel
theorem zi_43_102 : zI 43 102 = some (.lload_n 1, []) := by decide +kernel
theorem zi_43_103 : zI 43 103 = some (.aload_n 0, []) := by decide +kernel
theorem zi_43_104 : zI 43 104 = some (.iload_n 3, []) := by decide +kernel
theorem zi_43_105 : zI 43 105 = some (.iload 4, []) := by decide +kernel
theorem zi_43_107 : zI 43 107 = some (.invokevirtual 305, [7, 0, 2, 6, 247, 248, 9, 246, 0, 245]) := by decide +kernel
theorem zi_43_110 : zI 43 110 = some (.invokestatic 295, [5, 1, 2, 0, 236, 0, 9, 235, 0, 234]) := by decide +kernel
theorem zi_43_113 : zI 43 113 = some (.lstore_n 1, []) := by decide +kernel
theorem zi_43_114 : zI 43 114 = some (.iinc 4 1, []) := by decide +kernel
theorem zi_43_117 : zI 43 117 = some (.goto (-22), [95]) := by decide +kernel
theorem zi_43_120 : zI 43 120 = some (.iinc 3 1, []) := by decide +kernel
theorem zi_43_123 : zI 43 123 = some (.goto (-42), [81]) := by decide +kernel
theorem zi_43_126 : zI 43 126 = some (.lload_n 1, []) := by decide +kernel
theorem zi_43_127 : zI 43 127 = some (.aload_n 0, []) := by decide +kernel
theorem zi_43_128 : zI 43 128 = some (.invokevirtual 308, [27, 0, 0, 6, 251, 252, 9, 250, 0, 249]) := by decide +kernel
theorem zi_43_131 : zI 43 131 = some (.invokestatic 295, [5, 1, 2, 0, 236, 0, 9, 235, 0, 234]) := by decide +kernel
theorem zi_43_134 : zI 43 134 = some (.lstore_n 1, []) := by decide +kernel
theorem zi_43_135 : zI 43 135 = some (.iconst 0, []) := by decide +kernel
theorem zi_43_136 : zI 43 136 = some (.istore_n 3, []) := by decide +kernel
theorem zi_43_137 : zI 43 137 = some (.iload_n 3, []) := by decide +kernel
theorem zi_43_138 : zI 43 138 = some (.aload_n 0, []) := by decide +kernel
theorem zi_43_139 : zI 43 139 = some (.getfield 36, [6, 4, 102]) := by decide +kernel
theorem zi_43_142 : zI 43 142 = some (.getfield 134, [4, 4, 103]) := by decide +kernel
theorem zi_43_145 : zI 43 145 = some (.if_icmp .ge 36, [181]) := by decide +kernel
theorem zi_43_148 : zI 43 148 = some (.iconst 0, []) := by decide +kernel
theorem zi_43_149 : zI 43 149 = some (.istore 4, []) := by decide +kernel
theorem zi_43_151 : zI 43 151 = some (.iload 4, []) := by decide +kernel
theorem zi_43_153 : zI 43 153 = some (.iconst 2, []) := by decide +kernel
theorem zi_43_154 : zI 43 154 = some (.if_icmp .gt 21, [175]) := by decide +kernel
theorem zi_43_157 : zI 43 157 = some (.lload_n 1, []) := by decide +kernel
theorem zi_43_158 : zI 43 158 = some (.aload_n 0, []) := by decide +kernel
theorem zi_43_159 : zI 43 159 = some (.iload_n 3, []) := by decide +kernel
theorem zi_43_160 : zI 43 160 = some (.iload 4, []) := by decide +kernel
theorem zi_43_162 : zI 43 162 = some (.invokevirtual 311, [13, 0, 2, 6, 255, 256, 9, 254, 0, 253]) := by decide +kernel
theorem zi_43_165 : zI 43 165 = some (.invokestatic 295, [5, 1, 2, 0, 236, 0, 9, 235, 0, 234]) := by decide +kernel
theorem zi_43_168 : zI 43 168 = some (.lstore_n 1, []) := by decide +kernel
theorem zi_43_169 : zI 43 169 = some (.iinc 4 1, []) := by decide +kernel
theorem zi_43_172 : zI 43 172 = some (.goto (-21), [151]) := by decide +kernel
theorem zi_43_175 : zI 43 175 = some (.iinc 3 1, []) := by decide +kernel
theorem zi_43_178 : zI 43 178 = some (.goto (-41), [137]) := by decide +kernel
theorem zi_43_181 : zI 43 181 = some (.lload_n 1, []) := by decide +kernel
theorem zi_43_182 : zI 43 182 = some (.lreturn, []) := by decide +kernel
theorem zi_92_0 : zI 92 0 = some (.lload_n 1, []) := by decide +kernel
theorem zi_92_1 : zI 92 1 = some (.lstore 4, []) := by decide +kernel
theorem zi_92_3 : zI 92 3 = some (.iconst 4, []) := by decide +kernel
theorem zi_92_4 : zI 92 4 = some (.istore 6, []) := by decide +kernel
theorem zi_92_6 : zI 92 6 = some (.iload 6, []) := by decide +kernel
theorem zi_92_8 : zI 92 8 = some (.bipush 8, []) := by decide +kernel
theorem zi_92_10 : zI 92 10 = some (.if_icmp .gt 23, [33]) := by decide +kernel
theorem zi_92_13 : zI 92 13 = some (.lload 4, []) := by decide +kernel
theorem zi_92_15 : zI 92 15 = some (.aload_n 0, []) := by decide +kernel
theorem zi_92_16 : zI 92 16 = some (.iload_n 3, []) := by decide +kernel
theorem zi_92_17 : zI 92 17 = some (.iload 6, []) := by decide +kernel
theorem zi_92_19 : zI 92 19 = some (.invokevirtual 314, [3, 0, 2, 6, 460, 461, 9, 459, 0, 458]) := by decide +kernel
theorem zi_92_22 : zI 92 22 = some (.invokestatic 295, [5, 1, 2, 0, 236, 0, 9, 235, 0, 234]) := by decide +kernel
theorem zi_92_25 : zI 92 25 = some (.lstore 4, []) := by decide +kernel
theorem zi_92_27 : zI 92 27 = some (.iinc 6 1, []) := by decide +kernel
theorem zi_92_30 : zI 92 30 = some (.goto (-24), [6]) := by decide +kernel
theorem zi_92_33 : zI 92 33 = some (.lload 4, []) := by decide +kernel
theorem zi_92_35 : zI 92 35 = some (.aload_n 0, []) := by decide +kernel
theorem zi_92_36 : zI 92 36 = some (.iload_n 3, []) := by decide +kernel
theorem zi_92_37 : zI 92 37 = some (.invokevirtual 317, [42, 0, 1, 6, 464, 465, 9, 463, 0, 462]) := by decide +kernel
theorem zi_92_40 : zI 92 40 = some (.invokestatic 295, [5, 1, 2, 0, 236, 0, 9, 235, 0, 234]) := by decide +kernel
theorem zi_92_43 : zI 92 43 = some (.lreturn, []) := by decide +kernel
theorem zi_93_0 : zI 93 0 = some (.lload_n 1, []) := by decide +kernel
theorem zi_93_1 : zI 93 1 = some (.iload_n 3, []) := by decide +kernel
theorem zi_93_2 : zI 93 2 = some (.invokestatic 295, [5, 1, 2, 0, 236, 0, 9, 235, 0, 234]) := by decide +kernel
theorem zi_93_5 : zI 93 5 = some (.lstore 4, []) := by decide +kernel
theorem zi_93_7 : zI 93 7 = some (.iconst 0, []) := by decide +kernel
theorem zi_93_8 : zI 93 8 = some (.istore 6, []) := by decide +kernel
theorem zi_93_10 : zI 93 10 = some (.iload 6, []) := by decide +kernel
theorem zi_93_12 : zI 93 12 = some (.iconst 4, []) := by decide +kernel
theorem zi_93_13 : zI 93 13 = some (.if_icmp .gt 23, [36]) := by decide +kernel
theorem zi_93_16 : zI 93 16 = some (.lload 4, []) := by decide +kernel
theorem zi_93_18 : zI 93 18 = some (.aload_n 0, []) := by decide +kernel
theorem zi_93_19 : zI 93 19 = some (.iload_n 3, []) := by decide +kernel
theorem zi_93_20 : zI 93 20 = some (.iload 6, []) := by decide +kernel
theorem zi_93_22 : zI 93 22 = some (.invokevirtual 320, [10, 0, 2, 6, 468, 469, 9, 467, 0, 466]) := by decide +kernel
theorem zi_93_25 : zI 93 25 = some (.invokestatic 295, [5, 1, 2, 0, 236, 0, 9, 235, 0, 234]) := by decide +kernel
theorem zi_93_28 : zI 93 28 = some (.lstore 4, []) := by decide +kernel
theorem zi_93_30 : zI 93 30 = some (.iinc 6 1, []) := by decide +kernel
theorem zi_93_33 : zI 93 33 = some (.goto (-23), [10]) := by decide +kernel
theorem zi_93_36 : zI 93 36 = some (.aload_n 0, []) := by decide +kernel
theorem zi_93_37 : zI 93 37 = some (.getfield 19, [6, 1, 80]) := by decide +kernel
theorem zi_93_40 : zI 93 40 = some (.getfield 174, [5, 0, 81]) := by decide +kernel
theorem zi_93_43 : zI 93 43 = some (.iload_n 3, []) := by decide +kernel
theorem zi_93_44 : zI 93 44 = some (.invokevirtual 83, [0, 0, 1, 1, 17, 18, 19, 16, 0, 15]) := by decide +kernel
theorem zi_93_47 : zI 93 47 = some (.istore 6, []) := by decide +kernel
theorem zi_93_49 : zI 93 49 = some (.iconst 0, []) := by decide +kernel
theorem zi_93_50 : zI 93 50 = some (.istore 7, []) := by decide +kernel
theorem zi_93_52 : zI 93 52 = some (.iload 7, []) := by decide +kernel
theorem zi_93_54 : zI 93 54 = some (.iload 6, []) := by decide +kernel
theorem zi_93_56 : zI 93 56 = some (.if_icmp .ge 23, [79]) := by decide +kernel
theorem zi_93_59 : zI 93 59 = some (.lload 4, []) := by decide +kernel
theorem zi_93_61 : zI 93 61 = some (.aload_n 0, []) := by decide +kernel
theorem zi_93_62 : zI 93 62 = some (.iload_n 3, []) := by decide +kernel
theorem zi_93_63 : zI 93 63 = some (.iload 7, []) := by decide +kernel
theorem zi_93_65 : zI 93 65 = some (.invokevirtual 323, [40, 0, 2, 6, 472, 473, 9, 471, 0, 470]) := by decide +kernel
theorem zi_93_68 : zI 93 68 = some (.invokestatic 295, [5, 1, 2, 0, 236, 0, 9, 235, 0, 234]) := by decide +kernel
theorem zi_93_71 : zI 93 71 = some (.lstore 4, []) := by decide +kernel
theorem zi_93_73 : zI 93 73 = some (.iinc 7 1, []) := by decide +kernel
theorem zi_93_76 : zI 93 76 = some (.goto (-24), [52]) := by decide +kernel
theorem zi_93_79 : zI 93 79 = some (.aload_n 0, []) := by decide +kernel
theorem zi_93_80 : zI 93 80 = some (.getfield 19, [6, 1, 80]) := by decide +kernel
theorem zi_93_83 : zI 93 83 = some (.iload_n 3, []) := by decide +kernel
theorem zi_93_84 : zI 93 84 = some (.invokevirtual 175, [37, 0, 1, 5, 84, 85, 86, 83, 0, 82]) := by decide +kernel
theorem zi_93_87 : zI 93 87 = some (.istore 7, []) := by decide +kernel
theorem zi_93_89 : zI 93 89 = some (.iconst 0, []) := by decide +kernel
theorem zi_93_90 : zI 93 90 = some (.istore 8, []) := by decide +kernel
theorem zi_93_92 : zI 93 92 = some (.iload 8, []) := by decide +kernel
theorem zi_93_94 : zI 93 94 = some (.iload 7, []) := by decide +kernel
theorem zi_93_96 : zI 93 96 = some (.if_icmp .ge 23, [119]) := by decide +kernel
theorem zi_93_99 : zI 93 99 = some (.lload 4, []) := by decide +kernel
theorem zi_93_101 : zI 93 101 = some (.aload_n 0, []) := by decide +kernel
theorem zi_93_102 : zI 93 102 = some (.iload_n 3, []) := by decide +kernel
theorem zi_93_103 : zI 93 103 = some (.iload 8, []) := by decide +kernel
theorem zi_93_105 : zI 93 105 = some (.invokevirtual 326, [41, 0, 2, 6, 476, 477, 9, 475, 0, 474]) := by decide +kernel
theorem zi_93_108 : zI 93 108 = some (.invokestatic 295, [5, 1, 2, 0, 236, 0, 9, 235, 0, 234]) := by decide +kernel
theorem zi_93_111 : zI 93 111 = some (.lstore 4, []) := by decide +kernel
theorem zi_93_113 : zI 93 113 = some (.iinc 8 1, []) := by decide +kernel
theorem zi_93_116 : zI 93 116 = some (.goto (-24), [92]) := by decide +kernel
theorem zi_93_119 : zI 93 119 = some (.aload_n 0, []) := by decide +kernel
theorem zi_93_120 : zI 93 120 = some (.iload_n 3, []) := by decide +kernel
theorem zi_93_121 : zI 93 121 = some (.invokevirtual 329, [28, 0, 1, 6, 480, 481, 9, 479, 0, 478]) := by decide +kernel
theorem zi_93_124 : zI 93 124 = some (.istore 8, []) := by decide +kernel
theorem zi_93_126 : zI 93 126 = some (.lload 4, []) := by decide +kernel
theorem zi_93_128 : zI 93 128 = some (.iload 8, []) := by decide +kernel
theorem zi_93_130 : zI 93 130 = some (.invokestatic 295, [5, 1, 2, 0, 236, 0, 9, 235, 0, 234]) := by decide +kernel
theorem zi_93_133 : zI 93 133 = some (.lstore 4, []) := by decide +kernel
theorem zi_93_135 : zI 93 135 = some (.iconst 0, []) := by decide +kernel
theorem zi_93_136 : zI 93 136 = some (.istore 9, []) := by decide +kernel
theorem zi_93_138 : zI 93 138 = some (.iload 9, []) := by decide +kernel
theorem zi_93_140 : zI 93 140 = some (.iload 8, []) := by decide +kernel
theorem zi_93_142 : zI 93 142 = some (.if_icmp .ge 40, [182]) := by decide +kernel
theorem zi_93_145 : zI 93 145 = some (.iconst 0, []) := by decide +kernel
theorem zi_93_146 : zI 93 146 = some (.istore 10, []) := by decide +kernel
theorem zi_93_148 : zI 93 148 = some (.iload 10, []) := by decide +kernel
theorem zi_93_150 : zI 93 150 = some (.iconst 3, []) := by decide +kernel
theorem zi_93_151 : zI 93 151 = some (.if_icmp .gt 25, [176]) := by decide +kernel
theorem zi_93_154 : zI 93 154 = some (.lload 4, []) := by decide +kernel
theorem zi_93_156 : zI 93 156 = some (.aload_n 0, []) := by decide +kernel
theorem zi_93_157 : zI 93 157 = some (.iload_n 3, []) := by decide +kernel
theorem zi_93_158 : zI 93 158 = some (.iload 9, []) := by decide +kernel
theorem zi_93_160 : zI 93 160 = some (.iload 10, []) := by decide +kernel
theorem zi_93_162 : zI 93 162 = some (.invokevirtual 332, [8, 0, 3, 6, 484, 485, 9, 483, 0, 482]) := by decide +kernel
theorem zi_93_165 : zI 93 165 = some (.invokestatic 295, [5, 1, 2, 0, 236, 0, 9, 235, 0, 234]) := by decide +kernel
theorem zi_93_168 : zI 93 168 = some (.lstore 4, []) := by decide +kernel
theorem zi_93_170 : zI 93 170 = some (.iinc 10 1, []) := by decide +kernel
theorem zi_93_173 : zI 93 173 = some (.goto (-25), [148]) := by decide +kernel
theorem zi_93_176 : zI 93 176 = some (.iinc 9 1, []) := by decide +kernel
theorem zi_93_179 : zI 93 179 = some (.goto (-41), [138]) := by decide +kernel
theorem zi_93_182 : zI 93 182 = some (.lload 4, []) := by decide +kernel
theorem zi_93_184 : zI 93 184 = some (.lreturn, []) := by decide +kernel
/-! digest -/
section
variable {b : Nat} {F : Nat → Nat → Int32} {g : Nat → Nat} {h : zH} {x : Nat → Nat} {sh gp wi bk : Nat}
def zQl (H : zH) : zR → Prop := fun q => ∃ d, q = (some (.long d), H)
theorem zQl_out {y : Nat} {a : List Value} {h H : zH} (k : ∃ q, zQl H q ∧ zcalls zTB y a h q) : ∃ d, zcalls zTB y a h (some (.long d), H) := by
  obtain ⟨q, ⟨d, rfl⟩, hc⟩ := k
  exact ⟨d, hc⟩
theorem c_mix {H : zH} (d : Int64) (v : Int32) : ∃ d', zcalls zTB 5 [.long d, .int v] H (some (.long d'), H) := by
  refine zQl_out (zev_calls (Nat.le_of_ble_eq_true rfl) ?_)
  show zev 5 0 [some (.long d), none, some (.int v)] [] _ _
  refine zev_of (fun _ kk => zr_lload_n (pc' := 1) zi_5_0 rfl rfl kk) ?_
  refine zev_of (fun _ kk => zr_ldc2_w (pc' := 4) zi_5_1 rfl rfl kk) ?_
  refine zev_of (fun _ kk => zr_lmul (pc' := 5) zi_5_4 rfl rfl kk) ?_
  refine zev_of (fun _ kk => zr_iload_n (pc' := 6) zi_5_5 rfl rfl kk) ?_
  refine zev_of (fun _ kk => zr_i2l (pc' := 7) zi_5_6 rfl kk) ?_
  refine zev_of (fun _ kk => zr_ladd (pc' := 8) zi_5_7 rfl rfl kk) ?_
  refine zev_ret (zr_lreturn zi_5_8 rfl) ?_
  exact ⟨_, rfl⟩
theorem c_manyA (hb : b + 71 ≤ h.length) (q : zOk F g x sh gp wi bk) (k : Nat) (hk : k ≤ 5) : ∃ r, zcalls zTB 15 [.ref b, .int (nI k)] (nput b F g h) (some (.int r), nput b F g h) := by
  rcases (show k = 0 ∨ k = 1 ∨ k = 2 ∨ k = 3 ∨ k = 4 ∨ k = 5 by omega) with rfl | rfl | rfl | rfl | rfl | rfl
  · exact ⟨_, c_many0 hb q⟩
  · exact ⟨_, c_many1 hb q⟩
  · exact ⟨_, c_many2 hb q⟩
  · exact ⟨_, c_many3 hb q⟩
  · exact ⟨_, c_many4 hb q⟩
  · exact ⟨_, c_many5 hb q⟩
theorem c_ofLineA (hb : b + 71 ≤ h.length) (q : zOk F g x sh gp wi bk) (l : Nat) (hl : l < g 0) (k : Nat) (hk : k ≤ 8) : ∃ r, zcalls zTB 3 [.ref b, .int (nI l), .int (nI k)] (nput b F g h) (some (.int r), nput b F g h) := by
  rcases (show k = 0 ∨ k = 1 ∨ k = 2 ∨ k = 3 ∨ k = 4 ∨ k = 5 ∨ k = 6 ∨ k = 7 ∨ k = 8 by omega) with rfl | rfl | rfl | rfl | rfl | rfl | rfl | rfl | rfl
  · exact ⟨_, c_ofLine0 hb q l hl⟩
  · exact ⟨_, c_ofLine1 hb q l hl⟩
  · exact ⟨_, c_ofLine2 hb q l hl⟩
  · exact ⟨_, c_ofLine3 hb q l hl⟩
  · exact ⟨_, c_ofLine4 hb q l hl⟩
  · exact ⟨_, c_ofLine5 hb q l hl⟩
  · exact ⟨_, c_ofLine6 hb q l hl⟩
  · exact ⟨_, c_ofLine7 hb q l hl⟩
  · exact ⟨_, c_ofLine8 hb q l hl⟩
theorem c_ofTemplateA (hb : b + 71 ≤ h.length) (q : zOk F g x sh gp wi bk) (t a : Nat) (ht : t < g 2) (ha : F 7 t = nI a) (ha8 : a ≤ 8) (k : Nat) (hk : k ≤ 4) : ∃ r, zcalls zTB 10 [.ref b, .int (nI t), .int (nI k)] (nput b F g h) (some (.int r), nput b F g h) := by
  rcases (show k = 0 ∨ k = 1 ∨ k = 2 ∨ k = 3 ∨ k = 4 by omega) with rfl | rfl | rfl | rfl | rfl
  · exact ⟨_, c_ofTemplate0 hb q t a ht ha ha8⟩
  · exact ⟨_, c_ofTemplate1 hb q t a ht ha ha8⟩
  · exact ⟨_, c_ofTemplate2 hb q t a ht ha ha8⟩
  · obtain ⟨r, _, hc⟩ := c_ofTemplate3 hb q t ht
    exact ⟨r, hc⟩
  · obtain ⟨r, _, hc⟩ := c_ofTemplate4 hb q t ht
    exact ⟨r, hc⟩
theorem c_ofSessionA (hb : b + 71 ≤ h.length) (q : zOk F g x sh gp wi bk) (s : Nat) (hs : s < g 4) (k : Nat) (hk : k ≤ 6) : ∃ r, zcalls zTB 7 [.ref b, .int (nI s), .int (nI k)] (nput b F g h) (some (.int r), nput b F g h) := by
  obtain ⟨C, Z, qs⟩ := q.to.se
  rcases (show k = 0 ∨ k = 1 ∨ k = 2 ∨ k = 3 ∨ k = 4 ∨ k = 5 ∨ k = 6 by omega) with rfl | rfl | rfl | rfl | rfl | rfl | rfl
  · exact ⟨_, c_ofSession0 hb q qs s hs⟩
  · exact ⟨_, c_ofSession1 hb q qs s hs⟩
  · exact ⟨_, c_ofSession2 hb q qs s hs⟩
  · exact ⟨_, c_ofSession3 hb q qs s hs⟩
  · exact ⟨_, c_ofSession4 hb q qs s hs⟩
  · obtain ⟨r, _, hc⟩ := c_ofSession5 hb q qs s hs
    exact ⟨r, hc⟩
  · exact ⟨_, c_ofSession6 hb q qs s hs⟩
theorem c_spikeA (hb : b + 71 ≤ h.length) (q : zOk F g x sh gp wi bk) (s : Nat) (hs : s < g 5) (k : Nat) (hk : k ≤ 2) : ∃ r, zcalls zTB 13 [.ref b, .int (nI s), .int (nI k)] (nput b F g h) (some (.int r), nput b F g h) := by
  rcases (show k = 0 ∨ k = 1 ∨ k = 2 by omega) with rfl | rfl | rfl
  · exact ⟨_, c_spike0 hb q s hs⟩
  · exact ⟨_, c_spike1 hb q s hs⟩
  · exact ⟨_, c_spike2 hb q s hs⟩
theorem c_causeA (hb : b + 71 ≤ h.length) (q : zOk F g x sh gp wi bk) (t k N : Nat) (ht : t < g 2) (hN : F 30 t = nI N) (hN2 : N ≤ 20) (hk : k < N) (w : Nat) (hw : w ≤ 3) : ∃ r, zcalls zTB 8 [.ref b, .int (nI t), .int (nI k), .int (nI w)] (nput b F g h) (some (.int r), nput b F g h) := by
  have hT := q.nb.t20
  obtain ⟨M, R, sv, hr⟩ := q.to.rk t ht
  have e : M = N := (nI_eq (by have := hr.2.1; omega) (by omega)).mp (hr.1.symm.trans hN)
  subst e
  rcases (show w = 0 ∨ w = 1 ∨ w = 2 ∨ w = 3 by omega) with rfl | rfl | rfl | rfl
  · exact ⟨_, c_cause0 hb q t k M ht _ R sv hr hk⟩
  · exact ⟨_, c_cause1 hb q t k M ht _ R sv hr hk⟩
  · exact ⟨_, c_cause2 hb q t k M ht _ R sv hr hk⟩
  · exact ⟨_, c_cause3 hb q t k M ht _ R sv hr hk⟩
theorem l_mixLine (hb : b + 71 ≤ h.length) (q : zOk F g x sh gp wi bk) (l : Nat) (hl : l < g 0) (d0 : Int64) (k : Nat) (hk : k ≤ 9) (d : Int64) : zev 92 6 [some (.ref b), some (.long d0), none, some (.int (nI l)), some (.long d), none, some (.int (nI k))] [] (nput b F g h) (zQl (nput b F g h)) := by
  refine zev_of (fun _ kk => zr_iload (pc' := 8) zi_92_6 rfl rfl kk) ?_
  refine zev_of (fun _ kk => zr_bipush (v := (nI 8)) (pc' := 10) zi_92_8 rfl rfl kk) ?_
  refine zv_icmp (pc' := 13) zi_92_10 rfl (fun h10 => ?_) (fun h10 => ?_)
  · replace h10 := zc_gt_t (by omega) (by omega) h10
    refine zev_of (fun _ kk => zr_lload (pc' := 35) zi_92_33 rfl rfl kk) ?_
    refine zev_of (fun _ kk => zr_aload_n (pc' := 36) zi_92_35 rfl rfl kk) ?_
    refine zev_of (fun _ kk => zr_iload_n (pc' := 37) zi_92_36 rfl rfl kk) ?_
    obtain ⟨r, _, hc⟩ := c_because hb q l hl
    refine zev_of (fun _ kk => zr_v1 (pc' := 40) zi_92_37 (nput_at hb (k := 0) rfl) rfl hc rfl kk) ?_
    obtain ⟨d2, hd2⟩ := c_mix (H := nput b F g h) d r
    refine zev_of (fun _ kk => zr_s2 (pc' := 43) zi_92_40 rfl hd2 rfl kk) ?_
    refine zev_ret (zr_lreturn zi_92_43 rfl) ?_
    exact ⟨_, rfl⟩
  · replace h10 := zc_gt_f (by omega) (by omega) h10
    refine zev_of (fun _ kk => zr_lload (pc' := 15) zi_92_13 rfl rfl kk) ?_
    refine zev_of (fun _ kk => zr_aload_n (pc' := 16) zi_92_15 rfl rfl kk) ?_
    refine zev_of (fun _ kk => zr_iload_n (pc' := 17) zi_92_16 rfl rfl kk) ?_
    refine zev_of (fun _ kk => zr_iload (pc' := 19) zi_92_17 rfl rfl kk) ?_
    obtain ⟨r, hc⟩ := c_ofLineA hb q l hl k (by omega)
    refine zev_of (fun _ kk => zr_v2 (pc' := 22) zi_92_19 (nput_at hb (k := 0) rfl) rfl hc rfl kk) ?_
    obtain ⟨d2, hd2⟩ := c_mix (H := nput b F g h) d r
    refine zev_of (fun _ kk => zr_s2 (pc' := 25) zi_92_22 rfl hd2 rfl kk) ?_
    refine zev_of (fun _ kk => zr_lstore (pc' := 27) zi_92_25 (Nat.le_of_ble_eq_true rfl) rfl rfl kk) ?_
    dsimp only [zst1, zst2, zkill, List.set, List.getElem?_cons_succ, List.getElem?_cons_zero]
    refine zev_of (fun _ kk => zr_iinc (pc' := 30) zi_92_27 rfl (by first | exact n_inc _ | rfl) rfl rfl kk) ?_
    dsimp only [zst1, zst2, zkill, List.set, List.getElem?_cons_succ, List.getElem?_cons_zero]
    refine zev_of (fun _ kk => zr_goto zi_92_30 kk) ?_
    exact l_mixLine hb q l hl d0 (k + 1) (by omega) d2
termination_by 9 - k
theorem c_mixLine (hb : b + 71 ≤ h.length) (q : zOk F g x sh gp wi bk) (l : Nat) (hl : l < g 0) (d : Int64) : ∃ d', zcalls zTB 92 [.ref b, .long d, .int (nI l)] (nput b F g h) (some (.long d'), nput b F g h) := by
  refine zQl_out (zev_calls (Nat.le_of_ble_eq_true rfl) ?_)
  show zev 92 0 [some (.ref b), some (.long d), none, some (.int (nI l)), none, none, none] [] _ _
  refine zev_of (fun _ kk => zr_lload_n (pc' := 1) zi_92_0 rfl rfl kk) ?_
  refine zev_of (fun _ kk => zr_lstore (pc' := 3) zi_92_1 (Nat.le_of_ble_eq_true rfl) rfl rfl kk) ?_
  dsimp only [zst1, zst2, zkill, List.set, List.getElem?_cons_succ, List.getElem?_cons_zero]
  refine zev_of (fun _ kk => zr_iconst (v := (nI 4)) (pc' := 4) zi_92_3 rfl rfl kk) ?_
  refine zev_of (fun _ kk => zr_istore (pc' := 6) zi_92_4 (Nat.le_of_ble_eq_true rfl) rfl rfl kk) ?_
  dsimp only [zst1, zst2, zkill, List.set, List.getElem?_cons_succ, List.getElem?_cons_zero]
  exact l_mixLine hb q l hl d 4 (by omega) d
theorem l_mixT5 (hb : b + 71 ≤ h.length) {Q : zR → Prop} (q : zOk F g x sh gp wi bk) (t N : Nat) (ht : t < g 2) (hN : F 30 t = nI N) (hN2 : N ≤ 20) (c : Nat) (hc : c < N) (A : Int64) (B C : Int32) (kk : ∀ d X, zev 93 176 [some (.ref b), some (.long A), none, some (.int (nI t)), some (.long d), none, some (.int B), some (.int C), some (.int (nI N)), some (.int (nI c)), X] [] (nput b F g h) Q) (w : Nat) (hw : w ≤ 4) (d : Int64) : zev 93 148 [some (.ref b), some (.long A), none, some (.int (nI t)), some (.long d), none, some (.int B), some (.int C), some (.int (nI N)), some (.int (nI c)), some (.int (nI w))] [] (nput b F g h) Q := by
  refine zev_of (fun _ kk => zr_iload (pc' := 150) zi_93_148 rfl rfl kk) ?_
  refine zev_of (fun _ kk => zr_iconst (v := (nI 3)) (pc' := 151) zi_93_150 rfl rfl kk) ?_
  refine zv_icmp (pc' := 154) zi_93_151 rfl (fun h151 => ?_) (fun h151 => ?_)
  · replace h151 := zc_gt_t (by omega) (by omega) h151
    exact kk _ _
  · replace h151 := zc_gt_f (by omega) (by omega) h151
    refine zev_of (fun _ kk => zr_lload (pc' := 156) zi_93_154 rfl rfl kk) ?_
    refine zev_of (fun _ kk => zr_aload_n (pc' := 157) zi_93_156 rfl rfl kk) ?_
    refine zev_of (fun _ kk => zr_iload_n (pc' := 158) zi_93_157 rfl rfl kk) ?_
    refine zev_of (fun _ kk => zr_iload (pc' := 160) zi_93_158 rfl rfl kk) ?_
    refine zev_of (fun _ kk => zr_iload (pc' := 162) zi_93_160 rfl rfl kk) ?_
    obtain ⟨r, hcl⟩ := c_causeA hb q t c N ht hN hN2 hc w (by omega)
    refine zev_of (fun _ kk => zr_v3 (pc' := 165) zi_93_162 (nput_at hb (k := 0) rfl) rfl hcl rfl kk) ?_
    obtain ⟨d2, hd2⟩ := c_mix (H := nput b F g h) d r
    refine zev_of (fun _ kk => zr_s2 (pc' := 168) zi_93_165 rfl hd2 rfl kk) ?_
    refine zev_of (fun _ kk => zr_lstore (pc' := 170) zi_93_168 (Nat.le_of_ble_eq_true rfl) rfl rfl kk) ?_
    dsimp only [zst1, zst2, zkill, List.set, List.getElem?_cons_succ, List.getElem?_cons_zero]
    refine zev_of (fun _ kk => zr_iinc (pc' := 173) zi_93_170 rfl (by first | exact n_inc _ | rfl) rfl rfl kk) ?_
    dsimp only [zst1, zst2, zkill, List.set, List.getElem?_cons_succ, List.getElem?_cons_zero]
    refine zev_of (fun _ kk => zr_goto zi_93_173 kk) ?_
    exact l_mixT5 hb q t N ht hN hN2 c hc A B C kk (w + 1) (by omega) d2
termination_by 4 - w
theorem l_mixT4 (hb : b + 71 ≤ h.length) (q : zOk F g x sh gp wi bk) (t N : Nat) (ht : t < g 2) (hN : F 30 t = nI N) (hN2 : N ≤ 20) (A : Int64) (B C : Int32) (c : Nat) (hc : c ≤ N) (d : Int64) (X : Option Value) : zev 93 138 [some (.ref b), some (.long A), none, some (.int (nI t)), some (.long d), none, some (.int B), some (.int C), some (.int (nI N)), some (.int (nI c)), X] [] (nput b F g h) (zQl (nput b F g h)) := by
  refine zev_of (fun _ kk => zr_iload (pc' := 140) zi_93_138 rfl rfl kk) ?_
  refine zev_of (fun _ kk => zr_iload (pc' := 142) zi_93_140 rfl rfl kk) ?_
  refine zv_icmp (pc' := 145) zi_93_142 rfl (fun h142 => ?_) (fun h142 => ?_)
  · replace h142 := zc_ge_t (by omega) (by omega) h142
    refine zev_of (fun _ kk => zr_lload (pc' := 184) zi_93_182 rfl rfl kk) ?_
    refine zev_ret (zr_lreturn zi_93_184 rfl) ?_
    exact ⟨_, rfl⟩
  · replace h142 := zc_ge_f (by omega) (by omega) h142
    refine zev_of (fun _ kk => zr_iconst (v := (nI 0)) (pc' := 146) zi_93_145 rfl rfl kk) ?_
    refine zev_of (fun _ kk => zr_istore (pc' := 148) zi_93_146 (Nat.le_of_ble_eq_true rfl) rfl rfl kk) ?_
    dsimp only [zst1, zst2, zkill, List.set, List.getElem?_cons_succ, List.getElem?_cons_zero]
    refine l_mixT5 hb q t N ht hN hN2 c (by omega) A B C (fun d X => ?_) 0 (by omega) d
    refine zev_of (fun _ kk => zr_iinc (pc' := 179) zi_93_176 rfl (by first | exact n_inc _ | rfl) rfl rfl kk) ?_
    dsimp only [zst1, zst2, zkill, List.set, List.getElem?_cons_succ, List.getElem?_cons_zero]
    refine zev_of (fun _ kk => zr_goto zi_93_179 kk) ?_
    exact l_mixT4 hb q t N ht hN hN2 A B C (c + 1) (by omega) d X
termination_by N - c
theorem l_mixT3 (hb : b + 71 ≤ h.length) (q : zOk F g x sh gp wi bk) (t a : Nat) (ht : t < g 2) (ha : F 7 t = nI a) (ha8 : a ≤ 8) (A : Int64) (B : Int32) (j : Nat) (hj : j ≤ zhol F t a) (d : Int64) : zev 93 92 [some (.ref b), some (.long A), none, some (.int (nI t)), some (.long d), none, some (.int B), some (.int (nI (zhol F t a))), some (.int (nI j)), none, none] [] (nput b F g h) (zQl (nput b F g h)) := by
  have hh : zhol F t a ≤ a := zcnt_le _ _
  have hT := q.nb.t20
  obtain ⟨N, R, sv, hr⟩ := q.to.rk t ht
  have hN2 : N ≤ 20 := Nat.le_trans hr.2.1 hT
  refine zev_of (fun _ kk => zr_iload (pc' := 94) zi_93_92 rfl rfl kk) ?_
  refine zev_of (fun _ kk => zr_iload (pc' := 96) zi_93_94 rfl rfl kk) ?_
  refine zv_icmp (pc' := 99) zi_93_96 rfl (fun h96 => ?_) (fun h96 => ?_)
  · replace h96 := zc_ge_t (by omega) (by omega) h96
    refine zev_of (fun _ kk => zr_aload_n (pc' := 120) zi_93_119 rfl rfl kk) ?_
    refine zev_of (fun _ kk => zr_iload_n (pc' := 121) zi_93_120 rfl rfl kk) ?_
    refine zev_of (fun _ kk => zr_v1 (pc' := 124) zi_93_121 (nput_at hb (k := 0) rfl) rfl (c_causes hb q t ht) rfl kk) ?_
    rw [hr.1]
    refine zev_of (fun _ kk => zr_istore (pc' := 126) zi_93_124 (Nat.le_of_ble_eq_true rfl) rfl rfl kk) ?_
    dsimp only [zst1, zst2, zkill, List.set, List.getElem?_cons_succ, List.getElem?_cons_zero]
    refine zev_of (fun _ kk => zr_lload (pc' := 128) zi_93_126 rfl rfl kk) ?_
    refine zev_of (fun _ kk => zr_iload (pc' := 130) zi_93_128 rfl rfl kk) ?_
    obtain ⟨d2, hd2⟩ := c_mix (H := nput b F g h) d (nI N)
    refine zev_of (fun _ kk => zr_s2 (pc' := 133) zi_93_130 rfl hd2 rfl kk) ?_
    refine zev_of (fun _ kk => zr_lstore (pc' := 135) zi_93_133 (Nat.le_of_ble_eq_true rfl) rfl rfl kk) ?_
    dsimp only [zst1, zst2, zkill, List.set, List.getElem?_cons_succ, List.getElem?_cons_zero]
    refine zev_of (fun _ kk => zr_iconst (v := (nI 0)) (pc' := 136) zi_93_135 rfl rfl kk) ?_
    refine zev_of (fun _ kk => zr_istore (pc' := 138) zi_93_136 (Nat.le_of_ble_eq_true rfl) rfl rfl kk) ?_
    dsimp only [zst1, zst2, zkill, List.set, List.getElem?_cons_succ, List.getElem?_cons_zero]
    exact l_mixT4 hb q t N ht hr.1 hN2 A B _ 0 (Nat.zero_le _) d2 none
  · replace h96 := zc_ge_f (by omega) (by omega) h96
    refine zev_of (fun _ kk => zr_lload (pc' := 101) zi_93_99 rfl rfl kk) ?_
    refine zev_of (fun _ kk => zr_aload_n (pc' := 102) zi_93_101 rfl rfl kk) ?_
    refine zev_of (fun _ kk => zr_iload_n (pc' := 103) zi_93_102 rfl rfl kk) ?_
    refine zev_of (fun _ kk => zr_iload (pc' := 105) zi_93_103 rfl rfl kk) ?_
    obtain ⟨r, _, hcl⟩ := c_values hb q t j a ht ha ha8 (by omega)
    refine zev_of (fun _ kk => zr_v2 (pc' := 108) zi_93_105 (nput_at hb (k := 0) rfl) rfl hcl rfl kk) ?_
    obtain ⟨d2, hd2⟩ := c_mix (H := nput b F g h) d r
    refine zev_of (fun _ kk => zr_s2 (pc' := 111) zi_93_108 rfl hd2 rfl kk) ?_
    refine zev_of (fun _ kk => zr_lstore (pc' := 113) zi_93_111 (Nat.le_of_ble_eq_true rfl) rfl rfl kk) ?_
    dsimp only [zst1, zst2, zkill, List.set, List.getElem?_cons_succ, List.getElem?_cons_zero]
    refine zev_of (fun _ kk => zr_iinc (pc' := 116) zi_93_113 rfl (by first | exact n_inc _ | rfl) rfl rfl kk) ?_
    dsimp only [zst1, zst2, zkill, List.set, List.getElem?_cons_succ, List.getElem?_cons_zero]
    refine zev_of (fun _ kk => zr_goto zi_93_116 kk) ?_
    exact l_mixT3 hb q t a ht ha ha8 A B (j + 1) (by omega) d2
termination_by zhol F t a - j
theorem l_mixT2 (hb : b + 71 ≤ h.length) (q : zOk F g x sh gp wi bk) (t a : Nat) (ht : t < g 2) (ha : F 7 t = nI a) (ha8 : a ≤ 8) (A : Int64) (p : Nat) (hp : p ≤ a) (d : Int64) : zev 93 52 [some (.ref b), some (.long A), none, some (.int (nI t)), some (.long d), none, some (.int (nI a)), some (.int (nI p)), none, none, none] [] (nput b F g h) (zQl (nput b F g h)) := by
  have hT := q.nb.t20
  refine zev_of (fun _ kk => zr_iload (pc' := 54) zi_93_52 rfl rfl kk) ?_
  refine zev_of (fun _ kk => zr_iload (pc' := 56) zi_93_54 rfl rfl kk) ?_
  refine zv_icmp (pc' := 59) zi_93_56 rfl (fun h56 => ?_) (fun h56 => ?_)
  · replace h56 := zc_ge_t (by omega) (by omega) h56
    refine zev_of (fun _ kk => zr_aload_n (pc' := 80) zi_93_79 rfl rfl kk) ?_
    refine zev_of (fun _ kk => zr_get (pc' := 83) zi_93_80 (nput_at hb (k := 0) rfl) rfl rfl kk) ?_
    refine zev_of (fun _ kk => zr_iload_n (pc' := 84) zi_93_83 rfl rfl kk) ?_
    refine zev_of (fun _ kk => zr_v1 (pc' := 87) zi_93_84 (nput_at hb (k := 16) rfl) rfl (c_howManyHoles hb t a (by omega) ha ha8) rfl kk) ?_
    refine zev_of (fun _ kk => zr_istore (pc' := 89) zi_93_87 (Nat.le_of_ble_eq_true rfl) rfl rfl kk) ?_
    dsimp only [zst1, zst2, zkill, List.set, List.getElem?_cons_succ, List.getElem?_cons_zero]
    refine zev_of (fun _ kk => zr_iconst (v := (nI 0)) (pc' := 90) zi_93_89 rfl rfl kk) ?_
    refine zev_of (fun _ kk => zr_istore (pc' := 92) zi_93_90 (Nat.le_of_ble_eq_true rfl) rfl rfl kk) ?_
    dsimp only [zst1, zst2, zkill, List.set, List.getElem?_cons_succ, List.getElem?_cons_zero]
    exact l_mixT3 hb q t a ht ha ha8 A _ 0 (Nat.zero_le _) d
  · replace h56 := zc_ge_f (by omega) (by omega) h56
    refine zev_of (fun _ kk => zr_lload (pc' := 61) zi_93_59 rfl rfl kk) ?_
    refine zev_of (fun _ kk => zr_aload_n (pc' := 62) zi_93_61 rfl rfl kk) ?_
    refine zev_of (fun _ kk => zr_iload_n (pc' := 63) zi_93_62 rfl rfl kk) ?_
    refine zev_of (fun _ kk => zr_iload (pc' := 65) zi_93_63 rfl rfl kk) ?_
    refine zev_of (fun _ kk => zr_v2 (pc' := 68) zi_93_65 (nput_at hb (k := 0) rfl) rfl (c_slot hb q t p a ht ha ha8 (by omega)) rfl kk) ?_
    obtain ⟨d2, hd2⟩ := c_mix (H := nput b F g h) d (F 8 (t * 8 + p))
    refine zev_of (fun _ kk => zr_s2 (pc' := 71) zi_93_68 rfl hd2 rfl kk) ?_
    refine zev_of (fun _ kk => zr_lstore (pc' := 73) zi_93_71 (Nat.le_of_ble_eq_true rfl) rfl rfl kk) ?_
    dsimp only [zst1, zst2, zkill, List.set, List.getElem?_cons_succ, List.getElem?_cons_zero]
    refine zev_of (fun _ kk => zr_iinc (pc' := 76) zi_93_73 rfl (by first | exact n_inc _ | rfl) rfl rfl kk) ?_
    dsimp only [zst1, zst2, zkill, List.set, List.getElem?_cons_succ, List.getElem?_cons_zero]
    refine zev_of (fun _ kk => zr_goto zi_93_76 kk) ?_
    exact l_mixT2 hb q t a ht ha ha8 A (p + 1) (by omega) d2
termination_by a - p
theorem l_mixT1 (hb : b + 71 ≤ h.length) (q : zOk F g x sh gp wi bk) (t a : Nat) (ht : t < g 2) (ha : F 7 t = nI a) (ha8 : a ≤ 8) (A : Int64) (k : Nat) (hk : k ≤ 5) (d : Int64) : zev 93 10 [some (.ref b), some (.long A), none, some (.int (nI t)), some (.long d), none, some (.int (nI k)), none, none, none, none] [] (nput b F g h) (zQl (nput b F g h)) := by
  have hT := q.nb.t20
  refine zev_of (fun _ kk => zr_iload (pc' := 12) zi_93_10 rfl rfl kk) ?_
  refine zev_of (fun _ kk => zr_iconst (v := (nI 4)) (pc' := 13) zi_93_12 rfl rfl kk) ?_
  refine zv_icmp (pc' := 16) zi_93_13 rfl (fun h13 => ?_) (fun h13 => ?_)
  · replace h13 := zc_gt_t (by omega) (by omega) h13
    refine zev_of (fun _ kk => zr_aload_n (pc' := 37) zi_93_36 rfl rfl kk) ?_
    refine zev_of (fun _ kk => zr_get (pc' := 40) zi_93_37 (nput_at hb (k := 0) rfl) rfl rfl kk) ?_
    refine zev_of (fun _ kk => zr_get (pc' := 43) zi_93_40 (nput_at hb (k := 16) rfl) rfl rfl kk) ?_
    refine zev_of (fun _ kk => zr_iload_n (pc' := 44) zi_93_43 rfl rfl kk) ?_
    refine zev_of (fun _ kk => zr_atN (pc' := 47) (by omega) zi_93_44 hb rfl rfl (by decide) rfl rfl kk) ?_
    rw [ha]
    refine zev_of (fun _ kk => zr_istore (pc' := 49) zi_93_47 (Nat.le_of_ble_eq_true rfl) rfl rfl kk) ?_
    dsimp only [zst1, zst2, zkill, List.set, List.getElem?_cons_succ, List.getElem?_cons_zero]
    refine zev_of (fun _ kk => zr_iconst (v := (nI 0)) (pc' := 50) zi_93_49 rfl rfl kk) ?_
    refine zev_of (fun _ kk => zr_istore (pc' := 52) zi_93_50 (Nat.le_of_ble_eq_true rfl) rfl rfl kk) ?_
    dsimp only [zst1, zst2, zkill, List.set, List.getElem?_cons_succ, List.getElem?_cons_zero]
    exact l_mixT2 hb q t a ht ha ha8 A 0 (Nat.zero_le _) d
  · replace h13 := zc_gt_f (by omega) (by omega) h13
    refine zev_of (fun _ kk => zr_lload (pc' := 18) zi_93_16 rfl rfl kk) ?_
    refine zev_of (fun _ kk => zr_aload_n (pc' := 19) zi_93_18 rfl rfl kk) ?_
    refine zev_of (fun _ kk => zr_iload_n (pc' := 20) zi_93_19 rfl rfl kk) ?_
    refine zev_of (fun _ kk => zr_iload (pc' := 22) zi_93_20 rfl rfl kk) ?_
    obtain ⟨r, hcl⟩ := c_ofTemplateA hb q t a ht ha ha8 k (by omega)
    refine zev_of (fun _ kk => zr_v2 (pc' := 25) zi_93_22 (nput_at hb (k := 0) rfl) rfl hcl rfl kk) ?_
    obtain ⟨d2, hd2⟩ := c_mix (H := nput b F g h) d r
    refine zev_of (fun _ kk => zr_s2 (pc' := 28) zi_93_25 rfl hd2 rfl kk) ?_
    refine zev_of (fun _ kk => zr_lstore (pc' := 30) zi_93_28 (Nat.le_of_ble_eq_true rfl) rfl rfl kk) ?_
    dsimp only [zst1, zst2, zkill, List.set, List.getElem?_cons_succ, List.getElem?_cons_zero]
    refine zev_of (fun _ kk => zr_iinc (pc' := 33) zi_93_30 rfl (by first | exact n_inc _ | rfl) rfl rfl kk) ?_
    dsimp only [zst1, zst2, zkill, List.set, List.getElem?_cons_succ, List.getElem?_cons_zero]
    refine zev_of (fun _ kk => zr_goto zi_93_33 kk) ?_
    exact l_mixT1 hb q t a ht ha ha8 A (k + 1) (by omega) d2
termination_by 5 - k
theorem c_mixTemplate (hb : b + 71 ≤ h.length) (q : zOk F g x sh gp wi bk) (t : Nat) (ht : t < g 2) (d : Int64) : ∃ d', zcalls zTB 93 [.ref b, .long d, .int (nI t)] (nput b F g h) (some (.long d'), nput b F g h) := by
  obtain ⟨a, ha8, ha⟩ := q.nb.ts t ht
  refine zQl_out (zev_calls (Nat.le_of_ble_eq_true rfl) ?_)
  show zev 93 0 [some (.ref b), some (.long d), none, some (.int (nI t)), none, none, none, none, none, none, none] [] _ _
  refine zev_of (fun _ kk => zr_lload_n (pc' := 1) zi_93_0 rfl rfl kk) ?_
  refine zev_of (fun _ kk => zr_iload_n (pc' := 2) zi_93_1 rfl rfl kk) ?_
  obtain ⟨d2, hd2⟩ := c_mix (H := nput b F g h) d (nI t)
  refine zev_of (fun _ kk => zr_s2 (pc' := 5) zi_93_2 rfl hd2 rfl kk) ?_
  refine zev_of (fun _ kk => zr_lstore (pc' := 7) zi_93_5 (Nat.le_of_ble_eq_true rfl) rfl rfl kk) ?_
  dsimp only [zst1, zst2, zkill, List.set, List.getElem?_cons_succ, List.getElem?_cons_zero]
  refine zev_of (fun _ kk => zr_iconst (v := (nI 0)) (pc' := 8) zi_93_7 rfl rfl kk) ?_
  refine zev_of (fun _ kk => zr_istore (pc' := 10) zi_93_8 (Nat.le_of_ble_eq_true rfl) rfl rfl kk) ?_
  dsimp only [zst1, zst2, zkill, List.set, List.getElem?_cons_succ, List.getElem?_cons_zero]
  exact l_mixT1 hb q t a ht ha ha8 d 0 (Nat.zero_le _) d2
theorem l_dig6 (hb : b + 71 ≤ h.length) {Q : zR → Prop} (q : zOk F g x sh gp wi bk) (s : Nat) (hs : s < g 5) (kk : ∀ d X, zev 43 175 [some (.ref b), some (.long d), none, some (.int (nI s)), X] [] (nput b F g h) Q) (w : Nat) (hw : w ≤ 3) (d : Int64) : zev 43 151 [some (.ref b), some (.long d), none, some (.int (nI s)), some (.int (nI w))] [] (nput b F g h) Q := by
  refine zev_of (fun _ kk => zr_iload (pc' := 153) zi_43_151 rfl rfl kk) ?_
  refine zev_of (fun _ kk => zr_iconst (v := (nI 2)) (pc' := 154) zi_43_153 rfl rfl kk) ?_
  refine zv_icmp (pc' := 157) zi_43_154 rfl (fun h154 => ?_) (fun h154 => ?_)
  · replace h154 := zc_gt_t (by omega) (by omega) h154
    exact kk _ _
  · replace h154 := zc_gt_f (by omega) (by omega) h154
    refine zev_of (fun _ kk => zr_lload_n (pc' := 158) zi_43_157 rfl rfl kk) ?_
    refine zev_of (fun _ kk => zr_aload_n (pc' := 159) zi_43_158 rfl rfl kk) ?_
    refine zev_of (fun _ kk => zr_iload_n (pc' := 160) zi_43_159 rfl rfl kk) ?_
    refine zev_of (fun _ kk => zr_iload (pc' := 162) zi_43_160 rfl rfl kk) ?_
    obtain ⟨r, hcl⟩ := c_spikeA hb q s hs w (by omega)
    refine zev_of (fun _ kk => zr_v2 (pc' := 165) zi_43_162 (nput_at hb (k := 0) rfl) rfl hcl rfl kk) ?_
    obtain ⟨d2, hd2⟩ := c_mix (H := nput b F g h) d r
    refine zev_of (fun _ kk => zr_s2 (pc' := 168) zi_43_165 rfl hd2 rfl kk) ?_
    refine zev_of (fun _ kk => zr_lstore_n (pc' := 169) zi_43_168 (Nat.le_of_ble_eq_true rfl) rfl rfl kk) ?_
    dsimp only [zst1, zst2, zkill, List.set, List.getElem?_cons_succ, List.getElem?_cons_zero]
    refine zev_of (fun _ kk => zr_iinc (pc' := 172) zi_43_169 rfl (by first | exact n_inc _ | rfl) rfl rfl kk) ?_
    dsimp only [zst1, zst2, zkill, List.set, List.getElem?_cons_succ, List.getElem?_cons_zero]
    refine zev_of (fun _ kk => zr_goto zi_43_172 kk) ?_
    exact l_dig6 hb q s hs kk (w + 1) (by omega) d2
termination_by 3 - w
theorem l_dig5 (hb : b + 71 ≤ h.length) (q : zOk F g x sh gp wi bk) (s : Nat) (hs : s ≤ g 5) (d : Int64) (X : Option Value) : zev 43 137 [some (.ref b), some (.long d), none, some (.int (nI s)), X] [] (nput b F g h) (zQl (nput b F g h)) := by
  obtain ⟨vv, hP, _⟩ := q.to.sp
  refine zev_of (fun _ kk => zr_iload_n (pc' := 138) zi_43_137 rfl rfl kk) ?_
  refine zev_of (fun _ kk => zr_aload_n (pc' := 139) zi_43_138 rfl rfl kk) ?_
  refine zev_of (fun _ kk => zr_get (pc' := 142) zi_43_139 (nput_at hb (k := 0) rfl) rfl rfl kk) ?_
  refine zev_of (fun _ kk => zr_get (pc' := 145) zi_43_142 (nput_at hb (k := 43) rfl) rfl rfl kk) ?_
  refine zv_icmp (pc' := 148) zi_43_145 rfl (fun h145 => ?_) (fun h145 => ?_)
  · replace h145 := zc_ge_t (by omega) (by omega) h145
    refine zev_of (fun _ kk => zr_lload_n (pc' := 182) zi_43_181 rfl rfl kk) ?_
    refine zev_ret (zr_lreturn zi_43_182 rfl) ?_
    exact ⟨_, rfl⟩
  · replace h145 := zc_ge_f (by omega) (by omega) h145
    refine zev_of (fun _ kk => zr_iconst (v := (nI 0)) (pc' := 149) zi_43_148 rfl rfl kk) ?_
    refine zev_of (fun _ kk => zr_istore (pc' := 151) zi_43_149 (Nat.le_of_ble_eq_true rfl) rfl rfl kk) ?_
    dsimp only [zst1, zst2, zkill, List.set, List.getElem?_cons_succ, List.getElem?_cons_zero]
    refine l_dig6 hb q s (by omega) (fun d X => ?_) 0 (by omega) d
    refine zev_of (fun _ kk => zr_iinc (pc' := 178) zi_43_175 rfl (by first | exact n_inc _ | rfl) rfl rfl kk) ?_
    dsimp only [zst1, zst2, zkill, List.set, List.getElem?_cons_succ, List.getElem?_cons_zero]
    refine zev_of (fun _ kk => zr_goto zi_43_178 kk) ?_
    exact l_dig5 hb q (s + 1) (by omega) d X
termination_by g 5 - s
theorem l_dig4 (hb : b + 71 ≤ h.length) {Q : zR → Prop} (q : zOk F g x sh gp wi bk) (s : Nat) (hs : s < g 4) (kk : ∀ d X, zev 43 120 [some (.ref b), some (.long d), none, some (.int (nI s)), X] [] (nput b F g h) Q) (w : Nat) (hw : w ≤ 7) (d : Int64) : zev 43 95 [some (.ref b), some (.long d), none, some (.int (nI s)), some (.int (nI w))] [] (nput b F g h) Q := by
  refine zev_of (fun _ kk => zr_iload (pc' := 97) zi_43_95 rfl rfl kk) ?_
  refine zev_of (fun _ kk => zr_bipush (v := (nI 6)) (pc' := 99) zi_43_97 rfl rfl kk) ?_
  refine zv_icmp (pc' := 102) zi_43_99 rfl (fun h99 => ?_) (fun h99 => ?_)
  · replace h99 := zc_gt_t (by omega) (by omega) h99
    exact kk _ _
  · replace h99 := zc_gt_f (by omega) (by omega) h99
    refine zev_of (fun _ kk => zr_lload_n (pc' := 103) zi_43_102 rfl rfl kk) ?_
    refine zev_of (fun _ kk => zr_aload_n (pc' := 104) zi_43_103 rfl rfl kk) ?_
    refine zev_of (fun _ kk => zr_iload_n (pc' := 105) zi_43_104 rfl rfl kk) ?_
    refine zev_of (fun _ kk => zr_iload (pc' := 107) zi_43_105 rfl rfl kk) ?_
    obtain ⟨r, hcl⟩ := c_ofSessionA hb q s hs w (by omega)
    refine zev_of (fun _ kk => zr_v2 (pc' := 110) zi_43_107 (nput_at hb (k := 0) rfl) rfl hcl rfl kk) ?_
    obtain ⟨d2, hd2⟩ := c_mix (H := nput b F g h) d r
    refine zev_of (fun _ kk => zr_s2 (pc' := 113) zi_43_110 rfl hd2 rfl kk) ?_
    refine zev_of (fun _ kk => zr_lstore_n (pc' := 114) zi_43_113 (Nat.le_of_ble_eq_true rfl) rfl rfl kk) ?_
    dsimp only [zst1, zst2, zkill, List.set, List.getElem?_cons_succ, List.getElem?_cons_zero]
    refine zev_of (fun _ kk => zr_iinc (pc' := 117) zi_43_114 rfl (by first | exact n_inc _ | rfl) rfl rfl kk) ?_
    dsimp only [zst1, zst2, zkill, List.set, List.getElem?_cons_succ, List.getElem?_cons_zero]
    refine zev_of (fun _ kk => zr_goto zi_43_117 kk) ?_
    exact l_dig4 hb q s hs kk (w + 1) (by omega) d2
termination_by 7 - w
theorem l_dig3 (hb : b + 71 ≤ h.length) (q : zOk F g x sh gp wi bk) (s : Nat) (hs : s ≤ g 4) (d : Int64) (X : Option Value) : zev 43 81 [some (.ref b), some (.long d), none, some (.int (nI s)), X] [] (nput b F g h) (zQl (nput b F g h)) := by
  have hS := q.S70
  refine zev_of (fun _ kk => zr_iload_n (pc' := 82) zi_43_81 rfl rfl kk) ?_
  refine zev_of (fun _ kk => zr_aload_n (pc' := 83) zi_43_82 rfl rfl kk) ?_
  refine zev_of (fun _ kk => zr_get (pc' := 86) zi_43_83 (nput_at hb (k := 0) rfl) rfl rfl kk) ?_
  refine zev_of (fun _ kk => zr_get (pc' := 89) zi_43_86 (nput_at hb (k := 26) rfl) rfl rfl kk) ?_
  refine zv_icmp (pc' := 92) zi_43_89 rfl (fun h89 => ?_) (fun h89 => ?_)
  · replace h89 := zc_ge_t (by omega) (by omega) h89
    refine zev_of (fun _ kk => zr_lload_n (pc' := 127) zi_43_126 rfl rfl kk) ?_
    refine zev_of (fun _ kk => zr_aload_n (pc' := 128) zi_43_127 rfl rfl kk) ?_
    obtain ⟨r, _, hcl⟩ := c_usual hb q
    refine zev_of (fun _ kk => zr_v0 (pc' := 131) zi_43_128 (nput_at hb (k := 0) rfl) rfl hcl rfl kk) ?_
    obtain ⟨d2, hd2⟩ := c_mix (H := nput b F g h) d r
    refine zev_of (fun _ kk => zr_s2 (pc' := 134) zi_43_131 rfl hd2 rfl kk) ?_
    refine zev_of (fun _ kk => zr_lstore_n (pc' := 135) zi_43_134 (Nat.le_of_ble_eq_true rfl) rfl rfl kk) ?_
    dsimp only [zst1, zst2, zkill, List.set, List.getElem?_cons_succ, List.getElem?_cons_zero]
    refine zev_of (fun _ kk => zr_iconst (v := (nI 0)) (pc' := 136) zi_43_135 rfl rfl kk) ?_
    refine zev_of (fun _ kk => zr_istore_n (pc' := 137) zi_43_136 (Nat.le_of_ble_eq_true rfl) rfl rfl kk) ?_
    dsimp only [zst1, zst2, zkill, List.set, List.getElem?_cons_succ, List.getElem?_cons_zero]
    exact l_dig5 hb q 0 (Nat.zero_le _) d2 _
  · replace h89 := zc_ge_f (by omega) (by omega) h89
    refine zev_of (fun _ kk => zr_iconst (v := (nI 0)) (pc' := 93) zi_43_92 rfl rfl kk) ?_
    refine zev_of (fun _ kk => zr_istore (pc' := 95) zi_43_93 (Nat.le_of_ble_eq_true rfl) rfl rfl kk) ?_
    dsimp only [zst1, zst2, zkill, List.set, List.getElem?_cons_succ, List.getElem?_cons_zero]
    refine l_dig4 hb q s (by omega) (fun d X => ?_) 0 (by omega) d
    refine zev_of (fun _ kk => zr_iinc (pc' := 123) zi_43_120 rfl (by first | exact n_inc _ | rfl) rfl rfl kk) ?_
    dsimp only [zst1, zst2, zkill, List.set, List.getElem?_cons_succ, List.getElem?_cons_zero]
    refine zev_of (fun _ kk => zr_goto zi_43_123 kk) ?_
    exact l_dig3 hb q (s + 1) (by omega) d X
termination_by g 4 - s
theorem l_dig2 (hb : b + 71 ≤ h.length) (q : zOk F g x sh gp wi bk) (t : Nat) (ht : t ≤ g 2) (d : Int64) : zev 43 55 [some (.ref b), some (.long d), none, some (.int (nI t)), none] [] (nput b F g h) (zQl (nput b F g h)) := by
  have hT := q.nb.t20
  refine zev_of (fun _ kk => zr_iload_n (pc' := 56) zi_43_55 rfl rfl kk) ?_
  refine zev_of (fun _ kk => zr_aload_n (pc' := 57) zi_43_56 rfl rfl kk) ?_
  refine zev_of (fun _ kk => zr_get (pc' := 60) zi_43_57 (nput_at hb (k := 0) rfl) rfl rfl kk) ?_
  refine zev_of (fun _ kk => zr_get (pc' := 63) zi_43_60 (nput_at hb (k := 16) rfl) rfl rfl kk) ?_
  refine zv_icmp (pc' := 66) zi_43_63 rfl (fun h63 => ?_) (fun h63 => ?_)
  · replace h63 := zc_ge_t (by omega) (by omega) h63
    refine zev_of (fun _ kk => zr_iconst (v := (nI 0)) (pc' := 80) zi_43_79 rfl rfl kk) ?_
    refine zev_of (fun _ kk => zr_istore_n (pc' := 81) zi_43_80 (Nat.le_of_ble_eq_true rfl) rfl rfl kk) ?_
    dsimp only [zst1, zst2, zkill, List.set, List.getElem?_cons_succ, List.getElem?_cons_zero]
    exact l_dig3 hb q 0 (Nat.zero_le _) d none
  · replace h63 := zc_ge_f (by omega) (by omega) h63
    refine zev_of (fun _ kk => zr_aload_n (pc' := 67) zi_43_66 rfl rfl kk) ?_
    refine zev_of (fun _ kk => zr_lload_n (pc' := 68) zi_43_67 rfl rfl kk) ?_
    refine zev_of (fun _ kk => zr_iload_n (pc' := 69) zi_43_68 rfl rfl kk) ?_
    obtain ⟨d2, hd2⟩ := c_mixTemplate hb q t (by omega) d
    refine zev_of (fun _ kk => zr_v2 (pc' := 72) zi_43_69 (nput_at hb (k := 0) rfl) rfl hd2 rfl kk) ?_
    refine zev_of (fun _ kk => zr_lstore_n (pc' := 73) zi_43_72 (Nat.le_of_ble_eq_true rfl) rfl rfl kk) ?_
    dsimp only [zst1, zst2, zkill, List.set, List.getElem?_cons_succ, List.getElem?_cons_zero]
    refine zev_of (fun _ kk => zr_iinc (pc' := 76) zi_43_73 rfl (by first | exact n_inc _ | rfl) rfl rfl kk) ?_
    dsimp only [zst1, zst2, zkill, List.set, List.getElem?_cons_succ, List.getElem?_cons_zero]
    refine zev_of (fun _ kk => zr_goto zi_43_76 kk) ?_
    exact l_dig2 hb q (t + 1) (by omega) d2
termination_by g 2 - t
theorem l_dig1 (hb : b + 71 ≤ h.length) (q : zOk F g x sh gp wi bk) (l : Nat) (hl : l ≤ g 0) (d : Int64) : zev 43 29 [some (.ref b), some (.long d), none, some (.int (nI l)), none] [] (nput b F g h) (zQl (nput b F g h)) := by
  have hn := q.nb.n70
  refine zev_of (fun _ kk => zr_iload_n (pc' := 30) zi_43_29 rfl rfl kk) ?_
  refine zev_of (fun _ kk => zr_aload_n (pc' := 31) zi_43_30 rfl rfl kk) ?_
  refine zev_of (fun _ kk => zr_get (pc' := 34) zi_43_31 (nput_at hb (k := 0) rfl) rfl rfl kk) ?_
  refine zev_of (fun _ kk => zr_get (pc' := 37) zi_43_34 (nput_at hb (k := 1) rfl) rfl rfl kk) ?_
  refine zv_icmp (pc' := 40) zi_43_37 rfl (fun h37 => ?_) (fun h37 => ?_)
  · replace h37 := zc_ge_t (by omega) (by omega) h37
    refine zev_of (fun _ kk => zr_iconst (v := (nI 0)) (pc' := 54) zi_43_53 rfl rfl kk) ?_
    refine zev_of (fun _ kk => zr_istore_n (pc' := 55) zi_43_54 (Nat.le_of_ble_eq_true rfl) rfl rfl kk) ?_
    dsimp only [zst1, zst2, zkill, List.set, List.getElem?_cons_succ, List.getElem?_cons_zero]
    exact l_dig2 hb q 0 (Nat.zero_le _) d
  · replace h37 := zc_ge_f (by omega) (by omega) h37
    refine zev_of (fun _ kk => zr_aload_n (pc' := 41) zi_43_40 rfl rfl kk) ?_
    refine zev_of (fun _ kk => zr_lload_n (pc' := 42) zi_43_41 rfl rfl kk) ?_
    refine zev_of (fun _ kk => zr_iload_n (pc' := 43) zi_43_42 rfl rfl kk) ?_
    obtain ⟨d2, hd2⟩ := c_mixLine hb q l (by omega) d
    refine zev_of (fun _ kk => zr_v2 (pc' := 46) zi_43_43 (nput_at hb (k := 0) rfl) rfl hd2 rfl kk) ?_
    refine zev_of (fun _ kk => zr_lstore_n (pc' := 47) zi_43_46 (Nat.le_of_ble_eq_true rfl) rfl rfl kk) ?_
    dsimp only [zst1, zst2, zkill, List.set, List.getElem?_cons_succ, List.getElem?_cons_zero]
    refine zev_of (fun _ kk => zr_iinc (pc' := 50) zi_43_47 rfl (by first | exact n_inc _ | rfl) rfl rfl kk) ?_
    dsimp only [zst1, zst2, zkill, List.set, List.getElem?_cons_succ, List.getElem?_cons_zero]
    refine zev_of (fun _ kk => zr_goto zi_43_50 kk) ?_
    exact l_dig1 hb q (l + 1) (by omega) d2
termination_by g 0 - l
theorem l_dig0 (hb : b + 71 ≤ h.length) (q : zOk F g x sh gp wi bk) (k : Nat) (hk : k ≤ 6) (d : Int64) : zev 43 6 [some (.ref b), some (.long d), none, some (.int (nI k)), none] [] (nput b F g h) (zQl (nput b F g h)) := by
  refine zev_of (fun _ kk => zr_iload_n (pc' := 7) zi_43_6 rfl rfl kk) ?_
  refine zev_of (fun _ kk => zr_iconst (v := (nI 5)) (pc' := 8) zi_43_7 rfl rfl kk) ?_
  refine zv_icmp (pc' := 11) zi_43_8 rfl (fun h8 => ?_) (fun h8 => ?_)
  · replace h8 := zc_gt_t (by omega) (by omega) h8
    refine zev_of (fun _ kk => zr_iconst (v := (nI 0)) (pc' := 28) zi_43_27 rfl rfl kk) ?_
    refine zev_of (fun _ kk => zr_istore_n (pc' := 29) zi_43_28 (Nat.le_of_ble_eq_true rfl) rfl rfl kk) ?_
    dsimp only [zst1, zst2, zkill, List.set, List.getElem?_cons_succ, List.getElem?_cons_zero]
    exact l_dig1 hb q 0 (Nat.zero_le _) d
  · replace h8 := zc_gt_f (by omega) (by omega) h8
    refine zev_of (fun _ kk => zr_lload_n (pc' := 12) zi_43_11 rfl rfl kk) ?_
    refine zev_of (fun _ kk => zr_aload_n (pc' := 13) zi_43_12 rfl rfl kk) ?_
    refine zev_of (fun _ kk => zr_iload_n (pc' := 14) zi_43_13 rfl rfl kk) ?_
    obtain ⟨r, hcl⟩ := c_manyA hb q k (by omega)
    refine zev_of (fun _ kk => zr_v1 (pc' := 17) zi_43_14 (nput_at hb (k := 0) rfl) rfl hcl rfl kk) ?_
    obtain ⟨d2, hd2⟩ := c_mix (H := nput b F g h) d r
    refine zev_of (fun _ kk => zr_s2 (pc' := 20) zi_43_17 rfl hd2 rfl kk) ?_
    refine zev_of (fun _ kk => zr_lstore_n (pc' := 21) zi_43_20 (Nat.le_of_ble_eq_true rfl) rfl rfl kk) ?_
    dsimp only [zst1, zst2, zkill, List.set, List.getElem?_cons_succ, List.getElem?_cons_zero]
    refine zev_of (fun _ kk => zr_iinc (pc' := 24) zi_43_21 rfl (by first | exact n_inc _ | rfl) rfl rfl kk) ?_
    dsimp only [zst1, zst2, zkill, List.set, List.getElem?_cons_succ, List.getElem?_cons_zero]
    refine zev_of (fun _ kk => zr_goto zi_43_24 kk) ?_
    exact l_dig0 hb q (k + 1) (by omega) d2
termination_by 6 - k
theorem c_digest (hb : b + 71 ≤ h.length) (q : zOk F g x sh gp wi bk) : ∃ d, zcalls zTB 43 [.ref b] (nput b F g h) (some (.long d), nput b F g h) := by
  refine zQl_out (zev_calls (Nat.le_of_ble_eq_true rfl) ?_)
  show zev 43 0 [some (.ref b), none, none, none, none] [] _ _
  refine zev_of (fun _ kk => zr_ldc2_w (pc' := 3) zi_43_0 rfl rfl kk) ?_
  refine zev_of (fun _ kk => zr_lstore_n (pc' := 4) zi_43_3 (Nat.le_of_ble_eq_true rfl) rfl rfl kk) ?_
  dsimp only [zst1, zst2, zkill, List.set, List.getElem?_cons_succ, List.getElem?_cons_zero]
  refine zev_of (fun _ kk => zr_iconst (v := (nI 0)) (pc' := 5) zi_43_4 rfl rfl kk) ?_
  refine zev_of (fun _ kk => zr_istore_n (pc' := 6) zi_43_5 (Nat.le_of_ble_eq_true rfl) rfl rfl kk) ?_
  dsimp only [zst1, zst2, zkill, List.set, List.getElem?_cons_succ, List.getElem?_cons_zero]
  exact l_dig0 hb q 0 (Nat.zero_le _) _
end


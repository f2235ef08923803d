theorem zi_3_0 : zI 3 0 = some (.aload_n 0, []) := by decide +kernel
theorem zi_3_1 : zI 3 1 = some (.invokespecial 3, [0, 5, 2, 3, 4]) := by decide +kernel
theorem zi_3_4 : zI 3 4 = some (.aload_n 0, []) := by decide +kernel
theorem zi_3_5 : zI 3 5 = some (.iload_n 1, []) := by decide +kernel
theorem zi_3_6 : zI 3 6 = some (.ifCond .le 7, [13]) := by decide +kernel
theorem zi_3_9 : zI 3 9 = some (.iload_n 1, []) := by decide +kernel
theorem zi_3_10 : zI 3 10 = some (.goto 4, [14]) := by decide +kernel
theorem zi_3_14 : zI 3 14 = some (.newarray .int, [0, 5]) := by decide +kernel
theorem zi_3_16 : zI 3 16 = some (.putfield 9, [1, 0, 1, 0]) := by decide +kernel
theorem zi_3_19 : zI 3 19 = some (.return_, []) := by decide +kernel
theorem zi_38_0 : zI 38 0 = some (.aload_n 0, []) := by decide +kernel
theorem zi_38_1 : zI 38 1 = some (.invokespecial 3, [0, 5, 128, 3, 4]) := by decide +kernel
theorem zi_38_4 : zI 38 4 = some (.aload_n 0, []) := by decide +kernel
theorem zi_38_5 : zI 38 5 = some (.new 9, [1, 129, 130, 12, 1]) := by decide +kernel
theorem zi_38_8 : zI 38 8 = some (.dup, []) := by decide +kernel
theorem zi_38_9 : zI 38 9 = some (.bipush 20, []) := by decide +kernel
theorem zi_38_11 : zI 38 11 = some (.invokespecial 11, [3, 2, 1, 0, 133, 0, 12, 132, 0, 131]) := by decide +kernel
theorem zi_38_14 : zI 38 14 = some (.putfield 14, [5, 0, 1, 134]) := by decide +kernel
theorem zi_38_17 : zI 38 17 = some (.aload_n 0, []) := by decide +kernel
theorem zi_38_18 : zI 38 18 = some (.new 9, [1, 129, 130, 12, 1]) := by decide +kernel
theorem zi_38_21 : zI 38 21 = some (.dup, []) := by decide +kernel
theorem zi_38_22 : zI 38 22 = some (.sipush 160, []) := by decide +kernel
theorem zi_38_25 : zI 38 25 = some (.invokespecial 11, [3, 2, 1, 0, 133, 0, 12, 132, 0, 131]) := by decide +kernel
theorem zi_38_28 : zI 38 28 = some (.putfield 20, [5, 1, 1, 32]) := by decide +kernel
theorem zi_38_31 : zI 38 31 = some (.return_, []) := by decide +kernel
theorem zi_60_0 : zI 60 0 = some (.aload_n 0, []) := by decide +kernel
theorem zi_60_1 : zI 60 1 = some (.invokespecial 3, [0, 5, 226, 3, 4]) := by decide +kernel
theorem zi_60_4 : zI 60 4 = some (.aload_n 0, []) := by decide +kernel
theorem zi_60_5 : zI 60 5 = some (.new 9, [1, 227, 130, 12, 1]) := by decide +kernel
theorem zi_60_8 : zI 60 8 = some (.dup, []) := by decide +kernel
theorem zi_60_9 : zI 60 9 = some (.bipush 70, []) := by decide +kernel
theorem zi_60_11 : zI 60 11 = some (.invokespecial 11, [3, 2, 1, 0, 133, 0, 12, 132, 0, 228]) := by decide +kernel
theorem zi_60_14 : zI 60 14 = some (.putfield 14, [0, 0, 1, 115]) := by decide +kernel
theorem zi_60_17 : zI 60 17 = some (.aload_n 0, []) := by decide +kernel
theorem zi_60_18 : zI 60 18 = some (.new 9, [1, 227, 130, 12, 1]) := by decide +kernel
theorem zi_60_21 : zI 60 21 = some (.dup, []) := by decide +kernel
theorem zi_60_22 : zI 60 22 = some (.bipush 70, []) := by decide +kernel
theorem zi_60_24 : zI 60 24 = some (.invokespecial 11, [3, 2, 1, 0, 133, 0, 12, 132, 0, 228]) := by decide +kernel
theorem zi_60_27 : zI 60 27 = some (.putfield 20, [0, 1, 1, 121]) := by decide +kernel
theorem zi_60_30 : zI 60 30 = some (.aload_n 0, []) := by decide +kernel
theorem zi_60_31 : zI 60 31 = some (.new 9, [1, 227, 130, 12, 1]) := by decide +kernel
theorem zi_60_34 : zI 60 34 = some (.dup, []) := by decide +kernel
theorem zi_60_35 : zI 60 35 = some (.bipush 70, []) := by decide +kernel
theorem zi_60_37 : zI 60 37 = some (.invokespecial 11, [3, 2, 1, 0, 133, 0, 12, 132, 0, 228]) := by decide +kernel
theorem zi_60_40 : zI 60 40 = some (.putfield 23, [0, 2, 1, 229]) := by decide +kernel
theorem zi_60_43 : zI 60 43 = some (.aload_n 0, []) := by decide +kernel
theorem zi_60_44 : zI 60 44 = some (.new 9, [1, 227, 130, 12, 1]) := by decide +kernel
theorem zi_60_47 : zI 60 47 = some (.dup, []) := by decide +kernel
theorem zi_60_48 : zI 60 48 = some (.bipush 70, []) := by decide +kernel
theorem zi_60_50 : zI 60 50 = some (.invokespecial 11, [3, 2, 1, 0, 133, 0, 12, 132, 0, 228]) := by decide +kernel
theorem zi_60_53 : zI 60 53 = some (.putfield 26, [0, 3, 1, 230]) := by decide +kernel
theorem zi_60_56 : zI 60 56 = some (.aload_n 0, []) := by decide +kernel
theorem zi_60_57 : zI 60 57 = some (.new 9, [1, 227, 130, 12, 1]) := by decide +kernel
theorem zi_60_60 : zI 60 60 = some (.dup, []) := by decide +kernel
theorem zi_60_61 : zI 60 61 = some (.sipush 560, []) := by decide +kernel
theorem zi_60_64 : zI 60 64 = some (.invokespecial 11, [3, 2, 1, 0, 133, 0, 12, 132, 0, 228]) := by decide +kernel
theorem zi_60_67 : zI 60 67 = some (.putfield 29, [0, 4, 1, 7]) := by decide +kernel
theorem zi_60_70 : zI 60 70 = some (.aload_n 0, []) := by decide +kernel
theorem zi_60_71 : zI 60 71 = some (.new 9, [1, 227, 130, 12, 1]) := by decide +kernel
theorem zi_60_74 : zI 60 74 = some (.dup, []) := by decide +kernel
theorem zi_60_75 : zI 60 75 = some (.bipush 70, []) := by decide +kernel
theorem zi_60_77 : zI 60 77 = some (.invokespecial 11, [3, 2, 1, 0, 133, 0, 12, 132, 0, 228]) := by decide +kernel
theorem zi_60_80 : zI 60 80 = some (.putfield 32, [0, 5, 1, 119]) := by decide +kernel
theorem zi_60_83 : zI 60 83 = some (.aload_n 0, []) := by decide +kernel
theorem zi_60_84 : zI 60 84 = some (.new 9, [1, 227, 130, 12, 1]) := by decide +kernel
theorem zi_60_87 : zI 60 87 = some (.dup, []) := by decide +kernel
theorem zi_60_88 : zI 60 88 = some (.bipush 70, []) := by decide +kernel
theorem zi_60_90 : zI 60 90 = some (.invokespecial 11, [3, 2, 1, 0, 133, 0, 12, 132, 0, 228]) := by decide +kernel
theorem zi_60_93 : zI 60 93 = some (.putfield 35, [0, 6, 1, 120]) := by decide +kernel
theorem zi_60_96 : zI 60 96 = some (.return_, []) := by decide +kernel
theorem zi_70_0 : zI 70 0 = some (.aload_n 0, []) := by decide +kernel
theorem zi_70_1 : zI 70 1 = some (.invokespecial 3, [0, 5, 245, 3, 4]) := by decide +kernel
theorem zi_70_4 : zI 70 4 = some (.aload_n 0, []) := by decide +kernel
theorem zi_70_5 : zI 70 5 = some (.new 9, [1, 246, 130, 12, 1]) := by decide +kernel
theorem zi_70_8 : zI 70 8 = some (.dup, []) := by decide +kernel
theorem zi_70_9 : zI 70 9 = some (.bipush 70, []) := by decide +kernel
theorem zi_70_11 : zI 70 11 = some (.invokespecial 11, [3, 2, 1, 0, 133, 0, 12, 132, 0, 247]) := by decide +kernel
theorem zi_70_14 : zI 70 14 = some (.putfield 14, [2, 0, 1, 248]) := by decide +kernel
theorem zi_70_17 : zI 70 17 = some (.aload_n 0, []) := by decide +kernel
theorem zi_70_18 : zI 70 18 = some (.new 9, [1, 246, 130, 12, 1]) := by decide +kernel
theorem zi_70_21 : zI 70 21 = some (.dup, []) := by decide +kernel
theorem zi_70_22 : zI 70 22 = some (.bipush 70, []) := by decide +kernel
theorem zi_70_24 : zI 70 24 = some (.invokespecial 11, [3, 2, 1, 0, 133, 0, 12, 132, 0, 247]) := by decide +kernel
theorem zi_70_27 : zI 70 27 = some (.putfield 20, [2, 1, 1, 249]) := by decide +kernel
theorem zi_70_30 : zI 70 30 = some (.aload_n 0, []) := by decide +kernel
theorem zi_70_31 : zI 70 31 = some (.new 9, [1, 246, 130, 12, 1]) := by decide +kernel
theorem zi_70_34 : zI 70 34 = some (.dup, []) := by decide +kernel
theorem zi_70_35 : zI 70 35 = some (.sipush 400, []) := by decide +kernel
theorem zi_70_38 : zI 70 38 = some (.invokespecial 11, [3, 2, 1, 0, 133, 0, 12, 132, 0, 247]) := by decide +kernel
theorem zi_70_41 : zI 70 41 = some (.putfield 23, [2, 2, 1, 97]) := by decide +kernel
theorem zi_70_44 : zI 70 44 = some (.aload_n 0, []) := by decide +kernel
theorem zi_70_45 : zI 70 45 = some (.new 9, [1, 246, 130, 12, 1]) := by decide +kernel
theorem zi_70_48 : zI 70 48 = some (.dup, []) := by decide +kernel
theorem zi_70_49 : zI 70 49 = some (.bipush 20, []) := by decide +kernel
theorem zi_70_51 : zI 70 51 = some (.invokespecial 11, [3, 2, 1, 0, 133, 0, 12, 132, 0, 247]) := by decide +kernel
theorem zi_70_54 : zI 70 54 = some (.putfield 26, [2, 3, 1, 122]) := by decide +kernel
theorem zi_70_57 : zI 70 57 = some (.aload_n 0, []) := by decide +kernel
theorem zi_70_58 : zI 70 58 = some (.new 9, [1, 246, 130, 12, 1]) := by decide +kernel
theorem zi_70_61 : zI 70 61 = some (.dup, []) := by decide +kernel
theorem zi_70_62 : zI 70 62 = some (.bipush 20, []) := by decide +kernel
theorem zi_70_64 : zI 70 64 = some (.invokespecial 11, [3, 2, 1, 0, 133, 0, 12, 132, 0, 247]) := by decide +kernel
theorem zi_70_67 : zI 70 67 = some (.putfield 29, [2, 4, 1, 250]) := by decide +kernel
theorem zi_70_70 : zI 70 70 = some (.aload_n 0, []) := by decide +kernel
theorem zi_70_71 : zI 70 71 = some (.new 9, [1, 246, 130, 12, 1]) := by decide +kernel
theorem zi_70_74 : zI 70 74 = some (.dup, []) := by decide +kernel
theorem zi_70_75 : zI 70 75 = some (.sipush 400, []) := by decide +kernel
theorem zi_70_78 : zI 70 78 = some (.invokespecial 11, [3, 2, 1, 0, 133, 0, 12, 132, 0, 247]) := by decide +kernel
theorem zi_70_81 : zI 70 81 = some (.putfield 32, [2, 5, 1, 127]) := by decide +kernel
theorem zi_70_84 : zI 70 84 = some (.aload_n 0, []) := by decide +kernel
theorem zi_70_85 : zI 70 85 = some (.new 9, [1, 246, 130, 12, 1]) := by decide +kernel
theorem zi_70_88 : zI 70 88 = some (.dup, []) := by decide +kernel
theorem zi_70_89 : zI 70 89 = some (.sipush 400, []) := by decide +kernel
theorem zi_70_92 : zI 70 92 = some (.invokespecial 11, [3, 2, 1, 0, 133, 0, 12, 132, 0, 247]) := by decide +kernel
theorem zi_70_95 : zI 70 95 = some (.putfield 35, [2, 6, 1, 43]) := by decide +kernel
theorem zi_70_98 : zI 70 98 = some (.aload_n 0, []) := by decide +kernel
theorem zi_70_99 : zI 70 99 = some (.new 9, [1, 246, 130, 12, 1]) := by decide +kernel
theorem zi_70_102 : zI 70 102 = some (.dup, []) := by decide +kernel
theorem zi_70_103 : zI 70 103 = some (.bipush 20, []) := by decide +kernel
theorem zi_70_105 : zI 70 105 = some (.invokespecial 11, [3, 2, 1, 0, 133, 0, 12, 132, 0, 247]) := by decide +kernel
theorem zi_70_108 : zI 70 108 = some (.putfield 38, [2, 7, 1, 251]) := by decide +kernel
theorem zi_70_111 : zI 70 111 = some (.return_, []) := by decide +kernel
theorem zi_77_0 : zI 77 0 = some (.aload_n 0, []) := by decide +kernel
theorem zi_77_1 : zI 77 1 = some (.invokespecial 3, [0, 5, 290, 3, 4]) := by decide +kernel
theorem zi_77_4 : zI 77 4 = some (.aload_n 0, []) := by decide +kernel
theorem zi_77_5 : zI 77 5 = some (.new 9, [1, 291, 130, 12, 1]) := by decide +kernel
theorem zi_77_8 : zI 77 8 = some (.dup, []) := by decide +kernel
theorem zi_77_9 : zI 77 9 = some (.bipush 70, []) := by decide +kernel
theorem zi_77_11 : zI 77 11 = some (.invokespecial 11, [3, 2, 1, 0, 133, 0, 12, 132, 0, 292]) := by decide +kernel
theorem zi_77_14 : zI 77 14 = some (.putfield 14, [3, 0, 1, 293]) := by decide +kernel
theorem zi_77_17 : zI 77 17 = some (.aload_n 0, []) := by decide +kernel
theorem zi_77_18 : zI 77 18 = some (.new 9, [1, 291, 130, 12, 1]) := by decide +kernel
theorem zi_77_21 : zI 77 21 = some (.dup, []) := by decide +kernel
theorem zi_77_22 : zI 77 22 = some (.bipush 70, []) := by decide +kernel
theorem zi_77_24 : zI 77 24 = some (.invokespecial 11, [3, 2, 1, 0, 133, 0, 12, 132, 0, 292]) := by decide +kernel
theorem zi_77_27 : zI 77 27 = some (.putfield 20, [3, 1, 1, 294]) := by decide +kernel
theorem zi_77_30 : zI 77 30 = some (.aload_n 0, []) := by decide +kernel
theorem zi_77_31 : zI 77 31 = some (.new 9, [1, 291, 130, 12, 1]) := by decide +kernel
theorem zi_77_34 : zI 77 34 = some (.dup, []) := by decide +kernel
theorem zi_77_35 : zI 77 35 = some (.bipush 70, []) := by decide +kernel
theorem zi_77_37 : zI 77 37 = some (.invokespecial 11, [3, 2, 1, 0, 133, 0, 12, 132, 0, 292]) := by decide +kernel
theorem zi_77_40 : zI 77 40 = some (.putfield 23, [3, 2, 1, 295]) := by decide +kernel
theorem zi_77_43 : zI 77 43 = some (.aload_n 0, []) := by decide +kernel
theorem zi_77_44 : zI 77 44 = some (.new 9, [1, 291, 130, 12, 1]) := by decide +kernel
theorem zi_77_47 : zI 77 47 = some (.dup, []) := by decide +kernel
theorem zi_77_48 : zI 77 48 = some (.bipush 70, []) := by decide +kernel
theorem zi_77_50 : zI 77 50 = some (.invokespecial 11, [3, 2, 1, 0, 133, 0, 12, 132, 0, 292]) := by decide +kernel
theorem zi_77_53 : zI 77 53 = some (.putfield 26, [3, 3, 1, 296]) := by decide +kernel
theorem zi_77_56 : zI 77 56 = some (.aload_n 0, []) := by decide +kernel
theorem zi_77_57 : zI 77 57 = some (.new 9, [1, 291, 130, 12, 1]) := by decide +kernel
theorem zi_77_60 : zI 77 60 = some (.dup, []) := by decide +kernel
theorem zi_77_61 : zI 77 61 = some (.bipush 70, []) := by decide +kernel
theorem zi_77_63 : zI 77 63 = some (.invokespecial 11, [3, 2, 1, 0, 133, 0, 12, 132, 0, 292]) := by decide +kernel
theorem zi_77_66 : zI 77 66 = some (.putfield 29, [3, 4, 1, 297]) := by decide +kernel
theorem zi_77_69 : zI 77 69 = some (.aload_n 0, []) := by decide +kernel
theorem zi_77_70 : zI 77 70 = some (.new 9, [1, 291, 130, 12, 1]) := by decide +kernel
theorem zi_77_73 : zI 77 73 = some (.dup, []) := by decide +kernel
theorem zi_77_74 : zI 77 74 = some (.bipush 70, []) := by decide +kernel
theorem zi_77_76 : zI 77 76 = some (.invokespecial 11, [3, 2, 1, 0, 133, 0, 12, 132, 0, 292]) := by decide +kernel
theorem zi_77_79 : zI 77 79 = some (.putfield 32, [3, 5, 1, 298]) := by decide +kernel
theorem zi_77_82 : zI 77 82 = some (.aload_n 0, []) := by decide +kernel
theorem zi_77_83 : zI 77 83 = some (.new 9, [1, 291, 130, 12, 1]) := by decide +kernel
theorem zi_77_86 : zI 77 86 = some (.dup, []) := by decide +kernel
theorem zi_77_87 : zI 77 87 = some (.bipush 70, []) := by decide +kernel
theorem zi_77_89 : zI 77 89 = some (.invokespecial 11, [3, 2, 1, 0, 133, 0, 12, 132, 0, 292]) := by decide +kernel
theorem zi_77_92 : zI 77 92 = some (.putfield 35, [3, 6, 1, 99]) := by decide +kernel
theorem zi_77_95 : zI 77 95 = some (.aload_n 0, []) := by decide +kernel
theorem zi_77_96 : zI 77 96 = some (.new 9, [1, 291, 130, 12, 1]) := by decide +kernel
theorem zi_77_99 : zI 77 99 = some (.dup, []) := by decide +kernel
theorem zi_77_100 : zI 77 100 = some (.bipush 70, []) := by decide +kernel
theorem zi_77_102 : zI 77 102 = some (.invokespecial 11, [3, 2, 1, 0, 133, 0, 12, 132, 0, 292]) := by decide +kernel
theorem zi_77_105 : zI 77 105 = some (.putfield 38, [3, 7, 1, 98]) := by decide +kernel
theorem zi_77_108 : zI 77 108 = some (.return_, []) := by decide +kernel
theorem zi_88_0 : zI 88 0 = some (.aload_n 0, []) := by decide +kernel
theorem zi_88_1 : zI 88 1 = some (.invokespecial 3, [0, 5, 331, 3, 4]) := by decide +kernel
theorem zi_88_4 : zI 88 4 = some (.aload_n 0, []) := by decide +kernel
theorem zi_88_5 : zI 88 5 = some (.new 9, [1, 332, 130, 12, 1]) := by decide +kernel
theorem zi_88_8 : zI 88 8 = some (.dup, []) := by decide +kernel
theorem zi_88_9 : zI 88 9 = some (.bipush 23, []) := by decide +kernel
theorem zi_88_11 : zI 88 11 = some (.invokespecial 11, [3, 2, 1, 0, 133, 0, 12, 132, 0, 333]) := by decide +kernel
theorem zi_88_14 : zI 88 14 = some (.putfield 14, [4, 0, 1, 334]) := by decide +kernel
theorem zi_88_17 : zI 88 17 = some (.aload_n 0, []) := by decide +kernel
theorem zi_88_18 : zI 88 18 = some (.new 9, [1, 332, 130, 12, 1]) := by decide +kernel
theorem zi_88_21 : zI 88 21 = some (.dup, []) := by decide +kernel
theorem zi_88_22 : zI 88 22 = some (.bipush 23, []) := by decide +kernel
theorem zi_88_24 : zI 88 24 = some (.invokespecial 11, [3, 2, 1, 0, 133, 0, 12, 132, 0, 333]) := by decide +kernel
theorem zi_88_27 : zI 88 27 = some (.putfield 20, [4, 1, 1, 335]) := by decide +kernel
theorem zi_88_30 : zI 88 30 = some (.aload_n 0, []) := by decide +kernel
theorem zi_88_31 : zI 88 31 = some (.new 9, [1, 332, 130, 12, 1]) := by decide +kernel
theorem zi_88_34 : zI 88 34 = some (.dup, []) := by decide +kernel
theorem zi_88_35 : zI 88 35 = some (.bipush 23, []) := by decide +kernel
theorem zi_88_37 : zI 88 37 = some (.invokespecial 11, [3, 2, 1, 0, 133, 0, 12, 132, 0, 333]) := by decide +kernel
theorem zi_88_40 : zI 88 40 = some (.putfield 23, [4, 2, 1, 336]) := by decide +kernel
theorem zi_88_43 : zI 88 43 = some (.aload_n 0, []) := by decide +kernel
theorem zi_88_44 : zI 88 44 = some (.new 9, [1, 332, 130, 12, 1]) := by decide +kernel
theorem zi_88_47 : zI 88 47 = some (.dup, []) := by decide +kernel
theorem zi_88_48 : zI 88 48 = some (.bipush 20, []) := by decide +kernel
theorem zi_88_50 : zI 88 50 = some (.invokespecial 11, [3, 2, 1, 0, 133, 0, 12, 132, 0, 333]) := by decide +kernel
theorem zi_88_53 : zI 88 53 = some (.putfield 26, [4, 3, 1, 337]) := by decide +kernel
theorem zi_88_56 : zI 88 56 = some (.return_, []) := by decide +kernel
/-! a new Nightjar -/
section
variable {y pc pc' : Nat} {Lc : zL} {st : List Value} {h0 L L' : zH} {r : zR} {ax : List Nat}
theorem ai_new {ix ci q1 q2 q3 n : Nat} {ds : List Nat} {fs : List Value} (hI : zI y pc = some (.new ix, ci :: q1 :: q2 :: q3 :: ds)) (hd : zdef ds = fs) (hL : L ++ [.inr (ci, fs)] = L') (hn : L.length = n) (hp : pc + 3 = pc') (k : zruns zTB y pc' Lc (.ref (h0.length + n) :: st) (h0 ++ L') r) : zruns zTB y pc Lc st (h0 ++ L) r := by
  refine zr_new hI hd (n := h0.length + n) (by rw [List.length_append, hn]) hp ?_
  rw [List.append_assoc, hL]
  exact k
theorem ai_put {ix i ci f kd : Nat} {fs : List Value} {v : Value} (hI : zI y pc = some (.putfield ix, ci :: f :: kd :: ax)) (hi : 1 ≤ h0.length) (hh : L[i]? = some (.inr (ci, fs))) (hf : f < fs.length) (hk : zfits kd v = true) (hL : L.set i (.inr (ci, fs.set f v)) = L') (hp : pc + 3 = pc') (k : zruns zTB y pc' Lc st (h0 ++ L') r) : zruns zTB y pc Lc (v :: .ref (h0.length + i) :: st) (h0 ++ L) r := by
  refine zr_put hI (by omega) (fs := fs) ?_ hf hk hp ?_ k
  · rw [List.getElem?_append_right (by omega), Nat.add_sub_cancel_left]
    exact hh
  · rw [List.set_append_right _ _ (by omega), Nat.add_sub_cancel_left, hL]
theorem c_rowinit (H : zH) (o n : Nat) (v : Value) (ho : 1 ≤ o) (hn0 : 0 < n) (hn : n ≤ 10000) (hh : H[o]? = some (.inr (1, [v]))) : zcalls zTB 3 [.ref o, .int (nI n)] H (none, (H ++ [(.inl (0, n, .inl fun _ => 0) : zE)]).set o (.inr (1, [.ref H.length]))) := by
  have hol : o < H.length := (List.getElem?_eq_some_iff.mp hh).1
  refine zcalls_of (Nat.le_of_ble_eq_true rfl) ?_
  show zruns zTB 3 0 [some (.ref o), some (.int (nI n))] [] _ _
  refine zr_aload_n (pc' := 1) zi_3_0 rfl rfl ?_
  refine zr_objinit (pc' := 4) zi_3_1 rfl rfl ?_
  refine zr_aload_n (pc' := 5) zi_3_4 rfl rfl ?_
  refine zr_iload_n (pc' := 6) zi_3_5 rfl rfl ?_
  refine zr_if (pc' := 9) zi_3_6 rfl (fun h6 => ?_) (fun h6 => ?_)
  · exact absurd (zx_le_t h6) (nI_nle hn0 (by omega))
  refine zr_iload_n (pc' := 10) zi_3_9 rfl rfl ?_
  refine zr_goto zi_3_10 ?_
  refine zr_newa (pc' := 16) zi_3_14 (nI_pos (by omega)) (nI_clamp (by omega)) hn rfl rfl ?_
  refine zr_put (pc' := 19) (fs := [v]) zi_3_16 ho ?_ (Nat.le_of_ble_eq_true rfl) rfl rfl rfl ?_
  · rw [List.getElem?_append_left hol]
    exact hh
  · exact zr_return zi_3_19 rfl
theorem ai_row {ix i n c0 m : Nat} {v : Value} (hI : zI y pc = some (.invokespecial ix, 3 :: 2 :: 1 :: c0 :: ax)) (hi : 1 ≤ h0.length) (hn0 : 0 < n) (hn : n ≤ 10000) (hh : L[i]? = some (.inr (1, [v]))) (hs : zcat8 (.ref (h0.length + i) :: st) = true) (hm : L.length = m) (hL : (L ++ [(.inl (0, n, .inl fun _ => 0) : zE)]).set i (.inr (1, [.ref (h0.length + m)])) = L') (hp : pc + 3 = pc') (k : zruns zTB y pc' Lc st (h0 ++ L') r) : zruns zTB y pc Lc (.int (nI n) :: .ref (h0.length + i) :: st) (h0 ++ L) r := by
  have hc := c_rowinit (h0 ++ L) (h0.length + i) n v (by omega) hn0 hn (by rw [List.getElem?_append_right (by omega), Nat.add_sub_cancel_left]; exact hh)
  rw [List.length_append, hm, List.append_assoc, List.set_append_right _ _ (by omega), Nat.add_sub_cancel_left, hL] at hc
  exact zr_i1 hI hs hc hp k
theorem ai_sub {ix y' c0 n : Nat} {e : zE} {M : Nat → zH} (hI : zI y pc = some (.invokespecial ix, y' :: 2 :: 0 :: c0 :: ax)) (hn : (L.take n).length = n) (hs : zcat8 (.ref (h0.length + n) :: st) = true) (hc : ∀ H : zH, 1 ≤ H.length → zcalls zTB y' [.ref H.length] (H ++ [e]) (none, H ++ M H.length)) (hLe : L.take n ++ [e] = L) (hL : L.take n ++ M (h0.length + n) = L') (hp : pc + 3 = pc') (hi : 1 ≤ h0.length) (k : zruns zTB y pc' Lc st (h0 ++ L') r) : zruns zTB y pc Lc (.ref (h0.length + n) :: st) (h0 ++ L) r := by
  have h2 := hc (h0 ++ L.take n) (by rw [List.length_append]; omega)
  rw [List.length_append, hn, List.append_assoc, List.append_assoc, hLe, hL] at h2
  exact zr_i0 hI hs h2 hp k
end
def m_lines (b : Nat) : zH := [.inr (0, [.ref (b + 1), .ref (b + 3), .ref (b + 5), .ref (b + 7), .ref (b + 9), .ref (b + 11), .ref (b + 13), .int 0, .int 0]), .inr (1, [.ref (b + 2)]), .inl (0, 70, .inl fun _ => 0), .inr (1, [.ref (b + 4)]), .inl (0, 70, .inl fun _ => 0), .inr (1, [.ref (b + 6)]), .inl (0, 70, .inl fun _ => 0), .inr (1, [.ref (b + 8)]), .inl (0, 70, .inl fun _ => 0), .inr (1, [.ref (b + 10)]), .inl (0, 560, .inl fun _ => 0), .inr (1, [.ref (b + 12)]), .inl (0, 70, .inl fun _ => 0), .inr (1, [.ref (b + 14)]), .inl (0, 70, .inl fun _ => 0)]
def m_templates (b : Nat) : zH := [.inr (5, [.ref (b + 1), .ref (b + 3), .int 0]), .inr (1, [.ref (b + 2)]), .inl (0, 20, .inl fun _ => 0), .inr (1, [.ref (b + 4)]), .inl (0, 160, .inl fun _ => 0)]
def m_sessions (b : Nat) : zH := [.inr (3, [.ref (b + 1), .ref (b + 3), .ref (b + 5), .ref (b + 7), .ref (b + 9), .ref (b + 11), .ref (b + 13), .ref (b + 15), .int 0]), .inr (1, [.ref (b + 2)]), .inl (0, 70, .inl fun _ => 0), .inr (1, [.ref (b + 4)]), .inl (0, 70, .inl fun _ => 0), .inr (1, [.ref (b + 6)]), .inl (0, 70, .inl fun _ => 0), .inr (1, [.ref (b + 8)]), .inl (0, 70, .inl fun _ => 0), .inr (1, [.ref (b + 10)]), .inl (0, 70, .inl fun _ => 0), .inr (1, [.ref (b + 12)]), .inl (0, 70, .inl fun _ => 0), .inr (1, [.ref (b + 14)]), .inl (0, 70, .inl fun _ => 0), .inr (1, [.ref (b + 16)]), .inl (0, 70, .inl fun _ => 0)]
def m_spikes (b : Nat) : zH := [.inr (4, [.ref (b + 1), .ref (b + 3), .ref (b + 5), .ref (b + 7), .int 0]), .inr (1, [.ref (b + 2)]), .inl (0, 23, .inl fun _ => 0), .inr (1, [.ref (b + 4)]), .inl (0, 23, .inl fun _ => 0), .inr (1, [.ref (b + 6)]), .inl (0, 23, .inl fun _ => 0), .inr (1, [.ref (b + 8)]), .inl (0, 20, .inl fun _ => 0)]
def m_scenes (b : Nat) : zH := [.inr (2, [.ref (b + 1), .ref (b + 3), .ref (b + 5), .ref (b + 7), .ref (b + 9), .ref (b + 11), .ref (b + 13), .ref (b + 15)]), .inr (1, [.ref (b + 2)]), .inl (0, 70, .inl fun _ => 0), .inr (1, [.ref (b + 4)]), .inl (0, 70, .inl fun _ => 0), .inr (1, [.ref (b + 6)]), .inl (0, 400, .inl fun _ => 0), .inr (1, [.ref (b + 8)]), .inl (0, 20, .inl fun _ => 0), .inr (1, [.ref (b + 10)]), .inl (0, 20, .inl fun _ => 0), .inr (1, [.ref (b + 12)]), .inl (0, 400, .inl fun _ => 0), .inr (1, [.ref (b + 14)]), .inl (0, 400, .inl fun _ => 0), .inr (1, [.ref (b + 16)]), .inl (0, 20, .inl fun _ => 0)]
section
theorem c_X0_init {e : zE} (he : e = .inr (0, [.null, .null, .null, .null, .null, .null, .null, .int 0, .int 0])) (h0 : zH) (hi : 1 ≤ h0.length) : zcalls zTB 60 [.ref h0.length] (h0 ++ [e]) (none, h0 ++ m_lines h0.length) := by
  subst he
  refine zcalls_of (Nat.le_of_ble_eq_true rfl) ?_
  show zruns zTB 60 0 [some (.ref (h0.length + 0))] [] _ _
  refine zr_aload_n (pc' := 1) zi_60_0 rfl rfl ?_
  refine zr_objinit (pc' := 4) zi_60_1 rfl rfl ?_
  refine zr_aload_n (pc' := 5) zi_60_4 rfl rfl ?_
  refine ai_new (L' := [.inr (0, [.null, .null, .null, .null, .null, .null, .null, .int 0, .int 0]), .inr (1, [.null])]) (pc' := 8) zi_60_5 rfl rfl rfl rfl ?_
  refine zr_dup (pc' := 9) zi_60_8 rfl rfl ?_
  refine zr_bipush (v := (nI 70)) (pc' := 11) zi_60_9 rfl rfl ?_
  refine ai_row (L' := [.inr (0, [.null, .null, .null, .null, .null, .null, .null, .int 0, .int 0]), .inr (1, [.ref (h0.length + 2)]), .inl (0, 70, .inl fun _ => 0)]) (pc' := 14) zi_60_11 hi (by omega) (by omega) rfl rfl rfl rfl rfl ?_
  refine ai_put (L' := [.inr (0, [.ref (h0.length + 1), .null, .null, .null, .null, .null, .null, .int 0, .int 0]), .inr (1, [.ref (h0.length + 2)]), .inl (0, 70, .inl fun _ => 0)]) (pc' := 17) zi_60_14 hi rfl (Nat.le_of_ble_eq_true rfl) rfl rfl rfl ?_
  refine zr_aload_n (pc' := 18) zi_60_17 rfl rfl ?_
  refine ai_new (L' := [.inr (0, [.ref (h0.length + 1), .null, .null, .null, .null, .null, .null, .int 0, .int 0]), .inr (1, [.ref (h0.length + 2)]), .inl (0, 70, .inl fun _ => 0), .inr (1, [.null])]) (pc' := 21) zi_60_18 rfl rfl rfl rfl ?_
  refine zr_dup (pc' := 22) zi_60_21 rfl rfl ?_
  refine zr_bipush (v := (nI 70)) (pc' := 24) zi_60_22 rfl rfl ?_
  refine ai_row (L' := [.inr (0, [.ref (h0.length + 1), .null, .null, .null, .null, .null, .null, .int 0, .int 0]), .inr (1, [.ref (h0.length + 2)]), .inl (0, 70, .inl fun _ => 0), .inr (1, [.ref (h0.length + 4)]), .inl (0, 70, .inl fun _ => 0)]) (pc' := 27) zi_60_24 hi (by omega) (by omega) rfl rfl rfl rfl rfl ?_
  refine ai_put (L' := [.inr (0, [.ref (h0.length + 1), .ref (h0.length + 3), .null, .null, .null, .null, .null, .int 0, .int 0]), .inr (1, [.ref (h0.length + 2)]), .inl (0, 70, .inl fun _ => 0), .inr (1, [.ref (h0.length + 4)]), .inl (0, 70, .inl fun _ => 0)]) (pc' := 30) zi_60_27 hi rfl (Nat.le_of_ble_eq_true rfl) rfl rfl rfl ?_
  refine zr_aload_n (pc' := 31) zi_60_30 rfl rfl ?_
  refine ai_new (L' := [.inr (0, [.ref (h0.length + 1), .ref (h0.length + 3), .null, .null, .null, .null, .null, .int 0, .int 0]), .inr (1, [.ref (h0.length + 2)]), .inl (0, 70, .inl fun _ => 0), .inr (1, [.ref (h0.length + 4)]), .inl (0, 70, .inl fun _ => 0), .inr (1, [.null])]) (pc' := 34) zi_60_31 rfl rfl rfl rfl ?_
  refine zr_dup (pc' := 35) zi_60_34 rfl rfl ?_
  refine zr_bipush (v := (nI 70)) (pc' := 37) zi_60_35 rfl rfl ?_
  refine ai_row (L' := [.inr (0, [.ref (h0.length + 1), .ref (h0.length + 3), .null, .null, .null, .null, .null, .int 0, .int 0]), .inr (1, [.ref (h0.length + 2)]), .inl (0, 70, .inl fun _ => 0), .inr (1, [.ref (h0.length + 4)]), .inl (0, 70, .inl fun _ => 0), .inr (1, [.ref (h0.length + 6)]), .inl (0, 70, .inl fun _ => 0)]) (pc' := 40) zi_60_37 hi (by omega) (by omega) rfl rfl rfl rfl rfl ?_
  refine ai_put (L' := [.inr (0, [.ref (h0.length + 1), .ref (h0.length + 3), .ref (h0.length + 5), .null, .null, .null, .null, .int 0, .int 0]), .inr (1, [.ref (h0.length + 2)]), .inl (0, 70, .inl fun _ => 0), .inr (1, [.ref (h0.length + 4)]), .inl (0, 70, .inl fun _ => 0), .inr (1, [.ref (h0.length + 6)]), .inl (0, 70, .inl fun _ => 0)]) (pc' := 43) zi_60_40 hi rfl (Nat.le_of_ble_eq_true rfl) rfl rfl rfl ?_
  refine zr_aload_n (pc' := 44) zi_60_43 rfl rfl ?_
  refine ai_new (L' := [.inr (0, [.ref (h0.length + 1), .ref (h0.length + 3), .ref (h0.length + 5), .null, .null, .null, .null, .int 0, .int 0]), .inr (1, [.ref (h0.length + 2)]), .inl (0, 70, .inl fun _ => 0), .inr (1, [.ref (h0.length + 4)]), .inl (0, 70, .inl fun _ => 0), .inr (1, [.ref (h0.length + 6)]), .inl (0, 70, .inl fun _ => 0), .inr (1, [.null])]) (pc' := 47) zi_60_44 rfl rfl rfl rfl ?_
  refine zr_dup (pc' := 48) zi_60_47 rfl rfl ?_
  refine zr_bipush (v := (nI 70)) (pc' := 50) zi_60_48 rfl rfl ?_
  refine ai_row (L' := [.inr (0, [.ref (h0.length + 1), .ref (h0.length + 3), .ref (h0.length + 5), .null, .null, .null, .null, .int 0, .int 0]), .inr (1, [.ref (h0.length + 2)]), .inl (0, 70, .inl fun _ => 0), .inr (1, [.ref (h0.length + 4)]), .inl (0, 70, .inl fun _ => 0), .inr (1, [.ref (h0.length + 6)]), .inl (0, 70, .inl fun _ => 0), .inr (1, [.ref (h0.length + 8)]), .inl (0, 70, .inl fun _ => 0)]) (pc' := 53) zi_60_50 hi (by omega) (by omega) rfl rfl rfl rfl rfl ?_
  refine ai_put (L' := [.inr (0, [.ref (h0.length + 1), .ref (h0.length + 3), .ref (h0.length + 5), .ref (h0.length + 7), .null, .null, .null, .int 0, .int 0]), .inr (1, [.ref (h0.length + 2)]), .inl (0, 70, .inl fun _ => 0), .inr (1, [.ref (h0.length + 4)]), .inl (0, 70, .inl fun _ => 0), .inr (1, [.ref (h0.length + 6)]), .inl (0, 70, .inl fun _ => 0), .inr (1, [.ref (h0.length + 8)]), .inl (0, 70, .inl fun _ => 0)]) (pc' := 56) zi_60_53 hi rfl (Nat.le_of_ble_eq_true rfl) rfl rfl rfl ?_
  refine zr_aload_n (pc' := 57) zi_60_56 rfl rfl ?_
  refine ai_new (L' := [.inr (0, [.ref (h0.length + 1), .ref (h0.length + 3), .ref (h0.length + 5), .ref (h0.length + 7), .null, .null, .null, .int 0, .int 0]), .inr (1, [.ref (h0.length + 2)]), .inl (0, 70, .inl fun _ => 0), .inr (1, [.ref (h0.length + 4)]), .inl (0, 70, .inl fun _ => 0), .inr (1, [.ref (h0.length + 6)]), .inl (0, 70, .inl fun _ => 0), .inr (1, [.ref (h0.length + 8)]), .inl (0, 70, .inl fun _ => 0), .inr (1, [.null])]) (pc' := 60) zi_60_57 rfl rfl rfl rfl ?_
  refine zr_dup (pc' := 61) zi_60_60 rfl rfl ?_
  refine zr_sipush (v := (nI 560)) (pc' := 64) zi_60_61 rfl rfl ?_
  refine ai_row (L' := [.inr (0, [.ref (h0.length + 1), .ref (h0.length + 3), .ref (h0.length + 5), .ref (h0.length + 7), .null, .null, .null, .int 0, .int 0]), .inr (1, [.ref (h0.length + 2)]), .inl (0, 70, .inl fun _ => 0), .inr (1, [.ref (h0.length + 4)]), .inl (0, 70, .inl fun _ => 0), .inr (1, [.ref (h0.length + 6)]), .inl (0, 70, .inl fun _ => 0), .inr (1, [.ref (h0.length + 8)]), .inl (0, 70, .inl fun _ => 0), .inr (1, [.ref (h0.length + 10)]), .inl (0, 560, .inl fun _ => 0)]) (pc' := 67) zi_60_64 hi (by omega) (by omega) rfl rfl rfl rfl rfl ?_
  refine ai_put (L' := [.inr (0, [.ref (h0.length + 1), .ref (h0.length + 3), .ref (h0.length + 5), .ref (h0.length + 7), .ref (h0.length + 9), .null, .null, .int 0, .int 0]), .inr (1, [.ref (h0.length + 2)]), .inl (0, 70, .inl fun _ => 0), .inr (1, [.ref (h0.length + 4)]), .inl (0, 70, .inl fun _ => 0), .inr (1, [.ref (h0.length + 6)]), .inl (0, 70, .inl fun _ => 0), .inr (1, [.ref (h0.length + 8)]), .inl (0, 70, .inl fun _ => 0), .inr (1, [.ref (h0.length + 10)]), .inl (0, 560, .inl fun _ => 0)]) (pc' := 70) zi_60_67 hi rfl (Nat.le_of_ble_eq_true rfl) rfl rfl rfl ?_
  refine zr_aload_n (pc' := 71) zi_60_70 rfl rfl ?_
  refine ai_new (L' := [.inr (0, [.ref (h0.length + 1), .ref (h0.length + 3), .ref (h0.length + 5), .ref (h0.length + 7), .ref (h0.length + 9), .null, .null, .int 0, .int 0]), .inr (1, [.ref (h0.length + 2)]), .inl (0, 70, .inl fun _ => 0), .inr (1, [.ref (h0.length + 4)]), .inl (0, 70, .inl fun _ => 0), .inr (1, [.ref (h0.length + 6)]), .inl (0, 70, .inl fun _ => 0), .inr (1, [.ref (h0.length + 8)]), .inl (0, 70, .inl fun _ => 0), .inr (1, [.ref (h0.length + 10)]), .inl (0, 560, .inl fun _ => 0), .inr (1, [.null])]) (pc' := 74) zi_60_71 rfl rfl rfl rfl ?_
  refine zr_dup (pc' := 75) zi_60_74 rfl rfl ?_
  refine zr_bipush (v := (nI 70)) (pc' := 77) zi_60_75 rfl rfl ?_
  refine ai_row (L' := [.inr (0, [.ref (h0.length + 1), .ref (h0.length + 3), .ref (h0.length + 5), .ref (h0.length + 7), .ref (h0.length + 9), .null, .null, .int 0, .int 0]), .inr (1, [.ref (h0.length + 2)]), .inl (0, 70, .inl fun _ => 0), .inr (1, [.ref (h0.length + 4)]), .inl (0, 70, .inl fun _ => 0), .inr (1, [.ref (h0.length + 6)]), .inl (0, 70, .inl fun _ => 0), .inr (1, [.ref (h0.length + 8)]), .inl (0, 70, .inl fun _ => 0), .inr (1, [.ref (h0.length + 10)]), .inl (0, 560, .inl fun _ => 0), .inr (1, [.ref (h0.length + 12)]), .inl (0, 70, .inl fun _ => 0)]) (pc' := 80) zi_60_77 hi (by omega) (by omega) rfl rfl rfl rfl rfl ?_
  refine ai_put (L' := [.inr (0, [.ref (h0.length + 1), .ref (h0.length + 3), .ref (h0.length + 5), .ref (h0.length + 7), .ref (h0.length + 9), .ref (h0.length + 11), .null, .int 0, .int 0]), .inr (1, [.ref (h0.length + 2)]), .inl (0, 70, .inl fun _ => 0), .inr (1, [.ref (h0.length + 4)]), .inl (0, 70, .inl fun _ => 0), .inr (1, [.ref (h0.length + 6)]), .inl (0, 70, .inl fun _ => 0), .inr (1, [.ref (h0.length + 8)]), .inl (0, 70, .inl fun _ => 0), .inr (1, [.ref (h0.length + 10)]), .inl (0, 560, .inl fun _ => 0), .inr (1, [.ref (h0.length + 12)]), .inl (0, 70, .inl fun _ => 0)]) (pc' := 83) zi_60_80 hi rfl (Nat.le_of_ble_eq_true rfl) rfl rfl rfl ?_
  refine zr_aload_n (pc' := 84) zi_60_83 rfl rfl ?_
  refine ai_new (L' := [.inr (0, [.ref (h0.length + 1), .ref (h0.length + 3), .ref (h0.length + 5), .ref (h0.length + 7), .ref (h0.length + 9), .ref (h0.length + 11), .null, .int 0, .int 0]), .inr (1, [.ref (h0.length + 2)]), .inl (0, 70, .inl fun _ => 0), .inr (1, [.ref (h0.length + 4)]), .inl (0, 70, .inl fun _ => 0), .inr (1, [.ref (h0.length + 6)]), .inl (0, 70, .inl fun _ => 0), .inr (1, [.ref (h0.length + 8)]), .inl (0, 70, .inl fun _ => 0), .inr (1, [.ref (h0.length + 10)]), .inl (0, 560, .inl fun _ => 0), .inr (1, [.ref (h0.length + 12)]), .inl (0, 70, .inl fun _ => 0), .inr (1, [.null])]) (pc' := 87) zi_60_84 rfl rfl rfl rfl ?_
  refine zr_dup (pc' := 88) zi_60_87 rfl rfl ?_
  refine zr_bipush (v := (nI 70)) (pc' := 90) zi_60_88 rfl rfl ?_
  refine ai_row (L' := [.inr (0, [.ref (h0.length + 1), .ref (h0.length + 3), .ref (h0.length + 5), .ref (h0.length + 7), .ref (h0.length + 9), .ref (h0.length + 11), .null, .int 0, .int 0]), .inr (1, [.ref (h0.length + 2)]), .inl (0, 70, .inl fun _ => 0), .inr (1, [.ref (h0.length + 4)]), .inl (0, 70, .inl fun _ => 0), .inr (1, [.ref (h0.length + 6)]), .inl (0, 70, .inl fun _ => 0), .inr (1, [.ref (h0.length + 8)]), .inl (0, 70, .inl fun _ => 0), .inr (1, [.ref (h0.length + 10)]), .inl (0, 560, .inl fun _ => 0), .inr (1, [.ref (h0.length + 12)]), .inl (0, 70, .inl fun _ => 0), .inr (1, [.ref (h0.length + 14)]), .inl (0, 70, .inl fun _ => 0)]) (pc' := 93) zi_60_90 hi (by omega) (by omega) rfl rfl rfl rfl rfl ?_
  refine ai_put (L' := [.inr (0, [.ref (h0.length + 1), .ref (h0.length + 3), .ref (h0.length + 5), .ref (h0.length + 7), .ref (h0.length + 9), .ref (h0.length + 11), .ref (h0.length + 13), .int 0, .int 0]), .inr (1, [.ref (h0.length + 2)]), .inl (0, 70, .inl fun _ => 0), .inr (1, [.ref (h0.length + 4)]), .inl (0, 70, .inl fun _ => 0), .inr (1, [.ref (h0.length + 6)]), .inl (0, 70, .inl fun _ => 0), .inr (1, [.ref (h0.length + 8)]), .inl (0, 70, .inl fun _ => 0), .inr (1, [.ref (h0.length + 10)]), .inl (0, 560, .inl fun _ => 0), .inr (1, [.ref (h0.length + 12)]), .inl (0, 70, .inl fun _ => 0), .inr (1, [.ref (h0.length + 14)]), .inl (0, 70, .inl fun _ => 0)]) (pc' := 96) zi_60_93 hi rfl (Nat.le_of_ble_eq_true rfl) rfl rfl rfl ?_
  exact zr_return zi_60_96 rfl
theorem c_X5_init {e : zE} (he : e = .inr (5, [.null, .null, .int 0])) (h0 : zH) (hi : 1 ≤ h0.length) : zcalls zTB 38 [.ref h0.length] (h0 ++ [e]) (none, h0 ++ m_templates h0.length) := by
  subst he
  refine zcalls_of (Nat.le_of_ble_eq_true rfl) ?_
  show zruns zTB 38 0 [some (.ref (h0.length + 0))] [] _ _
  refine zr_aload_n (pc' := 1) zi_38_0 rfl rfl ?_
  refine zr_objinit (pc' := 4) zi_38_1 rfl rfl ?_
  refine zr_aload_n (pc' := 5) zi_38_4 rfl rfl ?_
  refine ai_new (L' := [.inr (5, [.null, .null, .int 0]), .inr (1, [.null])]) (pc' := 8) zi_38_5 rfl rfl rfl rfl ?_
  refine zr_dup (pc' := 9) zi_38_8 rfl rfl ?_
  refine zr_bipush (v := (nI 20)) (pc' := 11) zi_38_9 rfl rfl ?_
  refine ai_row (L' := [.inr (5, [.null, .null, .int 0]), .inr (1, [.ref (h0.length + 2)]), .inl (0, 20, .inl fun _ => 0)]) (pc' := 14) zi_38_11 hi (by omega) (by omega) rfl rfl rfl rfl rfl ?_
  refine ai_put (L' := [.inr (5, [.ref (h0.length + 1), .null, .int 0]), .inr (1, [.ref (h0.length + 2)]), .inl (0, 20, .inl fun _ => 0)]) (pc' := 17) zi_38_14 hi rfl (Nat.le_of_ble_eq_true rfl) rfl rfl rfl ?_
  refine zr_aload_n (pc' := 18) zi_38_17 rfl rfl ?_
  refine ai_new (L' := [.inr (5, [.ref (h0.length + 1), .null, .int 0]), .inr (1, [.ref (h0.length + 2)]), .inl (0, 20, .inl fun _ => 0), .inr (1, [.null])]) (pc' := 21) zi_38_18 rfl rfl rfl rfl ?_
  refine zr_dup (pc' := 22) zi_38_21 rfl rfl ?_
  refine zr_sipush (v := (nI 160)) (pc' := 25) zi_38_22 rfl rfl ?_
  refine ai_row (L' := [.inr (5, [.ref (h0.length + 1), .null, .int 0]), .inr (1, [.ref (h0.length + 2)]), .inl (0, 20, .inl fun _ => 0), .inr (1, [.ref (h0.length + 4)]), .inl (0, 160, .inl fun _ => 0)]) (pc' := 28) zi_38_25 hi (by omega) (by omega) rfl rfl rfl rfl rfl ?_
  refine ai_put (L' := [.inr (5, [.ref (h0.length + 1), .ref (h0.length + 3), .int 0]), .inr (1, [.ref (h0.length + 2)]), .inl (0, 20, .inl fun _ => 0), .inr (1, [.ref (h0.length + 4)]), .inl (0, 160, .inl fun _ => 0)]) (pc' := 31) zi_38_28 hi rfl (Nat.le_of_ble_eq_true rfl) rfl rfl rfl ?_
  exact zr_return zi_38_31 rfl
theorem c_X3_init {e : zE} (he : e = .inr (3, [.null, .null, .null, .null, .null, .null, .null, .null, .int 0])) (h0 : zH) (hi : 1 ≤ h0.length) : zcalls zTB 77 [.ref h0.length] (h0 ++ [e]) (none, h0 ++ m_sessions h0.length) := by
  subst he
  refine zcalls_of (Nat.le_of_ble_eq_true rfl) ?_
  show zruns zTB 77 0 [some (.ref (h0.length + 0))] [] _ _
  refine zr_aload_n (pc' := 1) zi_77_0 rfl rfl ?_
  refine zr_objinit (pc' := 4) zi_77_1 rfl rfl ?_
  refine zr_aload_n (pc' := 5) zi_77_4 rfl rfl ?_
  refine ai_new (L' := [.inr (3, [.null, .null, .null, .null, .null, .null, .null, .null, .int 0]), .inr (1, [.null])]) (pc' := 8) zi_77_5 rfl rfl rfl rfl ?_
  refine zr_dup (pc' := 9) zi_77_8 rfl rfl ?_
  refine zr_bipush (v := (nI 70)) (pc' := 11) zi_77_9 rfl rfl ?_
  refine ai_row (L' := [.inr (3, [.null, .null, .null, .null, .null, .null, .null, .null, .int 0]), .inr (1, [.ref (h0.length + 2)]), .inl (0, 70, .inl fun _ => 0)]) (pc' := 14) zi_77_11 hi (by omega) (by omega) rfl rfl rfl rfl rfl ?_
  refine ai_put (L' := [.inr (3, [.ref (h0.length + 1), .null, .null, .null, .null, .null, .null, .null, .int 0]), .inr (1, [.ref (h0.length + 2)]), .inl (0, 70, .inl fun _ => 0)]) (pc' := 17) zi_77_14 hi rfl (Nat.le_of_ble_eq_true rfl) rfl rfl rfl ?_
  refine zr_aload_n (pc' := 18) zi_77_17 rfl rfl ?_
  refine ai_new (L' := [.inr (3, [.ref (h0.length + 1), .null, .null, .null, .null, .null, .null, .null, .int 0]), .inr (1, [.ref (h0.length + 2)]), .inl (0, 70, .inl fun _ => 0), .inr (1, [.null])]) (pc' := 21) zi_77_18 rfl rfl rfl rfl ?_
  refine zr_dup (pc' := 22) zi_77_21 rfl rfl ?_
  refine zr_bipush (v := (nI 70)) (pc' := 24) zi_77_22 rfl rfl ?_
  refine ai_row (L' := [.inr (3, [.ref (h0.length + 1), .null, .null, .null, .null, .null, .null, .null, .int 0]), .inr (1, [.ref (h0.length + 2)]), .inl (0, 70, .inl fun _ => 0), .inr (1, [.ref (h0.length + 4)]), .inl (0, 70, .inl fun _ => 0)]) (pc' := 27) zi_77_24 hi (by omega) (by omega) rfl rfl rfl rfl rfl ?_
  refine ai_put (L' := [.inr (3, [.ref (h0.length + 1), .ref (h0.length + 3), .null, .null, .null, .null, .null, .null, .int 0]), .inr (1, [.ref (h0.length + 2)]), .inl (0, 70, .inl fun _ => 0), .inr (1, [.ref (h0.length + 4)]), .inl (0, 70, .inl fun _ => 0)]) (pc' := 30) zi_77_27 hi rfl (Nat.le_of_ble_eq_true rfl) rfl rfl rfl ?_
  refine zr_aload_n (pc' := 31) zi_77_30 rfl rfl ?_
  refine ai_new (L' := [.inr (3, [.ref (h0.length + 1), .ref (h0.length + 3), .null, .null, .null, .null, .null, .null, .int 0]), .inr (1, [.ref (h0.length + 2)]), .inl (0, 70, .inl fun _ => 0), .inr (1, [.ref (h0.length + 4)]), .inl (0, 70, .inl fun _ => 0), .inr (1, [.null])]) (pc' := 34) zi_77_31 rfl rfl rfl rfl ?_
  refine zr_dup (pc' := 35) zi_77_34 rfl rfl ?_
  refine zr_bipush (v := (nI 70)) (pc' := 37) zi_77_35 rfl rfl ?_
  refine ai_row (L' := [.inr (3, [.ref (h0.length + 1), .ref (h0.length + 3), .null, .null, .null, .null, .null, .null, .int 0]), .inr (1, [.ref (h0.length + 2)]), .inl (0, 70, .inl fun _ => 0), .inr (1, [.ref (h0.length + 4)]), .inl (0, 70, .inl fun _ => 0), .inr (1, [.ref (h0.length + 6)]), .inl (0, 70, .inl fun _ => 0)]) (pc' := 40) zi_77_37 hi (by omega) (by omega) rfl rfl rfl rfl rfl ?_
  refine ai_put (L' := [.inr (3, [.ref (h0.length + 1), .ref (h0.length + 3), .ref (h0.length + 5), .null, .null, .null, .null, .null, .int 0]), .inr (1, [.ref (h0.length + 2)]), .inl (0, 70, .inl fun _ => 0), .inr (1, [.ref (h0.length + 4)]), .inl (0, 70, .inl fun _ => 0), .inr (1, [.ref (h0.length + 6)]), .inl (0, 70, .inl fun _ => 0)]) (pc' := 43) zi_77_40 hi rfl (Nat.le_of_ble_eq_true rfl) rfl rfl rfl ?_
  refine zr_aload_n (pc' := 44) zi_77_43 rfl rfl ?_
  refine ai_new (L' := [.inr (3, [.ref (h0.length + 1), .ref (h0.length + 3), .ref (h0.length + 5), .null, .null, .null, .null, .null, .int 0]), .inr (1, [.ref (h0.length + 2)]), .inl (0, 70, .inl fun _ => 0), .inr (1, [.ref (h0.length + 4)]), .inl (0, 70, .inl fun _ => 0), .inr (1, [.ref (h0.length + 6)]), .inl (0, 70, .inl fun _ => 0), .inr (1, [.null])]) (pc' := 47) zi_77_44 rfl rfl rfl rfl ?_
  refine zr_dup (pc' := 48) zi_77_47 rfl rfl ?_
  refine zr_bipush (v := (nI 70)) (pc' := 50) zi_77_48 rfl rfl ?_
  refine ai_row (L' := [.inr (3, [.ref (h0.length + 1), .ref (h0.length + 3), .ref (h0.length + 5), .null, .null, .null, .null, .null, .int 0]), .inr (1, [.ref (h0.length + 2)]), .inl (0, 70, .inl fun _ => 0), .inr (1, [.ref (h0.length + 4)]), .inl (0, 70, .inl fun _ => 0), .inr (1, [.ref (h0.length + 6)]), .inl (0, 70, .inl fun _ => 0), .inr (1, [.ref (h0.length + 8)]), .inl (0, 70, .inl fun _ => 0)]) (pc' := 53) zi_77_50 hi (by omega) (by omega) rfl rfl rfl rfl rfl ?_
  refine ai_put (L' := [.inr (3, [.ref (h0.length + 1), .ref (h0.length + 3), .ref (h0.length + 5), .ref (h0.length + 7), .null, .null, .null, .null, .int 0]), .inr (1, [.ref (h0.length + 2)]), .inl (0, 70, .inl fun _ => 0), .inr (1, [.ref (h0.length + 4)]), .inl (0, 70, .inl fun _ => 0), .inr (1, [.ref (h0.length + 6)]), .inl (0, 70, .inl fun _ => 0), .inr (1, [.ref (h0.length + 8)]), .inl (0, 70, .inl fun _ => 0)]) (pc' := 56) zi_77_53 hi rfl (Nat.le_of_ble_eq_true rfl) rfl rfl rfl ?_
  refine zr_aload_n (pc' := 57) zi_77_56 rfl rfl ?_
  refine ai_new (L' := [.inr (3, [.ref (h0.length + 1), .ref (h0.length + 3), .ref (h0.length + 5), .ref (h0.length + 7), .null, .null, .null, .null, .int 0]), .inr (1, [.ref (h0.length + 2)]), .inl (0, 70, .inl fun _ => 0), .inr (1, [.ref (h0.length + 4)]), .inl (0, 70, .inl fun _ => 0), .inr (1, [.ref (h0.length + 6)]), .inl (0, 70, .inl fun _ => 0), .inr (1, [.ref (h0.length + 8)]), .inl (0, 70, .inl fun _ => 0), .inr (1, [.null])]) (pc' := 60) zi_77_57 rfl rfl rfl rfl ?_
  refine zr_dup (pc' := 61) zi_77_60 rfl rfl ?_
  refine zr_bipush (v := (nI 70)) (pc' := 63) zi_77_61 rfl rfl ?_
  refine ai_row (L' := [.inr (3, [.ref (h0.length + 1), .ref (h0.length + 3), .ref (h0.length + 5), .ref (h0.length + 7), .null, .null, .null, .null, .int 0]), .inr (1, [.ref (h0.length + 2)]), .inl (0, 70, .inl fun _ => 0), .inr (1, [.ref (h0.length + 4)]), .inl (0, 70, .inl fun _ => 0), .inr (1, [.ref (h0.length + 6)]), .inl (0, 70, .inl fun _ => 0), .inr (1, [.ref (h0.length + 8)]), .inl (0, 70, .inl fun _ => 0), .inr (1, [.ref (h0.length + 10)]), .inl (0, 70, .inl fun _ => 0)]) (pc' := 66) zi_77_63 hi (by omega) (by omega) rfl rfl rfl rfl rfl ?_
  refine ai_put (L' := [.inr (3, [.ref (h0.length + 1), .ref (h0.length + 3), .ref (h0.length + 5), .ref (h0.length + 7), .ref (h0.length + 9), .null, .null, .null, .int 0]), .inr (1, [.ref (h0.length + 2)]), .inl (0, 70, .inl fun _ => 0), .inr (1, [.ref (h0.length + 4)]), .inl (0, 70, .inl fun _ => 0), .inr (1, [.ref (h0.length + 6)]), .inl (0, 70, .inl fun _ => 0), .inr (1, [.ref (h0.length + 8)]), .inl (0, 70, .inl fun _ => 0), .inr (1, [.ref (h0.length + 10)]), .inl (0, 70, .inl fun _ => 0)]) (pc' := 69) zi_77_66 hi rfl (Nat.le_of_ble_eq_true rfl) rfl rfl rfl ?_
  refine zr_aload_n (pc' := 70) zi_77_69 rfl rfl ?_
  refine ai_new (L' := [.inr (3, [.ref (h0.length + 1), .ref (h0.length + 3), .ref (h0.length + 5), .ref (h0.length + 7), .ref (h0.length + 9), .null, .null, .null, .int 0]), .inr (1, [.ref (h0.length + 2)]), .inl (0, 70, .inl fun _ => 0), .inr (1, [.ref (h0.length + 4)]), .inl (0, 70, .inl fun _ => 0), .inr (1, [.ref (h0.length + 6)]), .inl (0, 70, .inl fun _ => 0), .inr (1, [.ref (h0.length + 8)]), .inl (0, 70, .inl fun _ => 0), .inr (1, [.ref (h0.length + 10)]), .inl (0, 70, .inl fun _ => 0), .inr (1, [.null])]) (pc' := 73) zi_77_70 rfl rfl rfl rfl ?_
  refine zr_dup (pc' := 74) zi_77_73 rfl rfl ?_
  refine zr_bipush (v := (nI 70)) (pc' := 76) zi_77_74 rfl rfl ?_
  refine ai_row (L' := [.inr (3, [.ref (h0.length + 1), .ref (h0.length + 3), .ref (h0.length + 5), .ref (h0.length + 7), .ref (h0.length + 9), .null, .null, .null, .int 0]), .inr (1, [.ref (h0.length + 2)]), .inl (0, 70, .inl fun _ => 0), .inr (1, [.ref (h0.length + 4)]), .inl (0, 70, .inl fun _ => 0), .inr (1, [.ref (h0.length + 6)]), .inl (0, 70, .inl fun _ => 0), .inr (1, [.ref (h0.length + 8)]), .inl (0, 70, .inl fun _ => 0), .inr (1, [.ref (h0.length + 10)]), .inl (0, 70, .inl fun _ => 0), .inr (1, [.ref (h0.length + 12)]), .inl (0, 70, .inl fun _ => 0)]) (pc' := 79) zi_77_76 hi (by omega) (by omega) rfl rfl rfl rfl rfl ?_
  refine ai_put (L' := [.inr (3, [.ref (h0.length + 1), .ref (h0.length + 3), .ref (h0.length + 5), .ref (h0.length + 7), .ref (h0.length + 9), .ref (h0.length + 11), .null, .null, .int 0]), .inr (1, [.ref (h0.length + 2)]), .inl (0, 70, .inl fun _ => 0), .inr (1, [.ref (h0.length + 4)]), .inl (0, 70, .inl fun _ => 0), .inr (1, [.ref (h0.length + 6)]), .inl (0, 70, .inl fun _ => 0), .inr (1, [.ref (h0.length + 8)]), .inl (0, 70, .inl fun _ => 0), .inr (1, [.ref (h0.length + 10)]), .inl (0, 70, .inl fun _ => 0), .inr (1, [.ref (h0.length + 12)]), .inl (0, 70, .inl fun _ => 0)]) (pc' := 82) zi_77_79 hi rfl (Nat.le_of_ble_eq_true rfl) rfl rfl rfl ?_
  refine zr_aload_n (pc' := 83) zi_77_82 rfl rfl ?_
  refine ai_new (L' := [.inr (3, [.ref (h0.length + 1), .ref (h0.length + 3), .ref (h0.length + 5), .ref (h0.length + 7), .ref (h0.length + 9), .ref (h0.length + 11), .null, .null, .int 0]), .inr (1, [.ref (h0.length + 2)]), .inl (0, 70, .inl fun _ => 0), .inr (1, [.ref (h0.length + 4)]), .inl (0, 70, .inl fun _ => 0), .inr (1, [.ref (h0.length + 6)]), .inl (0, 70, .inl fun _ => 0), .inr (1, [.ref (h0.length + 8)]), .inl (0, 70, .inl fun _ => 0), .inr (1, [.ref (h0.length + 10)]), .inl (0, 70, .inl fun _ => 0), .inr (1, [.ref (h0.length + 12)]), .inl (0, 70, .inl fun _ => 0), .inr (1, [.null])]) (pc' := 86) zi_77_83 rfl rfl rfl rfl ?_
  refine zr_dup (pc' := 87) zi_77_86 rfl rfl ?_
  refine zr_bipush (v := (nI 70)) (pc' := 89) zi_77_87 rfl rfl ?_
  refine ai_row (L' := [.inr (3, [.ref (h0.length + 1), .ref (h0.length + 3), .ref (h0.length + 5), .ref (h0.length + 7), .ref (h0.length + 9), .ref (h0.length + 11), .null, .null, .int 0]), .inr (1, [.ref (h0.length + 2)]), .inl (0, 70, .inl fun _ => 0), .inr (1, [.ref (h0.length + 4)]), .inl (0, 70, .inl fun _ => 0), .inr (1, [.ref (h0.length + 6)]), .inl (0, 70, .inl fun _ => 0), .inr (1, [.ref (h0.length + 8)]), .inl (0, 70, .inl fun _ => 0), .inr (1, [.ref (h0.length + 10)]), .inl (0, 70, .inl fun _ => 0), .inr (1, [.ref (h0.length + 12)]), .inl (0, 70, .inl fun _ => 0), .inr (1, [.ref (h0.length + 14)]), .inl (0, 70, .inl fun _ => 0)]) (pc' := 92) zi_77_89 hi (by omega) (by omega) rfl rfl rfl rfl rfl ?_
  refine ai_put (L' := [.inr (3, [.ref (h0.length + 1), .ref (h0.length + 3), .ref (h0.length + 5), .ref (h0.length + 7), .ref (h0.length + 9), .ref (h0.length + 11), .ref (h0.length + 13), .null, .int 0]), .inr (1, [.ref (h0.length + 2)]), .inl (0, 70, .inl fun _ => 0), .inr (1, [.ref (h0.length + 4)]), .inl (0, 70, .inl fun _ => 0), .inr (1, [.ref (h0.length + 6)]), .inl (0, 70, .inl fun _ => 0), .inr (1, [.ref (h0.length + 8)]), .inl (0, 70, .inl fun _ => 0), .inr (1, [.ref (h0.length + 10)]), .inl (0, 70, .inl fun _ => 0), .inr (1, [.ref (h0.length + 12)]), .inl (0, 70, .inl fun _ => 0), .inr (1, [.ref (h0.length + 14)]), .inl (0, 70, .inl fun _ => 0)]) (pc' := 95) zi_77_92 hi rfl (Nat.le_of_ble_eq_true rfl) rfl rfl rfl ?_
  refine zr_aload_n (pc' := 96) zi_77_95 rfl rfl ?_
  refine ai_new (L' := [.inr (3, [.ref (h0.length + 1), .ref (h0.length + 3), .ref (h0.length + 5), .ref (h0.length + 7), .ref (h0.length + 9), .ref (h0.length + 11), .ref (h0.length + 13), .null, .int 0]), .inr (1, [.ref (h0.length + 2)]), .inl (0, 70, .inl fun _ => 0), .inr (1, [.ref (h0.length + 4)]), .inl (0, 70, .inl fun _ => 0), .inr (1, [.ref (h0.length + 6)]), .inl (0, 70, .inl fun _ => 0), .inr (1, [.ref (h0.length + 8)]), .inl (0, 70, .inl fun _ => 0), .inr (1, [.ref (h0.length + 10)]), .inl (0, 70, .inl fun _ => 0), .inr (1, [.ref (h0.length + 12)]), .inl (0, 70, .inl fun _ => 0), .inr (1, [.ref (h0.length + 14)]), .inl (0, 70, .inl fun _ => 0), .inr (1, [.null])]) (pc' := 99) zi_77_96 rfl rfl rfl rfl ?_
  refine zr_dup (pc' := 100) zi_77_99 rfl rfl ?_
  refine zr_bipush (v := (nI 70)) (pc' := 102) zi_77_100 rfl rfl ?_
  refine ai_row (L' := [.inr (3, [.ref (h0.length + 1), .ref (h0.length + 3), .ref (h0.length + 5), .ref (h0.length + 7), .ref (h0.length + 9), .ref (h0.length + 11), .ref (h0.length + 13), .null, .int 0]), .inr (1, [.ref (h0.length + 2)]), .inl (0, 70, .inl fun _ => 0), .inr (1, [.ref (h0.length + 4)]), .inl (0, 70, .inl fun _ => 0), .inr (1, [.ref (h0.length + 6)]), .inl (0, 70, .inl fun _ => 0), .inr (1, [.ref (h0.length + 8)]), .inl (0, 70, .inl fun _ => 0), .inr (1, [.ref (h0.length + 10)]), .inl (0, 70, .inl fun _ => 0), .inr (1, [.ref (h0.length + 12)]), .inl (0, 70, .inl fun _ => 0), .inr (1, [.ref (h0.length + 14)]), .inl (0, 70, .inl fun _ => 0), .inr (1, [.ref (h0.length + 16)]), .inl (0, 70, .inl fun _ => 0)]) (pc' := 105) zi_77_102 hi (by omega) (by omega) rfl rfl rfl rfl rfl ?_
  refine ai_put (L' := [.inr (3, [.ref (h0.length + 1), .ref (h0.length + 3), .ref (h0.length + 5), .ref (h0.length + 7), .ref (h0.length + 9), .ref (h0.length + 11), .ref (h0.length + 13), .ref (h0.length + 15), .int 0]), .inr (1, [.ref (h0.length + 2)]), .inl (0, 70, .inl fun _ => 0), .inr (1, [.ref (h0.length + 4)]), .inl (0, 70, .inl fun _ => 0), .inr (1, [.ref (h0.length + 6)]), .inl (0, 70, .inl fun _ => 0), .inr (1, [.ref (h0.length + 8)]), .inl (0, 70, .inl fun _ => 0), .inr (1, [.ref (h0.length + 10)]), .inl (0, 70, .inl fun _ => 0), .inr (1, [.ref (h0.length + 12)]), .inl (0, 70, .inl fun _ => 0), .inr (1, [.ref (h0.length + 14)]), .inl (0, 70, .inl fun _ => 0), .inr (1, [.ref (h0.length + 16)]), .inl (0, 70, .inl fun _ => 0)]) (pc' := 108) zi_77_105 hi rfl (Nat.le_of_ble_eq_true rfl) rfl rfl rfl ?_
  exact zr_return zi_77_108 rfl
theorem c_X4_init {e : zE} (he : e = .inr (4, [.null, .null, .null, .null, .int 0])) (h0 : zH) (hi : 1 ≤ h0.length) : zcalls zTB 88 [.ref h0.length] (h0 ++ [e]) (none, h0 ++ m_spikes h0.length) := by
  subst he
  refine zcalls_of (Nat.le_of_ble_eq_true rfl) ?_
  show zruns zTB 88 0 [some (.ref (h0.length + 0))] [] _ _
  refine zr_aload_n (pc' := 1) zi_88_0 rfl rfl ?_
  refine zr_objinit (pc' := 4) zi_88_1 rfl rfl ?_
  refine zr_aload_n (pc' := 5) zi_88_4 rfl rfl ?_
  refine ai_new (L' := [.inr (4, [.null, .null, .null, .null, .int 0]), .inr (1, [.null])]) (pc' := 8) zi_88_5 rfl rfl rfl rfl ?_
  refine zr_dup (pc' := 9) zi_88_8 rfl rfl ?_
  refine zr_bipush (v := (nI 23)) (pc' := 11) zi_88_9 rfl rfl ?_
  refine ai_row (L' := [.inr (4, [.null, .null, .null, .null, .int 0]), .inr (1, [.ref (h0.length + 2)]), .inl (0, 23, .inl fun _ => 0)]) (pc' := 14) zi_88_11 hi (by omega) (by omega) rfl rfl rfl rfl rfl ?_
  refine ai_put (L' := [.inr (4, [.ref (h0.length + 1), .null, .null, .null, .int 0]), .inr (1, [.ref (h0.length + 2)]), .inl (0, 23, .inl fun _ => 0)]) (pc' := 17) zi_88_14 hi rfl (Nat.le_of_ble_eq_true rfl) rfl rfl rfl ?_
  refine zr_aload_n (pc' := 18) zi_88_17 rfl rfl ?_
  refine ai_new (L' := [.inr (4, [.ref (h0.length + 1), .null, .null, .null, .int 0]), .inr (1, [.ref (h0.length + 2)]), .inl (0, 23, .inl fun _ => 0), .inr (1, [.null])]) (pc' := 21) zi_88_18 rfl rfl rfl rfl ?_
  refine zr_dup (pc' := 22) zi_88_21 rfl rfl ?_
  refine zr_bipush (v := (nI 23)) (pc' := 24) zi_88_22 rfl rfl ?_
  refine ai_row (L' := [.inr (4, [.ref (h0.length + 1), .null, .null, .null, .int 0]), .inr (1, [.ref (h0.length + 2)]), .inl (0, 23, .inl fun _ => 0), .inr (1, [.ref (h0.length + 4)]), .inl (0, 23, .inl fun _ => 0)]) (pc' := 27) zi_88_24 hi (by omega) (by omega) rfl rfl rfl rfl rfl ?_
  refine ai_put (L' := [.inr (4, [.ref (h0.length + 1), .ref (h0.length + 3), .null, .null, .int 0]), .inr (1, [.ref (h0.length + 2)]), .inl (0, 23, .inl fun _ => 0), .inr (1, [.ref (h0.length + 4)]), .inl (0, 23, .inl fun _ => 0)]) (pc' := 30) zi_88_27 hi rfl (Nat.le_of_ble_eq_true rfl) rfl rfl rfl ?_
  refine zr_aload_n (pc' := 31) zi_88_30 rfl rfl ?_
  refine ai_new (L' := [.inr (4, [.ref (h0.length + 1), .ref (h0.length + 3), .null, .null, .int 0]), .inr (1, [.ref (h0.length + 2)]), .inl (0, 23, .inl fun _ => 0), .inr (1, [.ref (h0.length + 4)]), .inl (0, 23, .inl fun _ => 0), .inr (1, [.null])]) (pc' := 34) zi_88_31 rfl rfl rfl rfl ?_
  refine zr_dup (pc' := 35) zi_88_34 rfl rfl ?_
  refine zr_bipush (v := (nI 23)) (pc' := 37) zi_88_35 rfl rfl ?_
  refine ai_row (L' := [.inr (4, [.ref (h0.length + 1), .ref (h0.length + 3), .null, .null, .int 0]), .inr (1, [.ref (h0.length + 2)]), .inl (0, 23, .inl fun _ => 0), .inr (1, [.ref (h0.length + 4)]), .inl (0, 23, .inl fun _ => 0), .inr (1, [.ref (h0.length + 6)]), .inl (0, 23, .inl fun _ => 0)]) (pc' := 40) zi_88_37 hi (by omega) (by omega) rfl rfl rfl rfl rfl ?_
  refine ai_put (L' := [.inr (4, [.ref (h0.length + 1), .ref (h0.length + 3), .ref (h0.length + 5), .null, .int 0]), .inr (1, [.ref (h0.length + 2)]), .inl (0, 23, .inl fun _ => 0), .inr (1, [.ref (h0.length + 4)]), .inl (0, 23, .inl fun _ => 0), .inr (1, [.ref (h0.length + 6)]), .inl (0, 23, .inl fun _ => 0)]) (pc' := 43) zi_88_40 hi rfl (Nat.le_of_ble_eq_true rfl) rfl rfl rfl ?_
  refine zr_aload_n (pc' := 44) zi_88_43 rfl rfl ?_
  refine ai_new (L' := [.inr (4, [.ref (h0.length + 1), .ref (h0.length + 3), .ref (h0.length + 5), .null, .int 0]), .inr (1, [.ref (h0.length + 2)]), .inl (0, 23, .inl fun _ => 0), .inr (1, [.ref (h0.length + 4)]), .inl (0, 23, .inl fun _ => 0), .inr (1, [.ref (h0.length + 6)]), .inl (0, 23, .inl fun _ => 0), .inr (1, [.null])]) (pc' := 47) zi_88_44 rfl rfl rfl rfl ?_
  refine zr_dup (pc' := 48) zi_88_47 rfl rfl ?_
  refine zr_bipush (v := (nI 20)) (pc' := 50) zi_88_48 rfl rfl ?_
  refine ai_row (L' := [.inr (4, [.ref (h0.length + 1), .ref (h0.length + 3), .ref (h0.length + 5), .null, .int 0]), .inr (1, [.ref (h0.length + 2)]), .inl (0, 23, .inl fun _ => 0), .inr (1, [.ref (h0.length + 4)]), .inl (0, 23, .inl fun _ => 0), .inr (1, [.ref (h0.length + 6)]), .inl (0, 23, .inl fun _ => 0), .inr (1, [.ref (h0.length + 8)]), .inl (0, 20, .inl fun _ => 0)]) (pc' := 53) zi_88_50 hi (by omega) (by omega) rfl rfl rfl rfl rfl ?_
  refine ai_put (L' := [.inr (4, [.ref (h0.length + 1), .ref (h0.length + 3), .ref (h0.length + 5), .ref (h0.length + 7), .int 0]), .inr (1, [.ref (h0.length + 2)]), .inl (0, 23, .inl fun _ => 0), .inr (1, [.ref (h0.length + 4)]), .inl (0, 23, .inl fun _ => 0), .inr (1, [.ref (h0.length + 6)]), .inl (0, 23, .inl fun _ => 0), .inr (1, [.ref (h0.length + 8)]), .inl (0, 20, .inl fun _ => 0)]) (pc' := 56) zi_88_53 hi rfl (Nat.le_of_ble_eq_true rfl) rfl rfl rfl ?_
  exact zr_return zi_88_56 rfl
theorem c_X2_init {e : zE} (he : e = .inr (2, [.null, .null, .null, .null, .null, .null, .null, .null])) (h0 : zH) (hi : 1 ≤ h0.length) : zcalls zTB 70 [.ref h0.length] (h0 ++ [e]) (none, h0 ++ m_scenes h0.length) := by
  subst he
  refine zcalls_of (Nat.le_of_ble_eq_true rfl) ?_
  show zruns zTB 70 0 [some (.ref (h0.length + 0))] [] _ _
  refine zr_aload_n (pc' := 1) zi_70_0 rfl rfl ?_
  refine zr_objinit (pc' := 4) zi_70_1 rfl rfl ?_
  refine zr_aload_n (pc' := 5) zi_70_4 rfl rfl ?_
  refine ai_new (L' := [.inr (2, [.null, .null, .null, .null, .null, .null, .null, .null]), .inr (1, [.null])]) (pc' := 8) zi_70_5 rfl rfl rfl rfl ?_
  refine zr_dup (pc' := 9) zi_70_8 rfl rfl ?_
  refine zr_bipush (v := (nI 70)) (pc' := 11) zi_70_9 rfl rfl ?_
  refine ai_row (L' := [.inr (2, [.null, .null, .null, .null, .null, .null, .null, .null]), .inr (1, [.ref (h0.length + 2)]), .inl (0, 70, .inl fun _ => 0)]) (pc' := 14) zi_70_11 hi (by omega) (by omega) rfl rfl rfl rfl rfl ?_
  refine ai_put (L' := [.inr (2, [.ref (h0.length + 1), .null, .null, .null, .null, .null, .null, .null]), .inr (1, [.ref (h0.length + 2)]), .inl (0, 70, .inl fun _ => 0)]) (pc' := 17) zi_70_14 hi rfl (Nat.le_of_ble_eq_true rfl) rfl rfl rfl ?_
  refine zr_aload_n (pc' := 18) zi_70_17 rfl rfl ?_
  refine ai_new (L' := [.inr (2, [.ref (h0.length + 1), .null, .null, .null, .null, .null, .null, .null]), .inr (1, [.ref (h0.length + 2)]), .inl (0, 70, .inl fun _ => 0), .inr (1, [.null])]) (pc' := 21) zi_70_18 rfl rfl rfl rfl ?_
  refine zr_dup (pc' := 22) zi_70_21 rfl rfl ?_
  refine zr_bipush (v := (nI 70)) (pc' := 24) zi_70_22 rfl rfl ?_
  refine ai_row (L' := [.inr (2, [.ref (h0.length + 1), .null, .null, .null, .null, .null, .null, .null]), .inr (1, [.ref (h0.length + 2)]), .inl (0, 70, .inl fun _ => 0), .inr (1, [.ref (h0.length + 4)]), .inl (0, 70, .inl fun _ => 0)]) (pc' := 27) zi_70_24 hi (by omega) (by omega) rfl rfl rfl rfl rfl ?_
  refine ai_put (L' := [.inr (2, [.ref (h0.length + 1), .ref (h0.length + 3), .null, .null, .null, .null, .null, .null]), .inr (1, [.ref (h0.length + 2)]), .inl (0, 70, .inl fun _ => 0), .inr (1, [.ref (h0.length + 4)]), .inl (0, 70, .inl fun _ => 0)]) (pc' := 30) zi_70_27 hi rfl (Nat.le_of_ble_eq_true rfl) rfl rfl rfl ?_
  refine zr_aload_n (pc' := 31) zi_70_30 rfl rfl ?_
  refine ai_new (L' := [.inr (2, [.ref (h0.length + 1), .ref (h0.length + 3), .null, .null, .null, .null, .null, .null]), .inr (1, [.ref (h0.length + 2)]), .inl (0, 70, .inl fun _ => 0), .inr (1, [.ref (h0.length + 4)]), .inl (0, 70, .inl fun _ => 0), .inr (1, [.null])]) (pc' := 34) zi_70_31 rfl rfl rfl rfl ?_
  refine zr_dup (pc' := 35) zi_70_34 rfl rfl ?_
  refine zr_sipush (v := (nI 400)) (pc' := 38) zi_70_35 rfl rfl ?_
  refine ai_row (L' := [.inr (2, [.ref (h0.length + 1), .ref (h0.length + 3), .null, .null, .null, .null, .null, .null]), .inr (1, [.ref (h0.length + 2)]), .inl (0, 70, .inl fun _ => 0), .inr (1, [.ref (h0.length + 4)]), .inl (0, 70, .inl fun _ => 0), .inr (1, [.ref (h0.length + 6)]), .inl (0, 400, .inl fun _ => 0)]) (pc' := 41) zi_70_38 hi (by omega) (by omega) rfl rfl rfl rfl rfl ?_
  refine ai_put (L' := [.inr (2, [.ref (h0.length + 1), .ref (h0.length + 3), .ref (h0.length + 5), .null, .null, .null, .null, .null]), .inr (1, [.ref (h0.length + 2)]), .inl (0, 70, .inl fun _ => 0), .inr (1, [.ref (h0.length + 4)]), .inl (0, 70, .inl fun _ => 0), .inr (1, [.ref (h0.length + 6)]), .inl (0, 400, .inl fun _ => 0)]) (pc' := 44) zi_70_41 hi rfl (Nat.le_of_ble_eq_true rfl) rfl rfl rfl ?_
  refine zr_aload_n (pc' := 45) zi_70_44 rfl rfl ?_
  refine ai_new (L' := [.inr (2, [.ref (h0.length + 1), .ref (h0.length + 3), .ref (h0.length + 5), .null, .null, .null, .null, .null]), .inr (1, [.ref (h0.length + 2)]), .inl (0, 70, .inl fun _ => 0), .inr (1, [.ref (h0.length + 4)]), .inl (0, 70, .inl fun _ => 0), .inr (1, [.ref (h0.length + 6)]), .inl (0, 400, .inl fun _ => 0), .inr (1, [.null])]) (pc' := 48) zi_70_45 rfl rfl rfl rfl ?_
  refine zr_dup (pc' := 49) zi_70_48 rfl rfl ?_
  refine zr_bipush (v := (nI 20)) (pc' := 51) zi_70_49 rfl rfl ?_
  refine ai_row (L' := [.inr (2, [.ref (h0.length + 1), .ref (h0.length + 3), .ref (h0.length + 5), .null, .null, .null, .null, .null]), .inr (1, [.ref (h0.length + 2)]), .inl (0, 70, .inl fun _ => 0), .inr (1, [.ref (h0.length + 4)]), .inl (0, 70, .inl fun _ => 0), .inr (1, [.ref (h0.length + 6)]), .inl (0, 400, .inl fun _ => 0), .inr (1, [.ref (h0.length + 8)]), .inl (0, 20, .inl fun _ => 0)]) (pc' := 54) zi_70_51 hi (by omega) (by omega) rfl rfl rfl rfl rfl ?_
  refine ai_put (L' := [.inr (2, [.ref (h0.length + 1), .ref (h0.length + 3), .ref (h0.length + 5), .ref (h0.length + 7), .null, .null, .null, .null]), .inr (1, [.ref (h0.length + 2)]), .inl (0, 70, .inl fun _ => 0), .inr (1, [.ref (h0.length + 4)]), .inl (0, 70, .inl fun _ => 0), .inr (1, [.ref (h0.length + 6)]), .inl (0, 400, .inl fun _ => 0), .inr (1, [.ref (h0.length + 8)]), .inl (0, 20, .inl fun _ => 0)]) (pc' := 57) zi_70_54 hi rfl (Nat.le_of_ble_eq_true rfl) rfl rfl rfl ?_
  refine zr_aload_n (pc' := 58) zi_70_57 rfl rfl ?_
  refine ai_new (L' := [.inr (2, [.ref (h0.length + 1), .ref (h0.length + 3), .ref (h0.length + 5), .ref (h0.length + 7), .null, .null, .null, .null]), .inr (1, [.ref (h0.length + 2)]), .inl (0, 70, .inl fun _ => 0), .inr (1, [.ref (h0.length + 4)]), .inl (0, 70, .inl fun _ => 0), .inr (1, [.ref (h0.length + 6)]), .inl (0, 400, .inl fun _ => 0), .inr (1, [.ref (h0.length + 8)]), .inl (0, 20, .inl fun _ => 0), .inr (1, [.null])]) (pc' := 61) zi_70_58 rfl rfl rfl rfl ?_
  refine zr_dup (pc' := 62) zi_70_61 rfl rfl ?_
  refine zr_bipush (v := (nI 20)) (pc' := 64) zi_70_62 rfl rfl ?_
  refine ai_row (L' := [.inr (2, [.ref (h0.length + 1), .ref (h0.length + 3), .ref (h0.length + 5), .ref (h0.length + 7), .null, .null, .null, .null]), .inr (1, [.ref (h0.length + 2)]), .inl (0, 70, .inl fun _ => 0), .inr (1, [.ref (h0.length + 4)]), .inl (0, 70, .inl fun _ => 0), .inr (1, [.ref (h0.length + 6)]), .inl (0, 400, .inl fun _ => 0), .inr (1, [.ref (h0.length + 8)]), .inl (0, 20, .inl fun _ => 0), .inr (1, [.ref (h0.length + 10)]), .inl (0, 20, .inl fun _ => 0)]) (pc' := 67) zi_70_64 hi (by omega) (by omega) rfl rfl rfl rfl rfl ?_
  refine ai_put (L' := [.inr (2, [.ref (h0.length + 1), .ref (h0.length + 3), .ref (h0.length + 5), .ref (h0.length + 7), .ref (h0.length + 9), .null, .null, .null]), .inr (1, [.ref (h0.length + 2)]), .inl (0, 70, .inl fun _ => 0), .inr (1, [.ref (h0.length + 4)]), .inl (0, 70, .inl fun _ => 0), .inr (1, [.ref (h0.length + 6)]), .inl (0, 400, .inl fun _ => 0), .inr (1, [.ref (h0.length + 8)]), .inl (0, 20, .inl fun _ => 0), .inr (1, [.ref (h0.length + 10)]), .inl (0, 20, .inl fun _ => 0)]) (pc' := 70) zi_70_67 hi rfl (Nat.le_of_ble_eq_true rfl) rfl rfl rfl ?_
  refine zr_aload_n (pc' := 71) zi_70_70 rfl rfl ?_
  refine ai_new (L' := [.inr (2, [.ref (h0.length + 1), .ref (h0.length + 3), .ref (h0.length + 5), .ref (h0.length + 7), .ref (h0.length + 9), .null, .null, .null]), .inr (1, [.ref (h0.length + 2)]), .inl (0, 70, .inl fun _ => 0), .inr (1, [.ref (h0.length + 4)]), .inl (0, 70, .inl fun _ => 0), .inr (1, [.ref (h0.length + 6)]), .inl (0, 400, .inl fun _ => 0), .inr (1, [.ref (h0.length + 8)]), .inl (0, 20, .inl fun _ => 0), .inr (1, [.ref (h0.length + 10)]), .inl (0, 20, .inl fun _ => 0), .inr (1, [.null])]) (pc' := 74) zi_70_71 rfl rfl rfl rfl ?_
  refine zr_dup (pc' := 75) zi_70_74 rfl rfl ?_
  refine zr_sipush (v := (nI 400)) (pc' := 78) zi_70_75 rfl rfl ?_
  refine ai_row (L' := [.inr (2, [.ref (h0.length + 1), .ref (h0.length + 3), .ref (h0.length + 5), .ref (h0.length + 7), .ref (h0.length + 9), .null, .null, .null]), .inr (1, [.ref (h0.length + 2)]), .inl (0, 70, .inl fun _ => 0), .inr (1, [.ref (h0.length + 4)]), .inl (0, 70, .inl fun _ => 0), .inr (1, [.ref (h0.length + 6)]), .inl (0, 400, .inl fun _ => 0), .inr (1, [.ref (h0.length + 8)]), .inl (0, 20, .inl fun _ => 0), .inr (1, [.ref (h0.length + 10)]), .inl (0, 20, .inl fun _ => 0), .inr (1, [.ref (h0.length + 12)]), .inl (0, 400, .inl fun _ => 0)]) (pc' := 81) zi_70_78 hi (by omega) (by omega) rfl rfl rfl rfl rfl ?_
  refine ai_put (L' := [.inr (2, [.ref (h0.length + 1), .ref (h0.length + 3), .ref (h0.length + 5), .ref (h0.length + 7), .ref (h0.length + 9), .ref (h0.length + 11), .null, .null]), .inr (1, [.ref (h0.length + 2)]), .inl (0, 70, .inl fun _ => 0), .inr (1, [.ref (h0.length + 4)]), .inl (0, 70, .inl fun _ => 0), .inr (1, [.ref (h0.length + 6)]), .inl (0, 400, .inl fun _ => 0), .inr (1, [.ref (h0.length + 8)]), .inl (0, 20, .inl fun _ => 0), .inr (1, [.ref (h0.length + 10)]), .inl (0, 20, .inl fun _ => 0), .inr (1, [.ref (h0.length + 12)]), .inl (0, 400, .inl fun _ => 0)]) (pc' := 84) zi_70_81 hi rfl (Nat.le_of_ble_eq_true rfl) rfl rfl rfl ?_
  refine zr_aload_n (pc' := 85) zi_70_84 rfl rfl ?_
  refine ai_new (L' := [.inr (2, [.ref (h0.length + 1), .ref (h0.length + 3), .ref (h0.length + 5), .ref (h0.length + 7), .ref (h0.length + 9), .ref (h0.length + 11), .null, .null]), .inr (1, [.ref (h0.length + 2)]), .inl (0, 70, .inl fun _ => 0), .inr (1, [.ref (h0.length + 4)]), .inl (0, 70, .inl fun _ => 0), .inr (1, [.ref (h0.length + 6)]), .inl (0, 400, .inl fun _ => 0), .inr (1, [.ref (h0.length + 8)]), .inl (0, 20, .inl fun _ => 0), .inr (1, [.ref (h0.length + 10)]), .inl (0, 20, .inl fun _ => 0), .inr (1, [.ref (h0.length + 12)]), .inl (0, 400, .inl fun _ => 0), .inr (1, [.null])]) (pc' := 88) zi_70_85 rfl rfl rfl rfl ?_
  refine zr_dup (pc' := 89) zi_70_88 rfl rfl ?_
  refine zr_sipush (v := (nI 400)) (pc' := 92) zi_70_89 rfl rfl ?_
  refine ai_row (L' := [.inr (2, [.ref (h0.length + 1), .ref (h0.length + 3), .ref (h0.length + 5), .ref (h0.length + 7), .ref (h0.length + 9), .ref (h0.length + 11), .null, .null]), .inr (1, [.ref (h0.length + 2)]), .inl (0, 70, .inl fun _ => 0), .inr (1, [.ref (h0.length + 4)]), .inl (0, 70, .inl fun _ => 0), .inr (1, [.ref (h0.length + 6)]), .inl (0, 400, .inl fun _ => 0), .inr (1, [.ref (h0.length + 8)]), .inl (0, 20, .inl fun _ => 0), .inr (1, [.ref (h0.length + 10)]), .inl (0, 20, .inl fun _ => 0), .inr (1, [.ref (h0.length + 12)]), .inl (0, 400, .inl fun _ => 0), .inr (1, [.ref (h0.length + 14)]), .inl (0, 400, .inl fun _ => 0)]) (pc' := 95) zi_70_92 hi (by omega) (by omega) rfl rfl rfl rfl rfl ?_
  refine ai_put (L' := [.inr (2, [.ref (h0.length + 1), .ref (h0.length + 3), .ref (h0.length + 5), .ref (h0.length + 7), .ref (h0.length + 9), .ref (h0.length + 11), .ref (h0.length + 13), .null]), .inr (1, [.ref (h0.length + 2)]), .inl (0, 70, .inl fun _ => 0), .inr (1, [.ref (h0.length + 4)]), .inl (0, 70, .inl fun _ => 0), .inr (1, [.ref (h0.length + 6)]), .inl (0, 400, .inl fun _ => 0), .inr (1, [.ref (h0.length + 8)]), .inl (0, 20, .inl fun _ => 0), .inr (1, [.ref (h0.length + 10)]), .inl (0, 20, .inl fun _ => 0), .inr (1, [.ref (h0.length + 12)]), .inl (0, 400, .inl fun _ => 0), .inr (1, [.ref (h0.length + 14)]), .inl (0, 400, .inl fun _ => 0)]) (pc' := 98) zi_70_95 hi rfl (Nat.le_of_ble_eq_true rfl) rfl rfl rfl ?_
  refine zr_aload_n (pc' := 99) zi_70_98 rfl rfl ?_
  refine ai_new (L' := [.inr (2, [.ref (h0.length + 1), .ref (h0.length + 3), .ref (h0.length + 5), .ref (h0.length + 7), .ref (h0.length + 9), .ref (h0.length + 11), .ref (h0.length + 13), .null]), .inr (1, [.ref (h0.length + 2)]), .inl (0, 70, .inl fun _ => 0), .inr (1, [.ref (h0.length + 4)]), .inl (0, 70, .inl fun _ => 0), .inr (1, [.ref (h0.length + 6)]), .inl (0, 400, .inl fun _ => 0), .inr (1, [.ref (h0.length + 8)]), .inl (0, 20, .inl fun _ => 0), .inr (1, [.ref (h0.length + 10)]), .inl (0, 20, .inl fun _ => 0), .inr (1, [.ref (h0.length + 12)]), .inl (0, 400, .inl fun _ => 0), .inr (1, [.ref (h0.length + 14)]), .inl (0, 400, .inl fun _ => 0), .inr (1, [.null])]) (pc' := 102) zi_70_99 rfl rfl rfl rfl ?_
  refine zr_dup (pc' := 103) zi_70_102 rfl rfl ?_
  refine zr_bipush (v := (nI 20)) (pc' := 105) zi_70_103 rfl rfl ?_
  refine ai_row (L' := [.inr (2, [.ref (h0.length + 1), .ref (h0.length + 3), .ref (h0.length + 5), .ref (h0.length + 7), .ref (h0.length + 9), .ref (h0.length + 11), .ref (h0.length + 13), .null]), .inr (1, [.ref (h0.length + 2)]), .inl (0, 70, .inl fun _ => 0), .inr (1, [.ref (h0.length + 4)]), .inl (0, 70, .inl fun _ => 0), .inr (1, [.ref (h0.length + 6)]), .inl (0, 400, .inl fun _ => 0), .inr (1, [.ref (h0.length + 8)]), .inl (0, 20, .inl fun _ => 0), .inr (1, [.ref (h0.length + 10)]), .inl (0, 20, .inl fun _ => 0), .inr (1, [.ref (h0.length + 12)]), .inl (0, 400, .inl fun _ => 0), .inr (1, [.ref (h0.length + 14)]), .inl (0, 400, .inl fun _ => 0), .inr (1, [.ref (h0.length + 16)]), .inl (0, 20, .inl fun _ => 0)]) (pc' := 108) zi_70_105 hi (by omega) (by omega) rfl rfl rfl rfl rfl ?_
  refine ai_put (L' := [.inr (2, [.ref (h0.length + 1), .ref (h0.length + 3), .ref (h0.length + 5), .ref (h0.length + 7), .ref (h0.length + 9), .ref (h0.length + 11), .ref (h0.length + 13), .ref (h0.length + 15)]), .inr (1, [.ref (h0.length + 2)]), .inl (0, 70, .inl fun _ => 0), .inr (1, [.ref (h0.length + 4)]), .inl (0, 70, .inl fun _ => 0), .inr (1, [.ref (h0.length + 6)]), .inl (0, 400, .inl fun _ => 0), .inr (1, [.ref (h0.length + 8)]), .inl (0, 20, .inl fun _ => 0), .inr (1, [.ref (h0.length + 10)]), .inl (0, 20, .inl fun _ => 0), .inr (1, [.ref (h0.length + 12)]), .inl (0, 400, .inl fun _ => 0), .inr (1, [.ref (h0.length + 14)]), .inl (0, 400, .inl fun _ => 0), .inr (1, [.ref (h0.length + 16)]), .inl (0, 20, .inl fun _ => 0)]) (pc' := 111) zi_70_108 hi rfl (Nat.le_of_ble_eq_true rfl) rfl rfl rfl ?_
  exact zr_return zi_70_111 rfl
end


theorem zi_2_0 : zI 2 0 = some (.aload_n 0, []) := by decide +kernel
theorem zi_2_1 : zI 2 1 = some (.invokespecial 3, [0, 5, 1, 2, 3]) := by decide +kernel
theorem zi_2_4 : zI 2 4 = some (.aload_n 0, []) := by decide +kernel
theorem zi_2_5 : zI 2 5 = some (.iload_n 1, []) := by decide +kernel
theorem zi_2_6 : zI 2 6 = some (.ifCond .le 7, [13]) := by decide +kernel
theorem zi_2_9 : zI 2 9 = some (.iload_n 1, []) := by decide +kernel
theorem zi_2_10 : zI 2 10 = some (.goto 4, [14]) := by decide +kernel
theorem zi_2_14 : zI 2 14 = some (.newarray .int, [0, 4]) := by decide +kernel
theorem zi_2_16 : zI 2 16 = some (.putfield 9, [1, 0, 1, 0]) := by decide +kernel
theorem zi_2_19 : zI 2 19 = some (.return_, []) := by decide +kernel
theorem zi_36_0 : zI 36 0 = some (.aload_n 0, []) := by decide +kernel
theorem zi_36_1 : zI 36 1 = some (.invokespecial 3, [0, 5, 200, 2, 3]) := by decide +kernel
theorem zi_36_4 : zI 36 4 = some (.aload_n 0, []) := by decide +kernel
theorem zi_36_5 : zI 36 5 = some (.new 9, [1, 201, 202, 19, 1]) := by decide +kernel
theorem zi_36_8 : zI 36 8 = some (.dup, []) := by decide +kernel
theorem zi_36_9 : zI 36 9 = some (.bipush 20, []) := by decide +kernel
theorem zi_36_11 : zI 36 11 = some (.invokespecial 11, [2, 2, 1, 0, 205, 0, 19, 204, 0, 203]) := by decide +kernel
theorem zi_36_14 : zI 36 14 = some (.putfield 14, [5, 0, 1, 206]) := by decide +kernel
theorem zi_36_17 : zI 36 17 = some (.aload_n 0, []) := by decide +kernel
theorem zi_36_18 : zI 36 18 = some (.new 9, [1, 201, 202, 19, 1]) := by decide +kernel
theorem zi_36_21 : zI 36 21 = some (.dup, []) := by decide +kernel
theorem zi_36_22 : zI 36 22 = some (.sipush 160, []) := by decide +kernel
theorem zi_36_25 : zI 36 25 = some (.invokespecial 11, [2, 2, 1, 0, 205, 0, 19, 204, 0, 203]) := by decide +kernel
theorem zi_36_28 : zI 36 28 = some (.putfield 20, [5, 1, 1, 119]) := by decide +kernel
theorem zi_36_31 : zI 36 31 = some (.return_, []) := by decide +kernel
theorem zi_47_0 : zI 47 0 = some (.aload_n 0, []) := by decide +kernel
theorem zi_47_1 : zI 47 1 = some (.invokespecial 3, [0, 5, 274, 2, 3]) := by decide +kernel
theorem zi_47_4 : zI 47 4 = some (.aload_n 0, []) := by decide +kernel
theorem zi_47_5 : zI 47 5 = some (.new 9, [1, 275, 202, 19, 1]) := by decide +kernel
theorem zi_47_8 : zI 47 8 = some (.dup, []) := by decide +kernel
theorem zi_47_9 : zI 47 9 = some (.bipush 70, []) := by decide +kernel
theorem zi_47_11 : zI 47 11 = some (.invokespecial 11, [2, 2, 1, 0, 205, 0, 19, 204, 0, 276]) := by decide +kernel
theorem zi_47_14 : zI 47 14 = some (.putfield 14, [0, 0, 1, 193]) := by decide +kernel
theorem zi_47_17 : zI 47 17 = some (.aload_n 0, []) := by decide +kernel
theorem zi_47_18 : zI 47 18 = some (.new 9, [1, 275, 202, 19, 1]) := by decide +kernel
theorem zi_47_21 : zI 47 21 = some (.dup, []) := by decide +kernel
theorem zi_47_22 : zI 47 22 = some (.bipush 70, []) := by decide +kernel
theorem zi_47_24 : zI 47 24 = some (.invokespecial 11, [2, 2, 1, 0, 205, 0, 19, 204, 0, 276]) := by decide +kernel
theorem zi_47_27 : zI 47 27 = some (.putfield 20, [0, 1, 1, 196]) := by decide +kernel
theorem zi_47_30 : zI 47 30 = some (.aload_n 0, []) := by decide +kernel
theorem zi_47_31 : zI 47 31 = some (.new 9, [1, 275, 202, 19, 1]) := by decide +kernel
theorem zi_47_34 : zI 47 34 = some (.dup, []) := by decide +kernel
theorem zi_47_35 : zI 47 35 = some (.bipush 70, []) := by decide +kernel
theorem zi_47_37 : zI 47 37 = some (.invokespecial 11, [2, 2, 1, 0, 205, 0, 19, 204, 0, 276]) := by decide +kernel
theorem zi_47_40 : zI 47 40 = some (.putfield 23, [0, 2, 1, 277]) := by decide +kernel
theorem zi_47_43 : zI 47 43 = some (.aload_n 0, []) := by decide +kernel
theorem zi_47_44 : zI 47 44 = some (.new 9, [1, 275, 202, 19, 1]) := by decide +kernel
theorem zi_47_47 : zI 47 47 = some (.dup, []) := by decide +kernel
theorem zi_47_48 : zI 47 48 = some (.bipush 70, []) := by decide +kernel
theorem zi_47_50 : zI 47 50 = some (.invokespecial 11, [2, 2, 1, 0, 205, 0, 19, 204, 0, 276]) := by decide +kernel
theorem zi_47_53 : zI 47 53 = some (.putfield 26, [0, 3, 1, 278]) := by decide +kernel
theorem zi_47_56 : zI 47 56 = some (.aload_n 0, []) := by decide +kernel
theorem zi_47_57 : zI 47 57 = some (.new 9, [1, 275, 202, 19, 1]) := by decide +kernel
theorem zi_47_60 : zI 47 60 = some (.dup, []) := by decide +kernel
theorem zi_47_61 : zI 47 61 = some (.sipush 560, []) := by decide +kernel
theorem zi_47_64 : zI 47 64 = some (.invokespecial 11, [2, 2, 1, 0, 205, 0, 19, 204, 0, 276]) := by decide +kernel
theorem zi_47_67 : zI 47 67 = some (.putfield 29, [0, 4, 1, 100]) := by decide +kernel
theorem zi_47_70 : zI 47 70 = some (.aload_n 0, []) := by decide +kernel
theorem zi_47_71 : zI 47 71 = some (.new 9, [1, 275, 202, 19, 1]) := by decide +kernel
theorem zi_47_74 : zI 47 74 = some (.dup, []) := by decide +kernel
theorem zi_47_75 : zI 47 75 = some (.bipush 70, []) := by decide +kernel
theorem zi_47_77 : zI 47 77 = some (.invokespecial 11, [2, 2, 1, 0, 205, 0, 19, 204, 0, 276]) := by decide +kernel
theorem zi_47_80 : zI 47 80 = some (.putfield 32, [0, 5, 1, 194]) := by decide +kernel
theorem zi_47_83 : zI 47 83 = some (.aload_n 0, []) := by decide +kernel
theorem zi_47_84 : zI 47 84 = some (.new 9, [1, 275, 202, 19, 1]) := by decide +kernel
theorem zi_47_87 : zI 47 87 = some (.dup, []) := by decide +kernel
theorem zi_47_88 : zI 47 88 = some (.bipush 70, []) := by decide +kernel
theorem zi_47_90 : zI 47 90 = some (.invokespecial 11, [2, 2, 1, 0, 205, 0, 19, 204, 0, 276]) := by decide +kernel
theorem zi_47_93 : zI 47 93 = some (.putfield 35, [0, 6, 1, 195]) := by decide +kernel
theorem zi_47_96 : zI 47 96 = some (.return_, []) := by decide +kernel
theorem zi_56_0 : zI 56 0 = some (.aload_n 0, []) := by decide +kernel
theorem zi_56_1 : zI 56 1 = some (.invokespecial 3, [0, 5, 290, 2, 3]) := by decide +kernel
theorem zi_56_4 : zI 56 4 = some (.aload_n 0, []) := by decide +kernel
theorem zi_56_5 : zI 56 5 = some (.new 9, [1, 291, 202, 19, 1]) := by decide +kernel
theorem zi_56_8 : zI 56 8 = some (.dup, []) := by decide +kernel
theorem zi_56_9 : zI 56 9 = some (.bipush 70, []) := by decide +kernel
theorem zi_56_11 : zI 56 11 = some (.invokespecial 11, [2, 2, 1, 0, 205, 0, 19, 204, 0, 292]) := by decide +kernel
theorem zi_56_14 : zI 56 14 = some (.putfield 14, [2, 0, 1, 293]) := by decide +kernel
theorem zi_56_17 : zI 56 17 = some (.aload_n 0, []) := by decide +kernel
theorem zi_56_18 : zI 56 18 = some (.new 9, [1, 291, 202, 19, 1]) := by decide +kernel
theorem zi_56_21 : zI 56 21 = some (.dup, []) := by decide +kernel
theorem zi_56_22 : zI 56 22 = some (.bipush 70, []) := by decide +kernel
theorem zi_56_24 : zI 56 24 = some (.invokespecial 11, [2, 2, 1, 0, 205, 0, 19, 204, 0, 292]) := by decide +kernel
theorem zi_56_27 : zI 56 27 = some (.putfield 20, [2, 1, 1, 294]) := by decide +kernel
theorem zi_56_30 : zI 56 30 = some (.aload_n 0, []) := by decide +kernel
theorem zi_56_31 : zI 56 31 = some (.new 9, [1, 291, 202, 19, 1]) := by decide +kernel
theorem zi_56_34 : zI 56 34 = some (.dup, []) := by decide +kernel
theorem zi_56_35 : zI 56 35 = some (.sipush 400, []) := by decide +kernel
theorem zi_56_38 : zI 56 38 = some (.invokespecial 11, [2, 2, 1, 0, 205, 0, 19, 204, 0, 292]) := by decide +kernel
theorem zi_56_41 : zI 56 41 = some (.putfield 23, [2, 2, 1, 144]) := by decide +kernel
theorem zi_56_44 : zI 56 44 = some (.aload_n 0, []) := by decide +kernel
theorem zi_56_45 : zI 56 45 = some (.new 9, [1, 291, 202, 19, 1]) := by decide +kernel
theorem zi_56_48 : zI 56 48 = some (.dup, []) := by decide +kernel
theorem zi_56_49 : zI 56 49 = some (.bipush 20, []) := by decide +kernel
theorem zi_56_51 : zI 56 51 = some (.invokespecial 11, [2, 2, 1, 0, 205, 0, 19, 204, 0, 292]) := by decide +kernel
theorem zi_56_54 : zI 56 54 = some (.putfield 26, [2, 3, 1, 197]) := by decide +kernel
theorem zi_56_57 : zI 56 57 = some (.aload_n 0, []) := by decide +kernel
theorem zi_56_58 : zI 56 58 = some (.new 9, [1, 291, 202, 19, 1]) := by decide +kernel
theorem zi_56_61 : zI 56 61 = some (.dup, []) := by decide +kernel
theorem zi_56_62 : zI 56 62 = some (.bipush 20, []) := by decide +kernel
theorem zi_56_64 : zI 56 64 = some (.invokespecial 11, [2, 2, 1, 0, 205, 0, 19, 204, 0, 292]) := by decide +kernel
theorem zi_56_67 : zI 56 67 = some (.putfield 29, [2, 4, 1, 295]) := by decide +kernel
theorem zi_56_70 : zI 56 70 = some (.aload_n 0, []) := by decide +kernel
theorem zi_56_71 : zI 56 71 = some (.new 9, [1, 291, 202, 19, 1]) := by decide +kernel
theorem zi_56_74 : zI 56 74 = some (.dup, []) := by decide +kernel
theorem zi_56_75 : zI 56 75 = some (.sipush 400, []) := by decide +kernel
theorem zi_56_78 : zI 56 78 = some (.invokespecial 11, [2, 2, 1, 0, 205, 0, 19, 204, 0, 292]) := by decide +kernel
theorem zi_56_81 : zI 56 81 = some (.putfield 32, [2, 5, 1, 199]) := by decide +kernel
theorem zi_56_84 : zI 56 84 = some (.aload_n 0, []) := by decide +kernel
theorem zi_56_85 : zI 56 85 = some (.new 9, [1, 291, 202, 19, 1]) := by decide +kernel
theorem zi_56_88 : zI 56 88 = some (.dup, []) := by decide +kernel
theorem zi_56_89 : zI 56 89 = some (.sipush 400, []) := by decide +kernel
theorem zi_56_92 : zI 56 92 = some (.invokespecial 11, [2, 2, 1, 0, 205, 0, 19, 204, 0, 292]) := by decide +kernel
theorem zi_56_95 : zI 56 95 = some (.putfield 35, [2, 6, 1, 121]) := by decide +kernel
theorem zi_56_98 : zI 56 98 = some (.aload_n 0, []) := by decide +kernel
theorem zi_56_99 : zI 56 99 = some (.new 9, [1, 291, 202, 19, 1]) := by decide +kernel
theorem zi_56_102 : zI 56 102 = some (.dup, []) := by decide +kernel
theorem zi_56_103 : zI 56 103 = some (.bipush 20, []) := by decide +kernel
theorem zi_56_105 : zI 56 105 = some (.invokespecial 11, [2, 2, 1, 0, 205, 0, 19, 204, 0, 292]) := by decide +kernel
theorem zi_56_108 : zI 56 108 = some (.putfield 38, [2, 7, 1, 296]) := by decide +kernel
theorem zi_56_111 : zI 56 111 = some (.return_, []) := by decide +kernel
theorem zi_63_0 : zI 63 0 = some (.aload_n 0, []) := by decide +kernel
theorem zi_63_1 : zI 63 1 = some (.invokespecial 3, [0, 5, 326, 2, 3]) := by decide +kernel
theorem zi_63_4 : zI 63 4 = some (.aload_n 0, []) := by decide +kernel
theorem zi_63_5 : zI 63 5 = some (.new 9, [1, 327, 202, 19, 1]) := by decide +kernel
theorem zi_63_8 : zI 63 8 = some (.dup, []) := by decide +kernel
theorem zi_63_9 : zI 63 9 = some (.bipush 70, []) := by decide +kernel
theorem zi_63_11 : zI 63 11 = some (.invokespecial 11, [2, 2, 1, 0, 205, 0, 19, 204, 0, 328]) := by decide +kernel
theorem zi_63_14 : zI 63 14 = some (.putfield 14, [3, 0, 1, 329]) := by decide +kernel
theorem zi_63_17 : zI 63 17 = some (.aload_n 0, []) := by decide +kernel
theorem zi_63_18 : zI 63 18 = some (.new 9, [1, 327, 202, 19, 1]) := by decide +kernel
theorem zi_63_21 : zI 63 21 = some (.dup, []) := by decide +kernel
theorem zi_63_22 : zI 63 22 = some (.bipush 70, []) := by decide +kernel
theorem zi_63_24 : zI 63 24 = some (.invokespecial 11, [2, 2, 1, 0, 205, 0, 19, 204, 0, 328]) := by decide +kernel
theorem zi_63_27 : zI 63 27 = some (.putfield 20, [3, 1, 1, 330]) := by decide +kernel
theorem zi_63_30 : zI 63 30 = some (.aload_n 0, []) := by decide +kernel
theorem zi_63_31 : zI 63 31 = some (.new 9, [1, 327, 202, 19, 1]) := by decide +kernel
theorem zi_63_34 : zI 63 34 = some (.dup, []) := by decide +kernel
theorem zi_63_35 : zI 63 35 = some (.bipush 70, []) := by decide +kernel
theorem zi_63_37 : zI 63 37 = some (.invokespecial 11, [2, 2, 1, 0, 205, 0, 19, 204, 0, 328]) := by decide +kernel
theorem zi_63_40 : zI 63 40 = some (.putfield 23, [3, 2, 1, 331]) := by decide +kernel
theorem zi_63_43 : zI 63 43 = some (.aload_n 0, []) := by decide +kernel
theorem zi_63_44 : zI 63 44 = some (.new 9, [1, 327, 202, 19, 1]) := by decide +kernel
theorem zi_63_47 : zI 63 47 = some (.dup, []) := by decide +kernel
theorem zi_63_48 : zI 63 48 = some (.bipush 70, []) := by decide +kernel
theorem zi_63_50 : zI 63 50 = some (.invokespecial 11, [2, 2, 1, 0, 205, 0, 19, 204, 0, 328]) := by decide +kernel
theorem zi_63_53 : zI 63 53 = some (.putfield 26, [3, 3, 1, 332]) := by decide +kernel
theorem zi_63_56 : zI 63 56 = some (.aload_n 0, []) := by decide +kernel
theorem zi_63_57 : zI 63 57 = some (.new 9, [1, 327, 202, 19, 1]) := by decide +kernel
theorem zi_63_60 : zI 63 60 = some (.dup, []) := by decide +kernel
theorem zi_63_61 : zI 63 61 = some (.bipush 70, []) := by decide +kernel
theorem zi_63_63 : zI 63 63 = some (.invokespecial 11, [2, 2, 1, 0, 205, 0, 19, 204, 0, 328]) := by decide +kernel
theorem zi_63_66 : zI 63 66 = some (.putfield 29, [3, 4, 1, 333]) := by decide +kernel
theorem zi_63_69 : zI 63 69 = some (.aload_n 0, []) := by decide +kernel
theorem zi_63_70 : zI 63 70 = some (.new 9, [1, 327, 202, 19, 1]) := by decide +kernel
theorem zi_63_73 : zI 63 73 = some (.dup, []) := by decide +kernel
theorem zi_63_74 : zI 63 74 = some (.bipush 70, []) := by decide +kernel
theorem zi_63_76 : zI 63 76 = some (.invokespecial 11, [2, 2, 1, 0, 205, 0, 19, 204, 0, 328]) := by decide +kernel
theorem zi_63_79 : zI 63 79 = some (.putfield 32, [3, 5, 1, 334]) := by decide +kernel
theorem zi_63_82 : zI 63 82 = some (.aload_n 0, []) := by decide +kernel
theorem zi_63_83 : zI 63 83 = some (.new 9, [1, 327, 202, 19, 1]) := by decide +kernel
theorem zi_63_86 : zI 63 86 = some (.dup, []) := by decide +kernel
theorem zi_63_87 : zI 63 87 = some (.bipush 70, []) := by decide +kernel
theorem zi_63_89 : zI 63 89 = some (.invokespecial 11, [2, 2, 1, 0, 205, 0, 19, 204, 0, 328]) := by decide +kernel
theorem zi_63_92 : zI 63 92 = some (.putfield 35, [3, 6, 1, 146]) := by decide +kernel
theorem zi_63_95 : zI 63 95 = some (.aload_n 0, []) := by decide +kernel
theorem zi_63_96 : zI 63 96 = some (.new 9, [1, 327, 202, 19, 1]) := by decide +kernel
theorem zi_63_99 : zI 63 99 = some (.dup, []) := by decide +kernel
theorem zi_63_100 : zI 63 100 = some (.bipush 70, []) := by decide +kernel
theorem zi_63_102 : zI 63 102 = some (.invokespecial 11, [2, 2, 1, 0, 205, 0, 19, 204, 0, 328]) := by decide +kernel
theorem zi_63_105 : zI 63 105 = some (.putfield 38, [3, 7, 1, 145]) := by decide +kernel
theorem zi_63_108 : zI 63 108 = some (.return_, []) := by decide +kernel
theorem zi_74_0 : zI 74 0 = some (.aload_n 0, []) := by decide +kernel
theorem zi_74_1 : zI 74 1 = some (.invokespecial 3, [0, 5, 364, 2, 3]) := by decide +kernel
theorem zi_74_4 : zI 74 4 = some (.aload_n 0, []) := by decide +kernel
theorem zi_74_5 : zI 74 5 = some (.new 9, [1, 365, 202, 19, 1]) := by decide +kernel
theorem zi_74_8 : zI 74 8 = some (.dup, []) := by decide +kernel
theorem zi_74_9 : zI 74 9 = some (.bipush 23, []) := by decide +kernel
theorem zi_74_11 : zI 74 11 = some (.invokespecial 11, [2, 2, 1, 0, 205, 0, 19, 204, 0, 366]) := by decide +kernel
theorem zi_74_14 : zI 74 14 = some (.putfield 14, [4, 0, 1, 367]) := by decide +kernel
theorem zi_74_17 : zI 74 17 = some (.aload_n 0, []) := by decide +kernel
theorem zi_74_18 : zI 74 18 = some (.new 9, [1, 365, 202, 19, 1]) := by decide +kernel
theorem zi_74_21 : zI 74 21 = some (.dup, []) := by decide +kernel
theorem zi_74_22 : zI 74 22 = some (.bipush 23, []) := by decide +kernel
theorem zi_74_24 : zI 74 24 = some (.invokespecial 11, [2, 2, 1, 0, 205, 0, 19, 204, 0, 366]) := by decide +kernel
theorem zi_74_27 : zI 74 27 = some (.putfield 20, [4, 1, 1, 368]) := by decide +kernel
theorem zi_74_30 : zI 74 30 = some (.aload_n 0, []) := by decide +kernel
theorem zi_74_31 : zI 74 31 = some (.new 9, [1, 365, 202, 19, 1]) := by decide +kernel
theorem zi_74_34 : zI 74 34 = some (.dup, []) := by decide +kernel
theorem zi_74_35 : zI 74 35 = some (.bipush 23, []) := by decide +kernel
theorem zi_74_37 : zI 74 37 = some (.invokespecial 11, [2, 2, 1, 0, 205, 0, 19, 204, 0, 366]) := by decide +kernel
theorem zi_74_40 : zI 74 40 = some (.putfield 23, [4, 2, 1, 369]) := by decide +kernel
theorem zi_74_43 : zI 74 43 = some (.aload_n 0, []) := by decide +kernel
theorem zi_74_44 : zI 74 44 = some (.new 9, [1, 365, 202, 19, 1]) := by decide +kernel
theorem zi_74_47 : zI 74 47 = some (.dup, []) := by decide +kernel
theorem zi_74_48 : zI 74 48 = some (.bipush 20, []) := by decide +kernel
theorem zi_74_50 : zI 74 50 = some (.invokespecial 11, [2, 2, 1, 0, 205, 0, 19, 204, 0, 366]) := by decide +kernel
theorem zi_74_53 : zI 74 53 = some (.putfield 26, [4, 3, 1, 370]) := by decide +kernel
theorem zi_74_56 : zI 74 56 = some (.return_, []) := by decide +kernel
/-! a new Nightjar -/
section
variable {y pc pc' : Nat} {Lc : zL} {st : List Value} {h0 L L' : zH} {r : zR} {ax : List Nat}
theorem ai_new {ix ci q1 q2 q3 n : Nat} {ds : List Nat} {fs : List Value} (hI : zI y pc = some (.new ix, ci :: q1 :: q2 :: q3 :: ds)) (hd : zdef ds = fs) (hL : L ++ [.inr (ci, fs)] = L') (hn : L.length = n) (hp : pc + 3 = pc') (k : zruns zTB y pc' Lc (.ref (h0.length + n) :: st) (h0 ++ L') r) : zruns zTB y pc Lc st (h0 ++ L) r := by
  refine zr_new hI hd (n := h0.length + n) (by rw [List.length_append, hn]) hp ?_
  rw [List.append_assoc, hL]
  exact k
theorem ai_put {ix i ci f kd : Nat} {fs : List Value} {v : Value} (hI : zI y pc = some (.putfield ix, ci :: f :: kd :: ax)) (hi : 1 ≤ h0.length) (hh : L[i]? = some (.inr (ci, fs))) (hf : f < fs.length) (hk : zfits kd v = true) (hL : L.set i (.inr (ci, fs.set f v)) = L') (hp : pc + 3 = pc') (k : zruns zTB y pc' Lc st (h0 ++ L') r) : zruns zTB y pc Lc (v :: .ref (h0.length + i) :: st) (h0 ++ L) r := by
  refine zr_put hI (by omega) (fs := fs) ?_ hf hk hp ?_ k
  · rw [List.getElem?_append_right (by omega), Nat.add_sub_cancel_left]
    exact hh
  · rw [List.set_append_right _ _ (by omega), Nat.add_sub_cancel_left, hL]
theorem c_rowinit (H : zH) (o n : Nat) (v : Value) (ho : 1 ≤ o) (hn0 : 0 < n) (hn : n ≤ 10000) (hh : H[o]? = some (.inr (1, [v]))) : zcalls zTB 2 [.ref o, .int (nI n)] H (none, (H ++ [(.inl (0, n, .inl fun _ => 0) : zE)]).set o (.inr (1, [.ref H.length]))) := by
  have hol : o < H.length := (List.getElem?_eq_some_iff.mp hh).1
  refine zcalls_of (Nat.le_of_ble_eq_true rfl) ?_
  show zruns zTB 2 0 [some (.ref o), some (.int (nI n))] [] _ _
  refine zr_aload_n (pc' := 1) zi_2_0 rfl rfl ?_
  refine zr_objinit (pc' := 4) zi_2_1 rfl rfl ?_
  refine zr_aload_n (pc' := 5) zi_2_4 rfl rfl ?_
  refine zr_iload_n (pc' := 6) zi_2_5 rfl rfl ?_
  refine zr_if (pc' := 9) zi_2_6 rfl (fun h6 => ?_) (fun h6 => ?_)
  · exact absurd (zx_le_t h6) (nI_nle hn0 (by omega))
  refine zr_iload_n (pc' := 10) zi_2_9 rfl rfl ?_
  refine zr_goto zi_2_10 ?_
  refine zr_newa (pc' := 16) zi_2_14 (nI_pos (by omega)) (nI_clamp (by omega)) hn rfl rfl ?_
  refine zr_put (pc' := 19) (fs := [v]) zi_2_16 ho ?_ (Nat.le_of_ble_eq_true rfl) rfl rfl rfl ?_
  · rw [List.getElem?_append_left hol]
    exact hh
  · exact zr_return zi_2_19 rfl
theorem ai_row {ix i n c0 m : Nat} {v : Value} (hI : zI y pc = some (.invokespecial ix, 2 :: 2 :: 1 :: c0 :: ax)) (hi : 1 ≤ h0.length) (hn0 : 0 < n) (hn : n ≤ 10000) (hh : L[i]? = some (.inr (1, [v]))) (hs : zcat8 (.ref (h0.length + i) :: st) = true) (hm : L.length = m) (hL : (L ++ [(.inl (0, n, .inl fun _ => 0) : zE)]).set i (.inr (1, [.ref (h0.length + m)])) = L') (hp : pc + 3 = pc') (k : zruns zTB y pc' Lc st (h0 ++ L') r) : zruns zTB y pc Lc (.int (nI n) :: .ref (h0.length + i) :: st) (h0 ++ L) r := by
  have hc := c_rowinit (h0 ++ L) (h0.length + i) n v (by omega) hn0 hn (by rw [List.getElem?_append_right (by omega), Nat.add_sub_cancel_left]; exact hh)
  rw [List.length_append, hm, List.append_assoc, List.set_append_right _ _ (by omega), Nat.add_sub_cancel_left, hL] at hc
  exact zr_i1 hI hs hc hp k
theorem ai_sub {ix y' c0 n : Nat} {e : zE} {M : Nat → zH} (hI : zI y pc = some (.invokespecial ix, y' :: 2 :: 0 :: c0 :: ax)) (hn : (L.take n).length = n) (hs : zcat8 (.ref (h0.length + n) :: st) = true) (hc : ∀ H : zH, 1 ≤ H.length → zcalls zTB y' [.ref H.length] (H ++ [e]) (none, H ++ M H.length)) (hLe : L.take n ++ [e] = L) (hL : L.take n ++ M (h0.length + n) = L') (hp : pc + 3 = pc') (hi : 1 ≤ h0.length) (k : zruns zTB y pc' Lc st (h0 ++ L') r) : zruns zTB y pc Lc (.ref (h0.length + n) :: st) (h0 ++ L) r := by
  have h2 := hc (h0 ++ L.take n) (by rw [List.length_append]; omega)
  rw [List.length_append, hn, List.append_assoc, List.append_assoc, hLe, hL] at h2
  exact zr_i0 hI hs h2 hp k
end
def m_lines (b : Nat) : zH := [.inr (0, [.ref (b + 1), .ref (b + 3), .ref (b + 5), .ref (b + 7), .ref (b + 9), .ref (b + 11), .ref (b + 13), .int 0, .int 0]), .inr (1, [.ref (b + 2)]), .inl (0, 70, .inl fun _ => 0), .inr (1, [.ref (b + 4)]), .inl (0, 70, .inl fun _ => 0), .inr (1, [.ref (b + 6)]), .inl (0, 70, .inl fun _ => 0), .inr (1, [.ref (b + 8)]), .inl (0, 70, .inl fun _ => 0), .inr (1, [.ref (b + 10)]), .inl (0, 560, .inl fun _ => 0), .inr (1, [.ref (b + 12)]), .inl (0, 70, .inl fun _ => 0), .inr (1, [.ref (b + 14)]), .inl (0, 70, .inl fun _ => 0)]
def m_templates (b : Nat) : zH := [.inr (5, [.ref (b + 1), .ref (b + 3), .int 0]), .inr (1, [.ref (b + 2)]), .inl (0, 20, .inl fun _ => 0), .inr (1, [.ref (b + 4)]), .inl (0, 160, .inl fun _ => 0)]
def m_sessions (b : Nat) : zH := [.inr (3, [.ref (b + 1), .ref (b + 3), .ref (b + 5), .ref (b + 7), .ref (b + 9), .ref (b + 11), .ref (b + 13), .ref (b + 15), .int 0]), .inr (1, [.ref (b + 2)]), .inl (0, 70, .inl fun _ => 0), .inr (1, [.ref (b + 4)]), .inl (0, 70, .inl fun _ => 0), .inr (1, [.ref (b + 6)]), .inl (0, 70, .inl fun _ => 0), .inr (1, [.ref (b + 8)]), .inl (0, 70, .inl fun _ => 0), .inr (1, [.ref (b + 10)]), .inl (0, 70, .inl fun _ => 0), .inr (1, [.ref (b + 12)]), .inl (0, 70, .inl fun _ => 0), .inr (1, [.ref (b + 14)]), .inl (0, 70, .inl fun _ => 0), .inr (1, [.ref (b + 16)]), .inl (0, 70, .inl fun _ => 0)]
def m_spikes (b : Nat) : zH := [.inr (4, [.ref (b + 1), .ref (b + 3), .ref (b + 5), .ref (b + 7), .int 0]), .inr (1, [.ref (b + 2)]), .inl (0, 23, .inl fun _ => 0), .inr (1, [.ref (b + 4)]), .inl (0, 23, .inl fun _ => 0), .inr (1, [.ref (b + 6)]), .inl (0, 23, .inl fun _ => 0), .inr (1, [.ref (b + 8)]), .inl (0, 20, .inl fun _ => 0)]
def m_scenes (b : Nat) : zH := [.inr (2, [.ref (b + 1), .ref (b + 3), .ref (b + 5), .ref (b + 7), .ref (b + 9), .ref (b + 11), .ref (b + 13), .ref (b + 15)]), .inr (1, [.ref (b + 2)]), .inl (0, 70, .inl fun _ => 0), .inr (1, [.ref (b + 4)]), .inl (0, 70, .inl fun _ => 0), .inr (1, [.ref (b + 6)]), .inl (0, 400, .inl fun _ => 0), .inr (1, [.ref (b + 8)]), .inl (0, 20, .inl fun _ => 0), .inr (1, [.ref (b + 10)]), .inl (0, 20, .inl fun _ => 0), .inr (1, [.ref (b + 12)]), .inl (0, 400, .inl fun _ => 0), .inr (1, [.ref (b + 14)]), .inl (0, 400, .inl fun _ => 0), .inr (1, [.ref (b + 16)]), .inl (0, 20, .inl fun _ => 0)]
section
theorem c_X0_init {e : zE} (he : e = .inr (0, [.null, .null, .null, .null, .null, .null, .null, .int 0, .int 0])) (h0 : zH) (hi : 1 ≤ h0.length) : zcalls zTB 47 [.ref h0.length] (h0 ++ [e]) (none, h0 ++ m_lines h0.length) := by
  subst he
  refine zcalls_of (Nat.le_of_ble_eq_true rfl) ?_
  show zruns zTB 47 0 [some (.ref (h0.length + 0))] [] _ _
  refine zr_aload_n (pc' := 1) zi_47_0 rfl rfl ?_
  refine zr_objinit (pc' := 4) zi_47_1 rfl rfl ?_
  refine zr_aload_n (pc' := 5) zi_47_4 rfl rfl ?_
  refine ai_new (L' := [.inr (0, [.null, .null, .null, .null, .null, .null, .null, .int 0, .int 0]), .inr (1, [.null])]) (pc' := 8) zi_47_5 rfl rfl rfl rfl ?_
  refine zr_dup (pc' := 9) zi_47_8 rfl rfl ?_
  refine zr_bipush (v := (nI 70)) (pc' := 11) zi_47_9 rfl rfl ?_
  refine ai_row (L' := [.inr (0, [.null, .null, .null, .null, .null, .null, .null, .int 0, .int 0]), .inr (1, [.ref (h0.length + 2)]), .inl (0, 70, .inl fun _ => 0)]) (pc' := 14) zi_47_11 hi (by omega) (by omega) rfl rfl rfl rfl rfl ?_
  refine ai_put (L' := [.inr (0, [.ref (h0.length + 1), .null, .null, .null, .null, .null, .null, .int 0, .int 0]), .inr (1, [.ref (h0.length + 2)]), .inl (0, 70, .inl fun _ => 0)]) (pc' := 17) zi_47_14 hi rfl (Nat.le_of_ble_eq_true rfl) rfl rfl rfl ?_
  refine zr_aload_n (pc' := 18) zi_47_17 rfl rfl ?_
  refine ai_new (L' := [.inr (0, [.ref (h0.length + 1), .null, .null, .null, .null, .null, .null, .int 0, .int 0]), .inr (1, [.ref (h0.length + 2)]), .inl (0, 70, .inl fun _ => 0), .inr (1, [.null])]) (pc' := 21) zi_47_18 rfl rfl rfl rfl ?_
  refine zr_dup (pc' := 22) zi_47_21 rfl rfl ?_
  refine zr_bipush (v := (nI 70)) (pc' := 24) zi_47_22 rfl rfl ?_
  refine ai_row (L' := [.inr (0, [.ref (h0.length + 1), .null, .null, .null, .null, .null, .null, .int 0, .int 0]), .inr (1, [.ref (h0.length + 2)]), .inl (0, 70, .inl fun _ => 0), .inr (1, [.ref (h0.length + 4)]), .inl (0, 70, .inl fun _ => 0)]) (pc' := 27) zi_47_24 hi (by omega) (by omega) rfl rfl rfl rfl rfl ?_
  refine ai_put (L' := [.inr (0, [.ref (h0.length + 1), .ref (h0.length + 3), .null, .null, .null, .null, .null, .int 0, .int 0]), .inr (1, [.ref (h0.length + 2)]), .inl (0, 70, .inl fun _ => 0), .inr (1, [.ref (h0.length + 4)]), .inl (0, 70, .inl fun _ => 0)]) (pc' := 30) zi_47_27 hi rfl (Nat.le_of_ble_eq_true rfl) rfl rfl rfl ?_
  refine zr_aload_n (pc' := 31) zi_47_30 rfl rfl ?_
  refine ai_new (L' := [.inr (0, [.ref (h0.length + 1), .ref (h0.length + 3), .null, .null, .null, .null, .null, .int 0, .int 0]), .inr (1, [.ref (h0.length + 2)]), .inl (0, 70, .inl fun _ => 0), .inr (1, [.ref (h0.length + 4)]), .inl (0, 70, .inl fun _ => 0), .inr (1, [.null])]) (pc' := 34) zi_47_31 rfl rfl rfl rfl ?_
  refine zr_dup (pc' := 35) zi_47_34 rfl rfl ?_
  refine zr_bipush (v := (nI 70)) (pc' := 37) zi_47_35 rfl rfl ?_
  refine ai_row (L' := [.inr (0, [.ref (h0.length + 1), .ref (h0.length + 3), .null, .null, .null, .null, .null, .int 0, .int 0]), .inr (1, [.ref (h0.length + 2)]), .inl (0, 70, .inl fun _ => 0), .inr (1, [.ref (h0.length + 4)]), .inl (0, 70, .inl fun _ => 0), .inr (1, [.ref (h0.length + 6)]), .inl (0, 70, .inl fun _ => 0)]) (pc' := 40) zi_47_37 hi (by omega) (by omega) rfl rfl rfl rfl rfl ?_
  refine ai_put (L' := [.inr (0, [.ref (h0.length + 1), .ref (h0.length + 3), .ref (h0.length + 5), .null, .null, .null, .null, .int 0, .int 0]), .inr (1, [.ref (h0.length + 2)]), .inl (0, 70, .inl fun _ => 0), .inr (1, [.ref (h0.length + 4)]), .inl (0, 70, .inl fun _ => 0), .inr (1, [.ref (h0.length + 6)]), .inl (0, 70, .inl fun _ => 0)]) (pc' := 43) zi_47_40 hi rfl (Nat.le_of_ble_eq_true rfl) rfl rfl rfl ?_
  refine zr_aload_n (pc' := 44) zi_47_43 rfl rfl ?_
  refine ai_new (L' := [.inr (0, [.ref (h0.length + 1), .ref (h0.length + 3), .ref (h0.length + 5), .null, .null, .null, .null, .int 0, .int 0]), .inr (1, [.ref (h0.length + 2)]), .inl (0, 70, .inl fun _ => 0), .inr (1, [.ref (h0.length + 4)]), .inl (0, 70, .inl fun _ => 0), .inr (1, [.ref (h0.length + 6)]), .inl (0, 70, .inl fun _ => 0), .inr (1, [.null])]) (pc' := 47) zi_47_44 rfl rfl rfl rfl ?_
  refine zr_dup (pc' := 48) zi_47_47 rfl rfl ?_
  refine zr_bipush (v := (nI 70)) (pc' := 50) zi_47_48 rfl rfl ?_
  refine ai_row (L' := [.inr (0, [.ref (h0.length + 1), .ref (h0.length + 3), .ref (h0.length + 5), .null, .null, .null, .null, .int 0, .int 0]), .inr (1, [.ref (h0.length + 2)]), .inl (0, 70, .inl fun _ => 0), .inr (1, [.ref (h0.length + 4)]), .inl (0, 70, .inl fun _ => 0), .inr (1, [.ref (h0.length + 6)]), .inl (0, 70, .inl fun _ => 0), .inr (1, [.ref (h0.length + 8)]), .inl (0, 70, .inl fun _ => 0)]) (pc' := 53) zi_47_50 hi (by omega) (by omega) rfl rfl rfl rfl rfl ?_
  refine ai_put (L' := [.inr (0, [.ref (h0.length + 1), .ref (h0.length + 3), .ref (h0.length + 5), .ref (h0.length + 7), .null, .null, .null, .int 0, .int 0]), .inr (1, [.ref (h0.length + 2)]), .inl (0, 70, .inl fun _ => 0), .inr (1, [.ref (h0.length + 4)]), .inl (0, 70, .inl fun _ => 0), .inr (1, [.ref (h0.length + 6)]), .inl (0, 70, .inl fun _ => 0), .inr (1, [.ref (h0.length + 8)]), .inl (0, 70, .inl fun _ => 0)]) (pc' := 56) zi_47_53 hi rfl (Nat.le_of_ble_eq_true rfl) rfl rfl rfl ?_
  refine zr_aload_n (pc' := 57) zi_47_56 rfl rfl ?_
  refine ai_new (L' := [.inr (0, [.ref (h0.length + 1), .ref (h0.length + 3), .ref (h0.length + 5), .ref (h0.length + 7), .null, .null, .null, .int 0, .int 0]), .inr (1, [.ref (h0.length + 2)]), .inl (0, 70, .inl fun _ => 0), .inr (1, [.ref (h0.length + 4)]), .inl (0, 70, .inl fun _ => 0), .inr (1, [.ref (h0.length + 6)]), .inl (0, 70, .inl fun _ => 0), .inr (1, [.ref (h0.length + 8)]), .inl (0, 70, .inl fun _ => 0), .inr (1, [.null])]) (pc' := 60) zi_47_57 rfl rfl rfl rfl ?_
  refine zr_dup (pc' := 61) zi_47_60 rfl rfl ?_
  refine zr_sipush (v := (nI 560)) (pc' := 64) zi_47_61 rfl rfl ?_
  refine ai_row (L' := [.inr (0, [.ref (h0.length + 1), .ref (h0.length + 3), .ref (h0.length + 5), .ref (h0.length + 7), .null, .null, .null, .int 0, .int 0]), .inr (1, [.ref (h0.length + 2)]), .inl (0, 70, .inl fun _ => 0), .inr (1, [.ref (h0.length + 4)]), .inl (0, 70, .inl fun _ => 0), .inr (1, [.ref (h0.length + 6)]), .inl (0, 70, .inl fun _ => 0), .inr (1, [.ref (h0.length + 8)]), .inl (0, 70, .inl fun _ => 0), .inr (1, [.ref (h0.length + 10)]), .inl (0, 560, .inl fun _ => 0)]) (pc' := 67) zi_47_64 hi (by omega) (by omega) rfl rfl rfl rfl rfl ?_
  refine ai_put (L' := [.inr (0, [.ref (h0.length + 1), .ref (h0.length + 3), .ref (h0.length + 5), .ref (h0.length + 7), .ref (h0.length + 9), .null, .null, .int 0, .int 0]), .inr (1, [.ref (h0.length + 2)]), .inl (0, 70, .inl fun _ => 0), .inr (1, [.ref (h0.length + 4)]), .inl (0, 70, .inl fun _ => 0), .inr (1, [.ref (h0.length + 6)]), .inl (0, 70, .inl fun _ => 0), .inr (1, [.ref (h0.length + 8)]), .inl (0, 70, .inl fun _ => 0), .inr (1, [.ref (h0.length + 10)]), .inl (0, 560, .inl fun _ => 0)]) (pc' := 70) zi_47_67 hi rfl (Nat.le_of_ble_eq_true rfl) rfl rfl rfl ?_
  refine zr_aload_n (pc' := 71) zi_47_70 rfl rfl ?_
  refine ai_new (L' := [.inr (0, [.ref (h0.length + 1), .ref (h0.length + 3), .ref (h0.length + 5), .ref (h0.length + 7), .ref (h0.length + 9), .null, .null, .int 0, .int 0]), .inr (1, [.ref (h0.length + 2)]), .inl (0, 70, .inl fun _ => 0), .inr (1, [.ref (h0.length + 4)]), .inl (0, 70, .inl fun _ => 0), .inr (1, [.ref (h0.length + 6)]), .inl (0, 70, .inl fun _ => 0), .inr (1, [.ref (h0.length + 8)]), .inl (0, 70, .inl fun _ => 0), .inr (1, [.ref (h0.length + 10)]), .inl (0, 560, .inl fun _ => 0), .inr (1, [.null])]) (pc' := 74) zi_47_71 rfl rfl rfl rfl ?_
  refine zr_dup (pc' := 75) zi_47_74 rfl rfl ?_
  refine zr_bipush (v := (nI 70)) (pc' := 77) zi_47_75 rfl rfl ?_
  refine ai_row (L' := [.inr (0, [.ref (h0.length + 1), .ref (h0.length + 3), .ref (h0.length + 5), .ref (h0.length + 7), .ref (h0.length + 9), .null, .null, .int 0, .int 0]), .inr (1, [.ref (h0.length + 2)]), .inl (0, 70, .inl fun _ => 0), .inr (1, [.ref (h0.length + 4)]), .inl (0, 70, .inl fun _ => 0), .inr (1, [.ref (h0.length + 6)]), .inl (0, 70, .inl fun _ => 0), .inr (1, [.ref (h0.length + 8)]), .inl (0, 70, .inl fun _ => 0), .inr (1, [.ref (h0.length + 10)]), .inl (0, 560, .inl fun _ => 0), .inr (1, [.ref (h0.length + 12)]), .inl (0, 70, .inl fun _ => 0)]) (pc' := 80) zi_47_77 hi (by omega) (by omega) rfl rfl rfl rfl rfl ?_
  refine ai_put (L' := [.inr (0, [.ref (h0.length + 1), .ref (h0.length + 3), .ref (h0.length + 5), .ref (h0.length + 7), .ref (h0.length + 9), .ref (h0.length + 11), .null, .int 0, .int 0]), .inr (1, [.ref (h0.length + 2)]), .inl (0, 70, .inl fun _ => 0), .inr (1, [.ref (h0.length + 4)]), .inl (0, 70, .inl fun _ => 0), .inr (1, [.ref (h0.length + 6)]), .inl (0, 70, .inl fun _ => 0), .inr (1, [.ref (h0.length + 8)]), .inl (0, 70, .inl fun _ => 0), .inr (1, [.ref (h0.length + 10)]), .inl (0, 560, .inl fun _ => 0), .inr (1, [.ref (h0.length + 12)]), .inl (0, 70, .inl fun _ => 0)]) (pc' := 83) zi_47_80 hi rfl (Nat.le_of_ble_eq_true rfl) rfl rfl rfl ?_
  refine zr_aload_n (pc' := 84) zi_47_83 rfl rfl ?_
  refine ai_new (L' := [.inr (0, [.ref (h0.length + 1), .ref (h0.length + 3), .ref (h0.length + 5), .ref (h0.length + 7), .ref (h0.length + 9), .ref (h0.length + 11), .null, .int 0, .int 0]), .inr (1, [.ref (h0.length + 2)]), .inl (0, 70, .inl fun _ => 0), .inr (1, [.ref (h0.length + 4)]), .inl (0, 70, .inl fun _ => 0), .inr (1, [.ref (h0.length + 6)]), .inl (0, 70, .inl fun _ => 0), .inr (1, [.ref (h0.length + 8)]), .inl (0, 70, .inl fun _ => 0), .inr (1, [.ref (h0.length + 10)]), .inl (0, 560, .inl fun _ => 0), .inr (1, [.ref (h0.length + 12)]), .inl (0, 70, .inl fun _ => 0), .inr (1, [.null])]) (pc' := 87) zi_47_84 rfl rfl rfl rfl ?_
  refine zr_dup (pc' := 88) zi_47_87 rfl rfl ?_
  refine zr_bipush (v := (nI 70)) (pc' := 90) zi_47_88 rfl rfl ?_
  refine ai_row (L' := [.inr (0, [.ref (h0.length + 1), .ref (h0.length + 3), .ref (h0.length + 5), .ref (h0.length + 7), .ref (h0.length + 9), .ref (h0.length + 11), .null, .int 0, .int 0]), .inr (1, [.ref (h0.length + 2)]), .inl (0, 70, .inl fun _ => 0), .inr (1, [.ref (h0.length + 4)]), .inl (0, 70, .inl fun _ => 0), .inr (1, [.ref (h0.length + 6)]), .inl (0, 70, .inl fun _ => 0), .inr (1, [.ref (h0.length + 8)]), .inl (0, 70, .inl fun _ => 0), .inr (1, [.ref (h0.length + 10)]), .inl (0, 560, .inl fun _ => 0), .inr (1, [.ref (h0.length + 12)]), .inl (0, 70, .inl fun _ => 0), .inr (1, [.ref (h0.length + 14)]), .inl (0, 70, .inl fun _ => 0)]) (pc' := 93) zi_47_90 hi (by omega) (by omega) rfl rfl rfl rfl rfl ?_
  refine ai_put (L' := [.inr (0, [.ref (h0.length + 1), .ref (h0.length + 3), .ref (h0.length + 5), .ref (h0.length + 7), .ref (h0.length + 9), .ref (h0.length + 11), .ref (h0.length + 13), .int 0, .int 0]), .inr (1, [.ref (h0.length + 2)]), .inl (0, 70, .inl fun _ => 0), .inr (1, [.ref (h0.length + 4)]), .inl (0, 70, .inl fun _ => 0), .inr (1, [.ref (h0.length + 6)]), .inl (0, 70, .inl fun _ => 0), .inr (1, [.ref (h0.length + 8)]), .inl (0, 70, .inl fun _ => 0), .inr (1, [.ref (h0.length + 10)]), .inl (0, 560, .inl fun _ => 0), .inr (1, [.ref (h0.length + 12)]), .inl (0, 70, .inl fun _ => 0), .inr (1, [.ref (h0.length + 14)]), .inl (0, 70, .inl fun _ => 0)]) (pc' := 96) zi_47_93 hi rfl (Nat.le_of_ble_eq_true rfl) rfl rfl rfl ?_
  exact zr_return zi_47_96 rfl
theorem c_X5_init {e : zE} (he : e = .inr (5, [.null, .null, .int 0])) (h0 : zH) (hi : 1 ≤ h0.length) : zcalls zTB 36 [.ref h0.length] (h0 ++ [e]) (none, h0 ++ m_templates h0.length) := by
  subst he
  refine zcalls_of (Nat.le_of_ble_eq_true rfl) ?_
  show zruns zTB 36 0 [some (.ref (h0.length + 0))] [] _ _
  refine zr_aload_n (pc' := 1) zi_36_0 rfl rfl ?_
  refine zr_objinit (pc' := 4) zi_36_1 rfl rfl ?_
  refine zr_aload_n (pc' := 5) zi_36_4 rfl rfl ?_
  refine ai_new (L' := [.inr (5, [.null, .null, .int 0]), .inr (1, [.null])]) (pc' := 8) zi_36_5 rfl rfl rfl rfl ?_
  refine zr_dup (pc' := 9) zi_36_8 rfl rfl ?_
  refine zr_bipush (v := (nI 20)) (pc' := 11) zi_36_9 rfl rfl ?_
  refine ai_row (L' := [.inr (5, [.null, .null, .int 0]), .inr (1, [.ref (h0.length + 2)]), .inl (0, 20, .inl fun _ => 0)]) (pc' := 14) zi_36_11 hi (by omega) (by omega) rfl rfl rfl rfl rfl ?_
  refine ai_put (L' := [.inr (5, [.ref (h0.length + 1), .null, .int 0]), .inr (1, [.ref (h0.length + 2)]), .inl (0, 20, .inl fun _ => 0)]) (pc' := 17) zi_36_14 hi rfl (Nat.le_of_ble_eq_true rfl) rfl rfl rfl ?_
  refine zr_aload_n (pc' := 18) zi_36_17 rfl rfl ?_
  refine ai_new (L' := [.inr (5, [.ref (h0.length + 1), .null, .int 0]), .inr (1, [.ref (h0.length + 2)]), .inl (0, 20, .inl fun _ => 0), .inr (1, [.null])]) (pc' := 21) zi_36_18 rfl rfl rfl rfl ?_
  refine zr_dup (pc' := 22) zi_36_21 rfl rfl ?_
  refine zr_sipush (v := (nI 160)) (pc' := 25) zi_36_22 rfl rfl ?_
  refine ai_row (L' := [.inr (5, [.ref (h0.length + 1), .null, .int 0]), .inr (1, [.ref (h0.length + 2)]), .inl (0, 20, .inl fun _ => 0), .inr (1, [.ref (h0.length + 4)]), .inl (0, 160, .inl fun _ => 0)]) (pc' := 28) zi_36_25 hi (by omega) (by omega) rfl rfl rfl rfl rfl ?_
  refine ai_put (L' := [.inr (5, [.ref (h0.length + 1), .ref (h0.length + 3), .int 0]), .inr (1, [.ref (h0.length + 2)]), .inl (0, 20, .inl fun _ => 0), .inr (1, [.ref (h0.length + 4)]), .inl (0, 160, .inl fun _ => 0)]) (pc' := 31) zi_36_28 hi rfl (Nat.le_of_ble_eq_true rfl) rfl rfl rfl ?_
  exact zr_return zi_36_31 rfl
theorem c_X3_init {e : zE} (he : e = .inr (3, [.null, .null, .null, .null, .null, .null, .null, .null, .int 0])) (h0 : zH) (hi : 1 ≤ h0.length) : zcalls zTB 63 [.ref h0.length] (h0 ++ [e]) (none, h0 ++ m_sessions h0.length) := by
  subst he
  refine zcalls_of (Nat.le_of_ble_eq_true rfl) ?_
  show zruns zTB 63 0 [some (.ref (h0.length + 0))] [] _ _
  refine zr_aload_n (pc' := 1) zi_63_0 rfl rfl ?_
  refine zr_objinit (pc' := 4) zi_63_1 rfl rfl ?_
  refine zr_aload_n (pc' := 5) zi_63_4 rfl rfl ?_
  refine ai_new (L' := [.inr (3, [.null, .null, .null, .null, .null, .null, .null, .null, .int 0]), .inr (1, [.null])]) (pc' := 8) zi_63_5 rfl rfl rfl rfl ?_
  refine zr_dup (pc' := 9) zi_63_8 rfl rfl ?_
  refine zr_bipush (v := (nI 70)) (pc' := 11) zi_63_9 rfl rfl ?_
  refine ai_row (L' := [.inr (3, [.null, .null, .null, .null, .null, .null, .null, .null, .int 0]), .inr (1, [.ref (h0.length + 2)]), .inl (0, 70, .inl fun _ => 0)]) (pc' := 14) zi_63_11 hi (by omega) (by omega) rfl rfl rfl rfl rfl ?_
  refine ai_put (L' := [.inr (3, [.ref (h0.length + 1), .null, .null, .null, .null, .null, .null, .null, .int 0]), .inr (1, [.ref (h0.length + 2)]), .inl (0, 70, .inl fun _ => 0)]) (pc' := 17) zi_63_14 hi rfl (Nat.le_of_ble_eq_true rfl) rfl rfl rfl ?_
  refine zr_aload_n (pc' := 18) zi_63_17 rfl rfl ?_
  refine ai_new (L' := [.inr (3, [.ref (h0.length + 1), .null, .null, .null, .null, .null, .null, .null, .int 0]), .inr (1, [.ref (h0.length + 2)]), .inl (0, 70, .inl fun _ => 0), .inr (1, [.null])]) (pc' := 21) zi_63_18 rfl rfl rfl rfl ?_
  refine zr_dup (pc' := 22) zi_63_21 rfl rfl ?_
  refine zr_bipush (v := (nI 70)) (pc' := 24) zi_63_22 rfl rfl ?_
  refine ai_row (L' := [.inr (3, [.ref (h0.length + 1), .null, .null, .null, .null, .null, .null, .null, .int 0]), .inr (1, [.ref (h0.length + 2)]), .inl (0, 70, .inl fun _ => 0), .inr (1, [.ref (h0.length + 4)]), .inl (0, 70, .inl fun _ => 0)]) (pc' := 27) zi_63_24 hi (by omega) (by omega) rfl rfl rfl rfl rfl ?_
  refine ai_put (L' := [.inr (3, [.ref (h0.length + 1), .ref (h0.length + 3), .null, .null, .null, .null, .null, .null, .int 0]), .inr (1, [.ref (h0.length + 2)]), .inl (0, 70, .inl fun _ => 0), .inr (1, [.ref (h0.length + 4)]), .inl (0, 70, .inl fun _ => 0)]) (pc' := 30) zi_63_27 hi rfl (Nat.le_of_ble_eq_true rfl) rfl rfl rfl ?_
  refine zr_aload_n (pc' := 31) zi_63_30 rfl rfl ?_
  refine ai_new (L' := [.inr (3, [.ref (h0.length + 1), .ref (h0.length + 3), .null, .null, .null, .null, .null, .null, .int 0]), .inr (1, [.ref (h0.length + 2)]), .inl (0, 70, .inl fun _ => 0), .inr (1, [.ref (h0.length + 4)]), .inl (0, 70, .inl fun _ => 0), .inr (1, [.null])]) (pc' := 34) zi_63_31 rfl rfl rfl rfl ?_
  refine zr_dup (pc' := 35) zi_63_34 rfl rfl ?_
  refine zr_bipush (v := (nI 70)) (pc' := 37) zi_63_35 rfl rfl ?_
  refine ai_row (L' := [.inr (3, [.ref (h0.length + 1), .ref (h0.length + 3), .null, .null, .null, .null, .null, .null, .int 0]), .inr (1, [.ref (h0.length + 2)]), .inl (0, 70, .inl fun _ => 0), .inr (1, [.ref (h0.length + 4)]), .inl (0, 70, .inl fun _ => 0), .inr (1, [.ref (h0.length + 6)]), .inl (0, 70, .inl fun _ => 0)]) (pc' := 40) zi_63_37 hi (by omega) (by omega) rfl rfl rfl rfl rfl ?_
  refine ai_put (L' := [.inr (3, [.ref (h0.length + 1), .ref (h0.length + 3), .ref (h0.length + 5), .null, .null, .null, .null, .null, .int 0]), .inr (1, [.ref (h0.length + 2)]), .inl (0, 70, .inl fun _ => 0), .inr (1, [.ref (h0.length + 4)]), .inl (0, 70, .inl fun _ => 0), .inr (1, [.ref (h0.length + 6)]), .inl (0, 70, .inl fun _ => 0)]) (pc' := 43) zi_63_40 hi rfl (Nat.le_of_ble_eq_true rfl) rfl rfl rfl ?_
  refine zr_aload_n (pc' := 44) zi_63_43 rfl rfl ?_
  refine ai_new (L' := [.inr (3, [.ref (h0.length + 1), .ref (h0.length + 3), .ref (h0.length + 5), .null, .null, .null, .null, .null, .int 0]), .inr (1, [.ref (h0.length + 2)]), .inl (0, 70, .inl fun _ => 0), .inr (1, [.ref (h0.length + 4)]), .inl (0, 70, .inl fun _ => 0), .inr (1, [.ref (h0.length + 6)]), .inl (0, 70, .inl fun _ => 0), .inr (1, [.null])]) (pc' := 47) zi_63_44 rfl rfl rfl rfl ?_
  refine zr_dup (pc' := 48) zi_63_47 rfl rfl ?_
  refine zr_bipush (v := (nI 70)) (pc' := 50) zi_63_48 rfl rfl ?_
  refine ai_row (L' := [.inr (3, [.ref (h0.length + 1), .ref (h0.length + 3), .ref (h0.length + 5), .null, .null, .null, .null, .null, .int 0]), .inr (1, [.ref (h0.length + 2)]), .inl (0, 70, .inl fun _ => 0), .inr (1, [.ref (h0.length + 4)]), .inl (0, 70, .inl fun _ => 0), .inr (1, [.ref (h0.length + 6)]), .inl (0, 70, .inl fun _ => 0), .inr (1, [.ref (h0.length + 8)]), .inl (0, 70, .inl fun _ => 0)]) (pc' := 53) zi_63_50 hi (by omega) (by omega) rfl rfl rfl rfl rfl ?_
  refine ai_put (L' := [.inr (3, [.ref (h0.length + 1), .ref (h0.length + 3), .ref (h0.length + 5), .ref (h0.length + 7), .null, .null, .null, .null, .int 0]), .inr (1, [.ref (h0.length + 2)]), .inl (0, 70, .inl fun _ => 0), .inr (1, [.ref (h0.length + 4)]), .inl (0, 70, .inl fun _ => 0), .inr (1, [.ref (h0.length + 6)]), .inl (0, 70, .inl fun _ => 0), .inr (1, [.ref (h0.length + 8)]), .inl (0, 70, .inl fun _ => 0)]) (pc' := 56) zi_63_53 hi rfl (Nat.le_of_ble_eq_true rfl) rfl rfl rfl ?_
  refine zr_aload_n (pc' := 57) zi_63_56 rfl rfl ?_
  refine ai_new (L' := [.inr (3, [.ref (h0.length + 1), .ref (h0.length + 3), .ref (h0.length + 5), .ref (h0.length + 7), .null, .null, .null, .null, .int 0]), .inr (1, [.ref (h0.length + 2)]), .inl (0, 70, .inl fun _ => 0), .inr (1, [.ref (h0.length + 4)]), .inl (0, 70, .inl fun _ => 0), .inr (1, [.ref (h0.length + 6)]), .inl (0, 70, .inl fun _ => 0), .inr (1, [.ref (h0.length + 8)]), .inl (0, 70, .inl fun _ => 0), .inr (1, [.null])]) (pc' := 60) zi_63_57 rfl rfl rfl rfl ?_
  refine zr_dup (pc' := 61) zi_63_60 rfl rfl ?_
  refine zr_bipush (v := (nI 70)) (pc' := 63) zi_63_61 rfl rfl ?_
  refine ai_row (L' := [.inr (3, [.ref (h0.length + 1), .ref (h0.length + 3), .ref (h0.length + 5), .ref (h0.length + 7), .null, .null, .null, .null, .int 0]), .inr (1, [.ref (h0.length + 2)]), .inl (0, 70, .inl fun _ => 0), .inr (1, [.ref (h0.length + 4)]), .inl (0, 70, .inl fun _ => 0), .inr (1, [.ref (h0.length + 6)]), .inl (0, 70, .inl fun _ => 0), .inr (1, [.ref (h0.length + 8)]), .inl (0, 70, .inl fun _ => 0), .inr (1, [.ref (h0.length + 10)]), .inl (0, 70, .inl fun _ => 0)]) (pc' := 66) zi_63_63 hi (by omega) (by omega) rfl rfl rfl rfl rfl ?_
  refine ai_put (L' := [.inr (3, [.ref (h0.length + 1), .ref (h0.length + 3), .ref (h0.length + 5), .ref (h0.length + 7), .ref (h0.length + 9), .null, .null, .null, .int 0]), .inr (1, [.ref (h0.length + 2)]), .inl (0, 70, .inl fun _ => 0), .inr (1, [.ref (h0.length + 4)]), .inl (0, 70, .inl fun _ => 0), .inr (1, [.ref (h0.length + 6)]), .inl (0, 70, .inl fun _ => 0), .inr (1, [.ref (h0.length + 8)]), .inl (0, 70, .inl fun _ => 0), .inr (1, [.ref (h0.length + 10)]), .inl (0, 70, .inl fun _ => 0)]) (pc' := 69) zi_63_66 hi rfl (Nat.le_of_ble_eq_true rfl) rfl rfl rfl ?_
  refine zr_aload_n (pc' := 70) zi_63_69 rfl rfl ?_
  refine ai_new (L' := [.inr (3, [.ref (h0.length + 1), .ref (h0.length + 3), .ref (h0.length + 5), .ref (h0.length + 7), .ref (h0.length + 9), .null, .null, .null, .int 0]), .inr (1, [.ref (h0.length + 2)]), .inl (0, 70, .inl fun _ => 0), .inr (1, [.ref (h0.length + 4)]), .inl (0, 70, .inl fun _ => 0), .inr (1, [.ref (h0.length + 6)]), .inl (0, 70, .inl fun _ => 0), .inr (1, [.ref (h0.length + 8)]), .inl (0, 70, .inl fun _ => 0), .inr (1, [.ref (h0.length + 10)]), .inl (0, 70, .inl fun _ => 0), .inr (1, [.null])]) (pc' := 73) zi_63_70 rfl rfl rfl rfl ?_
  refine zr_dup (pc' := 74) zi_63_73 rfl rfl ?_
  refine zr_bipush (v := (nI 70)) (pc' := 76) zi_63_74 rfl rfl ?_
  refine ai_row (L' := [.inr (3, [.ref (h0.length + 1), .ref (h0.length + 3), .ref (h0.length + 5), .ref (h0.length + 7), .ref (h0.length + 9), .null, .null, .null, .int 0]), .inr (1, [.ref (h0.length + 2)]), .inl (0, 70, .inl fun _ => 0), .inr (1, [.ref (h0.length + 4)]), .inl (0, 70, .inl fun _ => 0), .inr (1, [.ref (h0.length + 6)]), .inl (0, 70, .inl fun _ => 0), .inr (1, [.ref (h0.length + 8)]), .inl (0, 70, .inl fun _ => 0), .inr (1, [.ref (h0.length + 10)]), .inl (0, 70, .inl fun _ => 0), .inr (1, [.ref (h0.length + 12)]), .inl (0, 70, .inl fun _ => 0)]) (pc' := 79) zi_63_76 hi (by omega) (by omega) rfl rfl rfl rfl rfl ?_
  refine ai_put (L' := [.inr (3, [.ref (h0.length + 1), .ref (h0.length + 3), .ref (h0.length + 5), .ref (h0.length + 7), .ref (h0.length + 9), .ref (h0.length + 11), .null, .null, .int 0]), .inr (1, [.ref (h0.length + 2)]), .inl (0, 70, .inl fun _ => 0), .inr (1, [.ref (h0.length + 4)]), .inl (0, 70, .inl fun _ => 0), .inr (1, [.ref (h0.length + 6)]), .inl (0, 70, .inl fun _ => 0), .inr (1, [.ref (h0.length + 8)]), .inl (0, 70, .inl fun _ => 0), .inr (1, [.ref (h0.length + 10)]), .inl (0, 70, .inl fun _ => 0), .inr (1, [.ref (h0.length + 12)]), .inl (0, 70, .inl fun _ => 0)]) (pc' := 82) zi_63_79 hi rfl (Nat.le_of_ble_eq_true rfl) rfl rfl rfl ?_
  refine zr_aload_n (pc' := 83) zi_63_82 rfl rfl ?_
  refine ai_new (L' := [.inr (3, [.ref (h0.length + 1), .ref (h0.length + 3), .ref (h0.length + 5), .ref (h0.length + 7), .ref (h0.length + 9), .ref (h0.length + 11), .null, .null, .int 0]), .inr (1, [.ref (h0.length + 2)]), .inl (0, 70, .inl fun _ => 0), .inr (1, [.ref (h0.length + 4)]), .inl (0, 70, .inl fun _ => 0), .inr (1, [.ref (h0.length + 6)]), .inl (0, 70, .inl fun _ => 0), .inr (1, [.ref (h0.length + 8)]), .inl (0, 70, .inl fun _ => 0), .inr (1, [.ref (h0.length + 10)]), .inl (0, 70, .inl fun _ => 0), .inr (1, [.ref (h0.length + 12)]), .inl (0, 70, .inl fun _ => 0), .inr (1, [.null])]) (pc' := 86) zi_63_83 rfl rfl rfl rfl ?_
  refine zr_dup (pc' := 87) zi_63_86 rfl rfl ?_
  refine zr_bipush (v := (nI 70)) (pc' := 89) zi_63_87 rfl rfl ?_
  refine ai_row (L' := [.inr (3, [.ref (h0.length + 1), .ref (h0.length + 3), .ref (h0.length + 5), .ref (h0.length + 7), .ref (h0.length + 9), .ref (h0.length + 11), .null, .null, .int 0]), .inr (1, [.ref (h0.length + 2)]), .inl (0, 70, .inl fun _ => 0), .inr (1, [.ref (h0.length + 4)]), .inl (0, 70, .inl fun _ => 0), .inr (1, [.ref (h0.length + 6)]), .inl (0, 70, .inl fun _ => 0), .inr (1, [.ref (h0.length + 8)]), .inl (0, 70, .inl fun _ => 0), .inr (1, [.ref (h0.length + 10)]), .inl (0, 70, .inl fun _ => 0), .inr (1, [.ref (h0.length + 12)]), .inl (0, 70, .inl fun _ => 0), .inr (1, [.ref (h0.length + 14)]), .inl (0, 70, .inl fun _ => 0)]) (pc' := 92) zi_63_89 hi (by omega) (by omega) rfl rfl rfl rfl rfl ?_
  refine ai_put (L' := [.inr (3, [.ref (h0.length + 1), .ref (h0.length + 3), .ref (h0.length + 5), .ref (h0.length + 7), .ref (h0.length + 9), .ref (h0.length + 11), .ref (h0.length + 13), .null, .int 0]), .inr (1, [.ref (h0.length + 2)]), .inl (0, 70, .inl fun _ => 0), .inr (1, [.ref (h0.length + 4)]), .inl (0, 70, .inl fun _ => 0), .inr (1, [.ref (h0.length + 6)]), .inl (0, 70, .inl fun _ => 0), .inr (1, [.ref (h0.length + 8)]), .inl (0, 70, .inl fun _ => 0), .inr (1, [.ref (h0.length + 10)]), .inl (0, 70, .inl fun _ => 0), .inr (1, [.ref (h0.length + 12)]), .inl (0, 70, .inl fun _ => 0), .inr (1, [.ref (h0.length + 14)]), .inl (0, 70, .inl fun _ => 0)]) (pc' := 95) zi_63_92 hi rfl (Nat.le_of_ble_eq_true rfl) rfl rfl rfl ?_
  refine zr_aload_n (pc' := 96) zi_63_95 rfl rfl ?_
  refine ai_new (L' := [.inr (3, [.ref (h0.length + 1), .ref (h0.length + 3), .ref (h0.length + 5), .ref (h0.length + 7), .ref (h0.length + 9), .ref (h0.length + 11), .ref (h0.length + 13), .null, .int 0]), .inr (1, [.ref (h0.length + 2)]), .inl (0, 70, .inl fun _ => 0), .inr (1, [.ref (h0.length + 4)]), .inl (0, 70, .inl fun _ => 0), .inr (1, [.ref (h0.length + 6)]), .inl (0, 70, .inl fun _ => 0), .inr (1, [.ref (h0.length + 8)]), .inl (0, 70, .inl fun _ => 0), .inr (1, [.ref (h0.length + 10)]), .inl (0, 70, .inl fun _ => 0), .inr (1, [.ref (h0.length + 12)]), .inl (0, 70, .inl fun _ => 0), .inr (1, [.ref (h0.length + 14)]), .inl (0, 70, .inl fun _ => 0), .inr (1, [.null])]) (pc' := 99) zi_63_96 rfl rfl rfl rfl ?_
  refine zr_dup (pc' := 100) zi_63_99 rfl rfl ?_
  refine zr_bipush (v := (nI 70)) (pc' := 102) zi_63_100 rfl rfl ?_
  refine ai_row (L' := [.inr (3, [.ref (h0.length + 1), .ref (h0.length + 3), .ref (h0.length + 5), .ref (h0.length + 7), .ref (h0.length + 9), .ref (h0.length + 11), .ref (h0.length + 13), .null, .int 0]), .inr (1, [.ref (h0.length + 2)]), .inl (0, 70, .inl fun _ => 0), .inr (1, [.ref (h0.length + 4)]), .inl (0, 70, .inl fun _ => 0), .inr (1, [.ref (h0.length + 6)]), .inl (0, 70, .inl fun _ => 0), .inr (1, [.ref (h0.length + 8)]), .inl (0, 70, .inl fun _ => 0), .inr (1, [.ref (h0.length + 10)]), .inl (0, 70, .inl fun _ => 0), .inr (1, [.ref (h0.length + 12)]), .inl (0, 70, .inl fun _ => 0), .inr (1, [.ref (h0.length + 14)]), .inl (0, 70, .inl fun _ => 0), .inr (1, [.ref (h0.length + 16)]), .inl (0, 70, .inl fun _ => 0)]) (pc' := 105) zi_63_102 hi (by omega) (by omega) rfl rfl rfl rfl rfl ?_
  refine ai_put (L' := [.inr (3, [.ref (h0.length + 1), .ref (h0.length + 3), .ref (h0.length + 5), .ref (h0.length + 7), .ref (h0.length + 9), .ref (h0.length + 11), .ref (h0.length + 13), .ref (h0.length + 15), .int 0]), .inr (1, [.ref (h0.length + 2)]), .inl (0, 70, .inl fun _ => 0), .inr (1, [.ref (h0.length + 4)]), .inl (0, 70, .inl fun _ => 0), .inr (1, [.ref (h0.length + 6)]), .inl (0, 70, .inl fun _ => 0), .inr (1, [.ref (h0.length + 8)]), .inl (0, 70, .inl fun _ => 0), .inr (1, [.ref (h0.length + 10)]), .inl (0, 70, .inl fun _ => 0), .inr (1, [.ref (h0.length + 12)]), .inl (0, 70, .inl fun _ => 0), .inr (1, [.ref (h0.length + 14)]), .inl (0, 70, .inl fun _ => 0), .inr (1, [.ref (h0.length + 16)]), .inl (0, 70, .inl fun _ => 0)]) (pc' := 108) zi_63_105 hi rfl (Nat.le_of_ble_eq_true rfl) rfl rfl rfl ?_
  exact zr_return zi_63_108 rfl
theorem c_X4_init {e : zE} (he : e = .inr (4, [.null, .null, .null, .null, .int 0])) (h0 : zH) (hi : 1 ≤ h0.length) : zcalls zTB 74 [.ref h0.length] (h0 ++ [e]) (none, h0 ++ m_spikes h0.length) := by
  subst he
  refine zcalls_of (Nat.le_of_ble_eq_true rfl) ?_
  show zruns zTB 74 0 [some (.ref (h0.length + 0))] [] _ _
  refine zr_aload_n (pc' := 1) zi_74_0 rfl rfl ?_
  refine zr_objinit (pc' := 4) zi_74_1 rfl rfl ?_
  refine zr_aload_n (pc' := 5) zi_74_4 rfl rfl ?_
  refine ai_new (L' := [.inr (4, [.null, .null, .null, .null, .int 0]), .inr (1, [.null])]) (pc' := 8) zi_74_5 rfl rfl rfl rfl ?_
  refine zr_dup (pc' := 9) zi_74_8 rfl rfl ?_
  refine zr_bipush (v := (nI 23)) (pc' := 11) zi_74_9 rfl rfl ?_
  refine ai_row (L' := [.inr (4, [.null, .null, .null, .null, .int 0]), .inr (1, [.ref (h0.length + 2)]), .inl (0, 23, .inl fun _ => 0)]) (pc' := 14) zi_74_11 hi (by omega) (by omega) rfl rfl rfl rfl rfl ?_
  refine ai_put (L' := [.inr (4, [.ref (h0.length + 1), .null, .null, .null, .int 0]), .inr (1, [.ref (h0.length + 2)]), .inl (0, 23, .inl fun _ => 0)]) (pc' := 17) zi_74_14 hi rfl (Nat.le_of_ble_eq_true rfl) rfl rfl rfl ?_
  refine zr_aload_n (pc' := 18) zi_74_17 rfl rfl ?_
  refine ai_new (L' := [.inr (4, [.ref (h0.length + 1), .null, .null, .null, .int 0]), .inr (1, [.ref (h0.length + 2)]), .inl (0, 23, .inl fun _ => 0), .inr (1, [.null])]) (pc' := 21) zi_74_18 rfl rfl rfl rfl ?_
  refine zr_dup (pc' := 22) zi_74_21 rfl rfl ?_
  refine zr_bipush (v := (nI 23)) (pc' := 24) zi_74_22 rfl rfl ?_
  refine ai_row (L' := [.inr (4, [.ref (h0.length + 1), .null, .null, .null, .int 0]), .inr (1, [.ref (h0.length + 2)]), .inl (0, 23, .inl fun _ => 0), .inr (1, [.ref (h0.length + 4)]), .inl (0, 23, .inl fun _ => 0)]) (pc' := 27) zi_74_24 hi (by omega) (by omega) rfl rfl rfl rfl rfl ?_
  refine ai_put (L' := [.inr (4, [.ref (h0.length + 1), .ref (h0.length + 3), .null, .null, .int 0]), .inr (1, [.ref (h0.length + 2)]), .inl (0, 23, .inl fun _ => 0), .inr (1, [.ref (h0.length + 4)]), .inl (0, 23, .inl fun _ => 0)]) (pc' := 30) zi_74_27 hi rfl (Nat.le_of_ble_eq_true rfl) rfl rfl rfl ?_
  refine zr_aload_n (pc' := 31) zi_74_30 rfl rfl ?_
  refine ai_new (L' := [.inr (4, [.ref (h0.length + 1), .ref (h0.length + 3), .null, .null, .int 0]), .inr (1, [.ref (h0.length + 2)]), .inl (0, 23, .inl fun _ => 0), .inr (1, [.ref (h0.length + 4)]), .inl (0, 23, .inl fun _ => 0), .inr (1, [.null])]) (pc' := 34) zi_74_31 rfl rfl rfl rfl ?_
  refine zr_dup (pc' := 35) zi_74_34 rfl rfl ?_
  refine zr_bipush (v := (nI 23)) (pc' := 37) zi_74_35 rfl rfl ?_
  refine ai_row (L' := [.inr (4, [.ref (h0.length + 1), .ref (h0.length + 3), .null, .null, .int 0]), .inr (1, [.ref (h0.length + 2)]), .inl (0, 23, .inl fun _ => 0), .inr (1, [.ref (h0.length + 4)]), .inl (0, 23, .inl fun _ => 0), .inr (1, [.ref (h0.length + 6)]), .inl (0, 23, .inl fun _ => 0)]) (pc' := 40) zi_74_37 hi (by omega) (by omega) rfl rfl rfl rfl rfl ?_
  refine ai_put (L' := [.inr (4, [.ref (h0.length + 1), .ref (h0.length + 3), .ref (h0.length + 5), .null, .int 0]), .inr (1, [.ref (h0.length + 2)]), .inl (0, 23, .inl fun _ => 0), .inr (1, [.ref (h0.length + 4)]), .inl (0, 23, .inl fun _ => 0), .inr (1, [.ref (h0.length + 6)]), .inl (0, 23, .inl fun _ => 0)]) (pc' := 43) zi_74_40 hi rfl (Nat.le_of_ble_eq_true rfl) rfl rfl rfl ?_
  refine zr_aload_n (pc' := 44) zi_74_43 rfl rfl ?_
  refine ai_new (L' := [.inr (4, [.ref (h0.length + 1), .ref (h0.length + 3), .ref (h0.length + 5), .null, .int 0]), .inr (1, [.ref (h0.length + 2)]), .inl (0, 23, .inl fun _ => 0), .inr (1, [.ref (h0.length + 4)]), .inl (0, 23, .inl fun _ => 0), .inr (1, [.ref (h0.length + 6)]), .inl (0, 23, .inl fun _ => 0), .inr (1, [.null])]) (pc' := 47) zi_74_44 rfl rfl rfl rfl ?_
  refine zr_dup (pc' := 48) zi_74_47 rfl rfl ?_
  refine zr_bipush (v := (nI 20)) (pc' := 50) zi_74_48 rfl rfl ?_
  refine ai_row (L' := [.inr (4, [.ref (h0.length + 1), .ref (h0.length + 3), .ref (h0.length + 5), .null, .int 0]), .inr (1, [.ref (h0.length + 2)]), .inl (0, 23, .inl fun _ => 0), .inr (1, [.ref (h0.length + 4)]), .inl (0, 23, .inl fun _ => 0), .inr (1, [.ref (h0.length + 6)]), .inl (0, 23, .inl fun _ => 0), .inr (1, [.ref (h0.length + 8)]), .inl (0, 20, .inl fun _ => 0)]) (pc' := 53) zi_74_50 hi (by omega) (by omega) rfl rfl rfl rfl rfl ?_
  refine ai_put (L' := [.inr (4, [.ref (h0.length + 1), .ref (h0.length + 3), .ref (h0.length + 5), .ref (h0.length + 7), .int 0]), .inr (1, [.ref (h0.length + 2)]), .inl (0, 23, .inl fun _ => 0), .inr (1, [.ref (h0.length + 4)]), .inl (0, 23, .inl fun _ => 0), .inr (1, [.ref (h0.length + 6)]), .inl (0, 23, .inl fun _ => 0), .inr (1, [.ref (h0.length + 8)]), .inl (0, 20, .inl fun _ => 0)]) (pc' := 56) zi_74_53 hi rfl (Nat.le_of_ble_eq_true rfl) rfl rfl rfl ?_
  exact zr_return zi_74_56 rfl
theorem c_X2_init {e : zE} (he : e = .inr (2, [.null, .null, .null, .null, .null, .null, .null, .null])) (h0 : zH) (hi : 1 ≤ h0.length) : zcalls zTB 56 [.ref h0.length] (h0 ++ [e]) (none, h0 ++ m_scenes h0.length) := by
  subst he
  refine zcalls_of (Nat.le_of_ble_eq_true rfl) ?_
  show zruns zTB 56 0 [some (.ref (h0.length + 0))] [] _ _
  refine zr_aload_n (pc' := 1) zi_56_0 rfl rfl ?_
  refine zr_objinit (pc' := 4) zi_56_1 rfl rfl ?_
  refine zr_aload_n (pc' := 5) zi_56_4 rfl rfl ?_
  refine ai_new (L' := [.inr (2, [.null, .null, .null, .null, .null, .null, .null, .null]), .inr (1, [.null])]) (pc' := 8) zi_56_5 rfl rfl rfl rfl ?_
  refine zr_dup (pc' := 9) zi_56_8 rfl rfl ?_
  refine zr_bipush (v := (nI 70)) (pc' := 11) zi_56_9 rfl rfl ?_
  refine ai_row (L' := [.inr (2, [.null, .null, .null, .null, .null, .null, .null, .null]), .inr (1, [.ref (h0.length + 2)]), .inl (0, 70, .inl fun _ => 0)]) (pc' := 14) zi_56_11 hi (by omega) (by omega) rfl rfl rfl rfl rfl ?_
  refine ai_put (L' := [.inr (2, [.ref (h0.length + 1), .null, .null, .null, .null, .null, .null, .null]), .inr (1, [.ref (h0.length + 2)]), .inl (0, 70, .inl fun _ => 0)]) (pc' := 17) zi_56_14 hi rfl (Nat.le_of_ble_eq_true rfl) rfl rfl rfl ?_
  refine zr_aload_n (pc' := 18) zi_56_17 rfl rfl ?_
  refine ai_new (L' := [.inr (2, [.ref (h0.length + 1), .null, .null, .null, .null, .null, .null, .null]), .inr (1, [.ref (h0.length + 2)]), .inl (0, 70, .inl fun _ => 0), .inr (1, [.null])]) (pc' := 21) zi_56_18 rfl rfl rfl rfl ?_
  refine zr_dup (pc' := 22) zi_56_21 rfl rfl ?_
  refine zr_bipush (v := (nI 70)) (pc' := 24) zi_56_22 rfl rfl ?_
  refine ai_row (L' := [.inr (2, [.ref (h0.length + 1), .null, .null, .null, .null, .null, .null, .null]), .inr (1, [.ref (h0.length + 2)]), .inl (0, 70, .inl fun _ => 0), .inr (1, [.ref (h0.length + 4)]), .inl (0, 70, .inl fun _ => 0)]) (pc' := 27) zi_56_24 hi (by omega) (by omega) rfl rfl rfl rfl rfl ?_
  refine ai_put (L' := [.inr (2, [.ref (h0.length + 1), .ref (h0.length + 3), .null, .null, .null, .null, .null, .null]), .inr (1, [.ref (h0.length + 2)]), .inl (0, 70, .inl fun _ => 0), .inr (1, [.ref (h0.length + 4)]), .inl (0, 70, .inl fun _ => 0)]) (pc' := 30) zi_56_27 hi rfl (Nat.le_of_ble_eq_true rfl) rfl rfl rfl ?_
  refine zr_aload_n (pc' := 31) zi_56_30 rfl rfl ?_
  refine ai_new (L' := [.inr (2, [.ref (h0.length + 1), .ref (h0.length + 3), .null, .null, .null, .null, .null, .null]), .inr (1, [.ref (h0.length + 2)]), .inl (0, 70, .inl fun _ => 0), .inr (1, [.ref (h0.length + 4)]), .inl (0, 70, .inl fun _ => 0), .inr (1, [.null])]) (pc' := 34) zi_56_31 rfl rfl rfl rfl ?_
  refine zr_dup (pc' := 35) zi_56_34 rfl rfl ?_
  refine zr_sipush (v := (nI 400)) (pc' := 38) zi_56_35 rfl rfl ?_
  refine ai_row (L' := [.inr (2, [.ref (h0.length + 1), .ref (h0.length + 3), .null, .null, .null, .null, .null, .null]), .inr (1, [.ref (h0.length + 2)]), .inl (0, 70, .inl fun _ => 0), .inr (1, [.ref (h0.length + 4)]), .inl (0, 70, .inl fun _ => 0), .inr (1, [.ref (h0.length + 6)]), .inl (0, 400, .inl fun _ => 0)]) (pc' := 41) zi_56_38 hi (by omega) (by omega) rfl rfl rfl rfl rfl ?_
  refine ai_put (L' := [.inr (2, [.ref (h0.length + 1), .ref (h0.length + 3), .ref (h0.length + 5), .null, .null, .null, .null, .null]), .inr (1, [.ref (h0.length + 2)]), .inl (0, 70, .inl fun _ => 0), .inr (1, [.ref (h0.length + 4)]), .inl (0, 70, .inl fun _ => 0), .inr (1, [.ref (h0.length + 6)]), .inl (0, 400, .inl fun _ => 0)]) (pc' := 44) zi_56_41 hi rfl (Nat.le_of_ble_eq_true rfl) rfl rfl rfl ?_
  refine zr_aload_n (pc' := 45) zi_56_44 rfl rfl ?_
  refine ai_new (L' := [.inr (2, [.ref (h0.length + 1), .ref (h0.length + 3), .ref (h0.length + 5), .null, .null, .null, .null, .null]), .inr (1, [.ref (h0.length + 2)]), .inl (0, 70, .inl fun _ => 0), .inr (1, [.ref (h0.length + 4)]), .inl (0, 70, .inl fun _ => 0), .inr (1, [.ref (h0.length + 6)]), .inl (0, 400, .inl fun _ => 0), .inr (1, [.null])]) (pc' := 48) zi_56_45 rfl rfl rfl rfl ?_
  refine zr_dup (pc' := 49) zi_56_48 rfl rfl ?_
  refine zr_bipush (v := (nI 20)) (pc' := 51) zi_56_49 rfl rfl ?_
  refine ai_row (L' := [.inr (2, [.ref (h0.length + 1), .ref (h0.length + 3), .ref (h0.length + 5), .null, .null, .null, .null, .null]), .inr (1, [.ref (h0.length + 2)]), .inl (0, 70, .inl fun _ => 0), .inr (1, [.ref (h0.length + 4)]), .inl (0, 70, .inl fun _ => 0), .inr (1, [.ref (h0.length + 6)]), .inl (0, 400, .inl fun _ => 0), .inr (1, [.ref (h0.length + 8)]), .inl (0, 20, .inl fun _ => 0)]) (pc' := 54) zi_56_51 hi (by omega) (by omega) rfl rfl rfl rfl rfl ?_
  refine ai_put (L' := [.inr (2, [.ref (h0.length + 1), .ref (h0.length + 3), .ref (h0.length + 5), .ref (h0.length + 7), .null, .null, .null, .null]), .inr (1, [.ref (h0.length + 2)]), .inl (0, 70, .inl fun _ => 0), .inr (1, [.ref (h0.length + 4)]), .inl (0, 70, .inl fun _ => 0), .inr (1, [.ref (h0.length + 6)]), .inl (0, 400, .inl fun _ => 0), .inr (1, [.ref (h0.length + 8)]), .inl (0, 20, .inl fun _ => 0)]) (pc' := 57) zi_56_54 hi rfl (Nat.le_of_ble_eq_true rfl) rfl rfl rfl ?_
  refine zr_aload_n (pc' := 58) zi_56_57 rfl rfl ?_
  refine ai_new (L' := [.inr (2, [.ref (h0.length + 1), .ref (h0.length + 3), .ref (h0.length + 5), .ref (h0.length + 7), .null, .null, .null, .null]), .inr (1, [.ref (h0.length + 2)]), .inl (0, 70, .inl fun _ => 0), .inr (1, [.ref (h0.length + 4)]), .inl (0, 70, .inl fun _ => 0), .inr (1, [.ref (h0.length + 6)]), .inl (0, 400, .inl fun _ => 0), .inr (1, [.ref (h0.length + 8)]), .inl (0, 20, .inl fun _ => 0), .inr (1, [.null])]) (pc' := 61) zi_56_58 rfl rfl rfl rfl ?_
  refine zr_dup (pc' := 62) zi_56_61 rfl rfl ?_
  refine zr_bipush (v := (nI 20)) (pc' := 64) zi_56_62 rfl rfl ?_
  refine ai_row (L' := [.inr (2, [.ref (h0.length + 1), .ref (h0.length + 3), .ref (h0.length + 5), .ref (h0.length + 7), .null, .null, .null, .null]), .inr (1, [.ref (h0.length + 2)]), .inl (0, 70, .inl fun _ => 0), .inr (1, [.ref (h0.length + 4)]), .inl (0, 70, .inl fun _ => 0), .inr (1, [.ref (h0.length + 6)]), .inl (0, 400, .inl fun _ => 0), .inr (1, [.ref (h0.length + 8)]), .inl (0, 20, .inl fun _ => 0), .inr (1, [.ref (h0.length + 10)]), .inl (0, 20, .inl fun _ => 0)]) (pc' := 67) zi_56_64 hi (by omega) (by omega) rfl rfl rfl rfl rfl ?_
  refine ai_put (L' := [.inr (2, [.ref (h0.length + 1), .ref (h0.length + 3), .ref (h0.length + 5), .ref (h0.length + 7), .ref (h0.length + 9), .null, .null, .null]), .inr (1, [.ref (h0.length + 2)]), .inl (0, 70, .inl fun _ => 0), .inr (1, [.ref (h0.length + 4)]), .inl (0, 70, .inl fun _ => 0), .inr (1, [.ref (h0.length + 6)]), .inl (0, 400, .inl fun _ => 0), .inr (1, [.ref (h0.length + 8)]), .inl (0, 20, .inl fun _ => 0), .inr (1, [.ref (h0.length + 10)]), .inl (0, 20, .inl fun _ => 0)]) (pc' := 70) zi_56_67 hi rfl (Nat.le_of_ble_eq_true rfl) rfl rfl rfl ?_
  refine zr_aload_n (pc' := 71) zi_56_70 rfl rfl ?_
  refine ai_new (L' := [.inr (2, [.ref (h0.length + 1), .ref (h0.length + 3), .ref (h0.length + 5), .ref (h0.length + 7), .ref (h0.length + 9), .null, .null, .null]), .inr (1, [.ref (h0.length + 2)]), .inl (0, 70, .inl fun _ => 0), .inr (1, [.ref (h0.length + 4)]), .inl (0, 70, .inl fun _ => 0), .inr (1, [.ref (h0.length + 6)]), .inl (0, 400, .inl fun _ => 0), .inr (1, [.ref (h0.length + 8)]), .inl (0, 20, .inl fun _ => 0), .inr (1, [.ref (h0.length + 10)]), .inl (0, 20, .inl fun _ => 0), .inr (1, [.null])]) (pc' := 74) zi_56_71 rfl rfl rfl rfl ?_
  refine zr_dup (pc' := 75) zi_56_74 rfl rfl ?_
  refine zr_sipush (v := (nI 400)) (pc' := 78) zi_56_75 rfl rfl ?_
  refine ai_row (L' := [.inr (2, [.ref (h0.length + 1), .ref (h0.length + 3), .ref (h0.length + 5), .ref (h0.length + 7), .ref (h0.length + 9), .null, .null, .null]), .inr (1, [.ref (h0.length + 2)]), .inl (0, 70, .inl fun _ => 0), .inr (1, [.ref (h0.length + 4)]), .inl (0, 70, .inl fun _ => 0), .inr (1, [.ref (h0.length + 6)]), .inl (0, 400, .inl fun _ => 0), .inr (1, [.ref (h0.length + 8)]), .inl (0, 20, .inl fun _ => 0), .inr (1, [.ref (h0.length + 10)]), .inl (0, 20, .inl fun _ => 0), .inr (1, [.ref (h0.length + 12)]), .inl (0, 400, .inl fun _ => 0)]) (pc' := 81) zi_56_78 hi (by omega) (by omega) rfl rfl rfl rfl rfl ?_
  refine ai_put (L' := [.inr (2, [.ref (h0.length + 1), .ref (h0.length + 3), .ref (h0.length + 5), .ref (h0.length + 7), .ref (h0.length + 9), .ref (h0.length + 11), .null, .null]), .inr (1, [.ref (h0.length + 2)]), .inl (0, 70, .inl fun _ => 0), .inr (1, [.ref (h0.length + 4)]), .inl (0, 70, .inl fun _ => 0), .inr (1, [.ref (h0.length + 6)]), .inl (0, 400, .inl fun _ => 0), .inr (1, [.ref (h0.length + 8)]), .inl (0, 20, .inl fun _ => 0), .inr (1, [.ref (h0.length + 10)]), .inl (0, 20, .inl fun _ => 0), .inr (1, [.ref (h0.length + 12)]), .inl (0, 400, .inl fun _ => 0)]) (pc' := 84) zi_56_81 hi rfl (Nat.le_of_ble_eq_true rfl) rfl rfl rfl ?_
  refine zr_aload_n (pc' := 85) zi_56_84 rfl rfl ?_
  refine ai_new (L' := [.inr (2, [.ref (h0.length + 1), .ref (h0.length + 3), .ref (h0.length + 5), .ref (h0.length + 7), .ref (h0.length + 9), .ref (h0.length + 11), .null, .null]), .inr (1, [.ref (h0.length + 2)]), .inl (0, 70, .inl fun _ => 0), .inr (1, [.ref (h0.length + 4)]), .inl (0, 70, .inl fun _ => 0), .inr (1, [.ref (h0.length + 6)]), .inl (0, 400, .inl fun _ => 0), .inr (1, [.ref (h0.length + 8)]), .inl (0, 20, .inl fun _ => 0), .inr (1, [.ref (h0.length + 10)]), .inl (0, 20, .inl fun _ => 0), .inr (1, [.ref (h0.length + 12)]), .inl (0, 400, .inl fun _ => 0), .inr (1, [.null])]) (pc' := 88) zi_56_85 rfl rfl rfl rfl ?_
  refine zr_dup (pc' := 89) zi_56_88 rfl rfl ?_
  refine zr_sipush (v := (nI 400)) (pc' := 92) zi_56_89 rfl rfl ?_
  refine ai_row (L' := [.inr (2, [.ref (h0.length + 1), .ref (h0.length + 3), .ref (h0.length + 5), .ref (h0.length + 7), .ref (h0.length + 9), .ref (h0.length + 11), .null, .null]), .inr (1, [.ref (h0.length + 2)]), .inl (0, 70, .inl fun _ => 0), .inr (1, [.ref (h0.length + 4)]), .inl (0, 70, .inl fun _ => 0), .inr (1, [.ref (h0.length + 6)]), .inl (0, 400, .inl fun _ => 0), .inr (1, [.ref (h0.length + 8)]), .inl (0, 20, .inl fun _ => 0), .inr (1, [.ref (h0.length + 10)]), .inl (0, 20, .inl fun _ => 0), .inr (1, [.ref (h0.length + 12)]), .inl (0, 400, .inl fun _ => 0), .inr (1, [.ref (h0.length + 14)]), .inl (0, 400, .inl fun _ => 0)]) (pc' := 95) zi_56_92 hi (by omega) (by omega) rfl rfl rfl rfl rfl ?_
  refine ai_put (L' := [.inr (2, [.ref (h0.length + 1), .ref (h0.length + 3), .ref (h0.length + 5), .ref (h0.length + 7), .ref (h0.length + 9), .ref (h0.length + 11), .ref (h0.length + 13), .null]), .inr (1, [.ref (h0.length + 2)]), .inl (0, 70, .inl fun _ => 0), .inr (1, [.ref (h0.length + 4)]), .inl (0, 70, .inl fun _ => 0), .inr (1, [.ref (h0.length + 6)]), .inl (0, 400, .inl fun _ => 0), .inr (1, [.ref (h0.length + 8)]), .inl (0, 20, .inl fun _ => 0), .inr (1, [.ref (h0.length + 10)]), .inl (0, 20, .inl fun _ => 0), .inr (1, [.ref (h0.length + 12)]), .inl (0, 400, .inl fun _ => 0), .inr (1, [.ref (h0.length + 14)]), .inl (0, 400, .inl fun _ => 0)]) (pc' := 98) zi_56_95 hi rfl (Nat.le_of_ble_eq_true rfl) rfl rfl rfl ?_
  refine zr_aload_n (pc' := 99) zi_56_98 rfl rfl ?_
  refine ai_new (L' := [.inr (2, [.ref (h0.length + 1), .ref (h0.length + 3), .ref (h0.length + 5), .ref (h0.length + 7), .ref (h0.length + 9), .ref (h0.length + 11), .ref (h0.length + 13), .null]), .inr (1, [.ref (h0.length + 2)]), .inl (0, 70, .inl fun _ => 0), .inr (1, [.ref (h0.length + 4)]), .inl (0, 70, .inl fun _ => 0), .inr (1, [.ref (h0.length + 6)]), .inl (0, 400, .inl fun _ => 0), .inr (1, [.ref (h0.length + 8)]), .inl (0, 20, .inl fun _ => 0), .inr (1, [.ref (h0.length + 10)]), .inl (0, 20, .inl fun _ => 0), .inr (1, [.ref (h0.length + 12)]), .inl (0, 400, .inl fun _ => 0), .inr (1, [.ref (h0.length + 14)]), .inl (0, 400, .inl fun _ => 0), .inr (1, [.null])]) (pc' := 102) zi_56_99 rfl rfl rfl rfl ?_
  refine zr_dup (pc' := 103) zi_56_102 rfl rfl ?_
  refine zr_bipush (v := (nI 20)) (pc' := 105) zi_56_103 rfl rfl ?_
  refine ai_row (L' := [.inr (2, [.ref (h0.length + 1), .ref (h0.length + 3), .ref (h0.length + 5), .ref (h0.length + 7), .ref (h0.length + 9), .ref (h0.length + 11), .ref (h0.length + 13), .null]), .inr (1, [.ref (h0.length + 2)]), .inl (0, 70, .inl fun _ => 0), .inr (1, [.ref (h0.length + 4)]), .inl (0, 70, .inl fun _ => 0), .inr (1, [.ref (h0.length + 6)]), .inl (0, 400, .inl fun _ => 0), .inr (1, [.ref (h0.length + 8)]), .inl (0, 20, .inl fun _ => 0), .inr (1, [.ref (h0.length + 10)]), .inl (0, 20, .inl fun _ => 0), .inr (1, [.ref (h0.length + 12)]), .inl (0, 400, .inl fun _ => 0), .inr (1, [.ref (h0.length + 14)]), .inl (0, 400, .inl fun _ => 0), .inr (1, [.ref (h0.length + 16)]), .inl (0, 20, .inl fun _ => 0)]) (pc' := 108) zi_56_105 hi (by omega) (by omega) rfl rfl rfl rfl rfl ?_
  refine ai_put (L' := [.inr (2, [.ref (h0.length + 1), .ref (h0.length + 3), .ref (h0.length + 5), .ref (h0.length + 7), .ref (h0.length + 9), .ref (h0.length + 11), .ref (h0.length + 13), .ref (h0.length + 15)]), .inr (1, [.ref (h0.length + 2)]), .inl (0, 70, .inl fun _ => 0), .inr (1, [.ref (h0.length + 4)]), .inl (0, 70, .inl fun _ => 0), .inr (1, [.ref (h0.length + 6)]), .inl (0, 400, .inl fun _ => 0), .inr (1, [.ref (h0.length + 8)]), .inl (0, 20, .inl fun _ => 0), .inr (1, [.ref (h0.length + 10)]), .inl (0, 20, .inl fun _ => 0), .inr (1, [.ref (h0.length + 12)]), .inl (0, 400, .inl fun _ => 0), .inr (1, [.ref (h0.length + 14)]), .inl (0, 400, .inl fun _ => 0), .inr (1, [.ref (h0.length + 16)]), .inl (0, 20, .inl fun _ => 0)]) (pc' := 111) zi_56_108 hi rfl (Nat.le_of_ble_eq_true rfl) rfl rfl rfl ?_
  exact zr_return zi_56_111 rfl
end


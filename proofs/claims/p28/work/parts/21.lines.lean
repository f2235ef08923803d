theorem zi_31_0 : zI 31 0 = some (.iconst 0, []) := by decide +kernel
theorem zi_31_1 : zI 31 1 = some (.istore 5, []) := by decide +kernel
theorem zi_31_3 : zI 31 3 = some (.iconst 0, []) := by decide +kernel
theorem zi_31_4 : zI 31 4 = some (.istore 6, []) := by decide +kernel
theorem zi_31_6 : zI 31 6 = some (.iload 6, []) := by decide +kernel
theorem zi_31_8 : zI 31 8 = some (.aload_n 0, []) := by decide +kernel
theorem zi_31_9 : zI 31 9 = some (.getfield 50, [0, 8, 192]) := by decide +kernel
theorem zi_31_12 : zI 31 12 = some (.if_icmp .ge 53, [65]) := by decide +kernel
theorem zi_31_15 : zI 31 15 = some (.aload_n 0, []) := by decide +kernel
theorem zi_31_16 : zI 31 16 = some (.getfield 14, [0, 0, 193]) := by decide +kernel
theorem zi_31_19 : zI 31 19 = some (.iload 6, []) := by decide +kernel
theorem zi_31_21 : zI 31 21 = some (.invokevirtual 46, [0, 0, 1, 1, 17, 18, 19, 16, 0, 101]) := by decide +kernel
theorem zi_31_24 : zI 31 24 = some (.iload 4, []) := by decide +kernel
theorem zi_31_26 : zI 31 26 = some (.invokestatic 66, [17, 1, 2, 0, 30, 0, 9, 29, 1, 2]) := by decide +kernel
theorem zi_31_29 : zI 31 29 = some (.istore 7, []) := by decide +kernel
theorem zi_31_31 : zI 31 31 = some (.aload_n 0, []) := by decide +kernel
theorem zi_31_32 : zI 31 32 = some (.getfield 32, [0, 5, 194]) := by decide +kernel
theorem zi_31_35 : zI 31 35 = some (.iload 6, []) := by decide +kernel
theorem zi_31_37 : zI 31 37 = some (.invokevirtual 46, [0, 0, 1, 1, 17, 18, 19, 16, 0, 101]) := by decide +kernel
theorem zi_31_40 : zI 31 40 = some (.iload_n 1, []) := by decide +kernel
theorem zi_31_41 : zI 31 41 = some (.if_icmp .ne 18, [59]) := by decide +kernel
theorem zi_31_44 : zI 31 44 = some (.iload 7, []) := by decide +kernel
theorem zi_31_46 : zI 31 46 = some (.iload_n 2, []) := by decide +kernel
theorem zi_31_47 : zI 31 47 = some (.if_icmp .lt 12, [59]) := by decide +kernel
theorem zi_31_50 : zI 31 50 = some (.iload 7, []) := by decide +kernel
theorem zi_31_52 : zI 31 52 = some (.iload_n 3, []) := by decide +kernel
theorem zi_31_53 : zI 31 53 = some (.if_icmp .gt 6, [59]) := by decide +kernel
theorem zi_31_56 : zI 31 56 = some (.iinc 5 1, []) := by decide +kernel
theorem zi_31_59 : zI 31 59 = some (.iinc 6 1, []) := by decide +kernel
theorem zi_31_62 : zI 31 62 = some (.goto (-56), [6]) := by decide +kernel
theorem zi_31_65 : zI 31 65 = some (.iload 5, []) := by decide +kernel
theorem zi_31_67 : zI 31 67 = some (.ireturn, []) := by decide +kernel
theorem zi_32_0 : zI 32 0 = some (.iload_n 1, []) := by decide +kernel
theorem zi_32_1 : zI 32 1 = some (.iconst 1, []) := by decide +kernel
theorem zi_32_2 : zI 32 2 = some (.isub, []) := by decide +kernel
theorem zi_32_3 : zI 32 3 = some (.istore_n 3, []) := by decide +kernel
theorem zi_32_4 : zI 32 4 = some (.iload_n 3, []) := by decide +kernel
theorem zi_32_5 : zI 32 5 = some (.ifCond .lt 55, [60]) := by decide +kernel
theorem zi_32_8 : zI 32 8 = some (.aload_n 0, []) := by decide +kernel
theorem zi_32_9 : zI 32 9 = some (.getfield 35, [0, 6, 195]) := by decide +kernel
theorem zi_32_12 : zI 32 12 = some (.iload_n 3, []) := by decide +kernel
theorem zi_32_13 : zI 32 13 = some (.invokevirtual 46, [0, 0, 1, 1, 17, 18, 19, 16, 0, 101]) := by decide +kernel
theorem zi_32_16 : zI 32 16 = some (.aload_n 0, []) := by decide +kernel
theorem zi_32_17 : zI 32 17 = some (.getfield 35, [0, 6, 195]) := by decide +kernel
theorem zi_32_20 : zI 32 20 = some (.iload_n 1, []) := by decide +kernel
theorem zi_32_21 : zI 32 21 = some (.invokevirtual 46, [0, 0, 1, 1, 17, 18, 19, 16, 0, 101]) := by decide +kernel
theorem zi_32_24 : zI 32 24 = some (.if_icmp .ne 30, [54]) := by decide +kernel
theorem zi_32_27 : zI 32 27 = some (.aload_n 0, []) := by decide +kernel
theorem zi_32_28 : zI 32 28 = some (.getfield 14, [0, 0, 193]) := by decide +kernel
theorem zi_32_31 : zI 32 31 = some (.iload_n 1, []) := by decide +kernel
theorem zi_32_32 : zI 32 32 = some (.invokevirtual 46, [0, 0, 1, 1, 17, 18, 19, 16, 0, 101]) := by decide +kernel
theorem zi_32_35 : zI 32 35 = some (.aload_n 0, []) := by decide +kernel
theorem zi_32_36 : zI 32 36 = some (.getfield 14, [0, 0, 193]) := by decide +kernel
theorem zi_32_39 : zI 32 39 = some (.iload_n 3, []) := by decide +kernel
theorem zi_32_40 : zI 32 40 = some (.invokevirtual 46, [0, 0, 1, 1, 17, 18, 19, 16, 0, 101]) := by decide +kernel
theorem zi_32_43 : zI 32 43 = some (.isub, []) := by decide +kernel
theorem zi_32_44 : zI 32 44 = some (.iload_n 2, []) := by decide +kernel
theorem zi_32_45 : zI 32 45 = some (.if_icmp .gt 7, [52]) := by decide +kernel
theorem zi_32_48 : zI 32 48 = some (.iload_n 3, []) := by decide +kernel
theorem zi_32_49 : zI 32 49 = some (.goto 4, [53]) := by decide +kernel
theorem zi_32_52 : zI 32 52 = some (.iconst (-1), []) := by decide +kernel
theorem zi_32_53 : zI 32 53 = some (.ireturn, []) := by decide +kernel
theorem zi_32_54 : zI 32 54 = some (.iinc 3 (-1), []) := by decide +kernel
theorem zi_32_57 : zI 32 57 = some (.goto (-53), [4]) := by decide +kernel
theorem zi_32_60 : zI 32 60 = some (.iconst (-1), []) := by decide +kernel
theorem zi_32_61 : zI 32 61 = some (.ireturn, []) := by decide +kernel
theorem zi_33_0 : zI 33 0 = some (.iload_n 1, []) := by decide +kernel
theorem zi_33_1 : zI 33 1 = some (.iload_n 2, []) := by decide +kernel
theorem zi_33_2 : zI 33 2 = some (.if_icmp .ge 32, [34]) := by decide +kernel
theorem zi_33_5 : zI 33 5 = some (.iload_n 1, []) := by decide +kernel
theorem zi_33_6 : zI 33 6 = some (.aload_n 0, []) := by decide +kernel
theorem zi_33_7 : zI 33 7 = some (.getfield 50, [0, 8, 192]) := by decide +kernel
theorem zi_33_10 : zI 33 10 = some (.if_icmp .ge 24, [34]) := by decide +kernel
theorem zi_33_13 : zI 33 13 = some (.aload_n 0, []) := by decide +kernel
theorem zi_33_14 : zI 33 14 = some (.getfield 14, [0, 0, 193]) := by decide +kernel
theorem zi_33_17 : zI 33 17 = some (.iload_n 1, []) := by decide +kernel
theorem zi_33_18 : zI 33 18 = some (.invokevirtual 46, [0, 0, 1, 1, 17, 18, 19, 16, 0, 101]) := by decide +kernel
theorem zi_33_21 : zI 33 21 = some (.aload_n 0, []) := by decide +kernel
theorem zi_33_22 : zI 33 22 = some (.getfield 14, [0, 0, 193]) := by decide +kernel
theorem zi_33_25 : zI 33 25 = some (.iload_n 2, []) := by decide +kernel
theorem zi_33_26 : zI 33 26 = some (.invokevirtual 46, [0, 0, 1, 1, 17, 18, 19, 16, 0, 101]) := by decide +kernel
theorem zi_33_29 : zI 33 29 = some (.iload_n 3, []) := by decide +kernel
theorem zi_33_30 : zI 33 30 = some (.isub, []) := by decide +kernel
theorem zi_33_31 : zI 33 31 = some (.if_icmp .ge 5, [36]) := by decide +kernel
theorem zi_33_34 : zI 33 34 = some (.iconst 0, []) := by decide +kernel
theorem zi_33_35 : zI 33 35 = some (.ireturn, []) := by decide +kernel
theorem zi_33_36 : zI 33 36 = some (.aload_n 0, []) := by decide +kernel
theorem zi_33_37 : zI 33 37 = some (.getfield 35, [0, 6, 195]) := by decide +kernel
theorem zi_33_40 : zI 33 40 = some (.iload_n 2, []) := by decide +kernel
theorem zi_33_41 : zI 33 41 = some (.invokevirtual 46, [0, 0, 1, 1, 17, 18, 19, 16, 0, 101]) := by decide +kernel
theorem zi_33_44 : zI 33 44 = some (.ifCond .lt 26, [70]) := by decide +kernel
theorem zi_33_47 : zI 33 47 = some (.aload_n 0, []) := by decide +kernel
theorem zi_33_48 : zI 33 48 = some (.getfield 35, [0, 6, 195]) := by decide +kernel
theorem zi_33_51 : zI 33 51 = some (.iload_n 1, []) := by decide +kernel
theorem zi_33_52 : zI 33 52 = some (.invokevirtual 46, [0, 0, 1, 1, 17, 18, 19, 16, 0, 101]) := by decide +kernel
theorem zi_33_55 : zI 33 55 = some (.aload_n 0, []) := by decide +kernel
theorem zi_33_56 : zI 33 56 = some (.getfield 35, [0, 6, 195]) := by decide +kernel
theorem zi_33_59 : zI 33 59 = some (.iload_n 2, []) := by decide +kernel
theorem zi_33_60 : zI 33 60 = some (.invokevirtual 46, [0, 0, 1, 1, 17, 18, 19, 16, 0, 101]) := by decide +kernel
theorem zi_33_63 : zI 33 63 = some (.if_icmp .ne 7, [70]) := by decide +kernel
theorem zi_33_66 : zI 33 66 = some (.iconst 1, []) := by decide +kernel
theorem zi_33_67 : zI 33 67 = some (.goto 4, [71]) := by decide +kernel
theorem zi_33_70 : zI 33 70 = some (.iconst 0, []) := by decide +kernel
theorem zi_33_71 : zI 33 71 = some (.istore 4, []) := by decide +kernel
theorem zi_33_73 : zI 33 73 = some (.iload 4, []) := by decide +kernel
theorem zi_33_75 : zI 33 75 = some (.ifCond .ne 22, [97]) := by decide +kernel
theorem zi_33_78 : zI 33 78 = some (.aload_n 0, []) := by decide +kernel
theorem zi_33_79 : zI 33 79 = some (.getfield 20, [0, 1, 196]) := by decide +kernel
theorem zi_33_82 : zI 33 82 = some (.iload_n 1, []) := by decide +kernel
theorem zi_33_83 : zI 33 83 = some (.invokevirtual 46, [0, 0, 1, 1, 17, 18, 19, 16, 0, 101]) := by decide +kernel
theorem zi_33_86 : zI 33 86 = some (.aload_n 0, []) := by decide +kernel
theorem zi_33_87 : zI 33 87 = some (.getfield 20, [0, 1, 196]) := by decide +kernel
theorem zi_33_90 : zI 33 90 = some (.iload_n 2, []) := by decide +kernel
theorem zi_33_91 : zI 33 91 = some (.invokevirtual 46, [0, 0, 1, 1, 17, 18, 19, 16, 0, 101]) := by decide +kernel
theorem zi_33_94 : zI 33 94 = some (.if_icmp .ne 7, [101]) := by decide +kernel
theorem zi_33_97 : zI 33 97 = some (.iconst 1, []) := by decide +kernel
theorem zi_33_98 : zI 33 98 = some (.goto 4, [102]) := by decide +kernel
theorem zi_33_101 : zI 33 101 = some (.iconst 0, []) := by decide +kernel
theorem zi_33_102 : zI 33 102 = some (.ireturn, []) := by decide +kernel
theorem zi_52_0 : zI 52 0 = some (.iconst 0, []) := by decide +kernel
theorem zi_52_1 : zI 52 1 = some (.istore_n 2, []) := by decide +kernel
theorem zi_52_2 : zI 52 2 = some (.iload_n 2, []) := by decide +kernel
theorem zi_52_3 : zI 52 3 = some (.aload_n 0, []) := by decide +kernel
theorem zi_52_4 : zI 52 4 = some (.getfield 50, [0, 8, 192]) := by decide +kernel
theorem zi_52_7 : zI 52 7 = some (.if_icmp .ge 23, [30]) := by decide +kernel
theorem zi_52_10 : zI 52 10 = some (.aload_n 0, []) := by decide +kernel
theorem zi_52_11 : zI 52 11 = some (.getfield 32, [0, 5, 194]) := by decide +kernel
theorem zi_52_14 : zI 52 14 = some (.iload_n 2, []) := by decide +kernel
theorem zi_52_15 : zI 52 15 = some (.invokevirtual 46, [0, 0, 1, 1, 17, 18, 19, 16, 0, 101]) := by decide +kernel
theorem zi_52_18 : zI 52 18 = some (.iload_n 1, []) := by decide +kernel
theorem zi_52_19 : zI 52 19 = some (.if_icmp .ne 5, [24]) := by decide +kernel
theorem zi_52_22 : zI 52 22 = some (.iload_n 2, []) := by decide +kernel
theorem zi_52_23 : zI 52 23 = some (.ireturn, []) := by decide +kernel
theorem zi_52_24 : zI 52 24 = some (.iinc 2 1, []) := by decide +kernel
theorem zi_52_27 : zI 52 27 = some (.goto (-25), [2]) := by decide +kernel
theorem zi_52_30 : zI 52 30 = some (.iconst (-1), []) := by decide +kernel
theorem zi_52_31 : zI 52 31 = some (.ireturn, []) := by decide +kernel
theorem zi_53_0 : zI 53 0 = some (.iconst 0, []) := by decide +kernel
theorem zi_53_1 : zI 53 1 = some (.istore_n 2, []) := by decide +kernel
theorem zi_53_2 : zI 53 2 = some (.iconst 0, []) := by decide +kernel
theorem zi_53_3 : zI 53 3 = some (.istore_n 3, []) := by decide +kernel
theorem zi_53_4 : zI 53 4 = some (.iload_n 3, []) := by decide +kernel
theorem zi_53_5 : zI 53 5 = some (.aload_n 0, []) := by decide +kernel
theorem zi_53_6 : zI 53 6 = some (.getfield 50, [0, 8, 192]) := by decide +kernel
theorem zi_53_9 : zI 53 9 = some (.if_icmp .ge 42, [51]) := by decide +kernel
theorem zi_53_12 : zI 53 12 = some (.aload_n 0, []) := by decide +kernel
theorem zi_53_13 : zI 53 13 = some (.getfield 32, [0, 5, 194]) := by decide +kernel
theorem zi_53_16 : zI 53 16 = some (.iload_n 3, []) := by decide +kernel
theorem zi_53_17 : zI 53 17 = some (.invokevirtual 46, [0, 0, 1, 1, 17, 18, 19, 16, 0, 101]) := by decide +kernel
theorem zi_53_20 : zI 53 20 = some (.iload_n 1, []) := by decide +kernel
theorem zi_53_21 : zI 53 21 = some (.if_icmp .ne 24, [45]) := by decide +kernel
theorem zi_53_24 : zI 53 24 = some (.aload_n 0, []) := by decide +kernel
theorem zi_53_25 : zI 53 25 = some (.getfield 23, [0, 2, 277]) := by decide +kernel
theorem zi_53_28 : zI 53 28 = some (.iload_n 3, []) := by decide +kernel
theorem zi_53_29 : zI 53 29 = some (.invokevirtual 46, [0, 0, 1, 1, 17, 18, 19, 16, 0, 101]) := by decide +kernel
theorem zi_53_32 : zI 53 32 = some (.iload_n 2, []) := by decide +kernel
theorem zi_53_33 : zI 53 33 = some (.if_icmp .le 12, [45]) := by decide +kernel
theorem zi_53_36 : zI 53 36 = some (.aload_n 0, []) := by decide +kernel
theorem zi_53_37 : zI 53 37 = some (.getfield 23, [0, 2, 277]) := by decide +kernel
theorem zi_53_40 : zI 53 40 = some (.iload_n 3, []) := by decide +kernel
theorem zi_53_41 : zI 53 41 = some (.invokevirtual 46, [0, 0, 1, 1, 17, 18, 19, 16, 0, 101]) := by decide +kernel
theorem zi_53_44 : zI 53 44 = some (.istore_n 2, []) := by decide +kernel
theorem zi_53_45 : zI 53 45 = some (.iinc 3 1, []) := by decide +kernel
theorem zi_53_48 : zI 53 48 = some (.goto (-44), [4]) := by decide +kernel
theorem zi_53_51 : zI 53 51 = some (.iload_n 2, []) := by decide +kernel
theorem zi_53_52 : zI 53 52 = some (.ireturn, []) := by decide +kernel
theorem zi_54_0 : zI 54 0 = some (.iconst 0, []) := by decide +kernel
theorem zi_54_1 : zI 54 1 = some (.istore_n 3, []) := by decide +kernel
theorem zi_54_2 : zI 54 2 = some (.iconst 0, []) := by decide +kernel
theorem zi_54_3 : zI 54 3 = some (.istore 4, []) := by decide +kernel
theorem zi_54_5 : zI 54 5 = some (.iload 4, []) := by decide +kernel
theorem zi_54_7 : zI 54 7 = some (.aload_n 0, []) := by decide +kernel
theorem zi_54_8 : zI 54 8 = some (.getfield 50, [0, 8, 192]) := by decide +kernel
theorem zi_54_11 : zI 54 11 = some (.if_icmp .ge 35, [46]) := by decide +kernel
theorem zi_54_14 : zI 54 14 = some (.aload_n 0, []) := by decide +kernel
theorem zi_54_15 : zI 54 15 = some (.getfield 32, [0, 5, 194]) := by decide +kernel
theorem zi_54_18 : zI 54 18 = some (.iload 4, []) := by decide +kernel
theorem zi_54_20 : zI 54 20 = some (.invokevirtual 46, [0, 0, 1, 1, 17, 18, 19, 16, 0, 101]) := by decide +kernel
theorem zi_54_23 : zI 54 23 = some (.iload_n 1, []) := by decide +kernel
theorem zi_54_24 : zI 54 24 = some (.if_icmp .ne 16, [40]) := by decide +kernel
theorem zi_54_27 : zI 54 27 = some (.aload_n 0, []) := by decide +kernel
theorem zi_54_28 : zI 54 28 = some (.iload 4, []) := by decide +kernel
theorem zi_54_30 : zI 54 30 = some (.iload_n 2, []) := by decide +kernel
theorem zi_54_31 : zI 54 31 = some (.invokevirtual 62, [55, 0, 2, 0, 288, 289, 91, 287, 0, 286]) := by decide +kernel
theorem zi_54_34 : zI 54 34 = some (.ifCond .eq 6, [40]) := by decide +kernel
theorem zi_54_37 : zI 54 37 = some (.iinc 3 1, []) := by decide +kernel
theorem zi_54_40 : zI 54 40 = some (.iinc 4 1, []) := by decide +kernel
theorem zi_54_43 : zI 54 43 = some (.goto (-38), [5]) := by decide +kernel
theorem zi_54_46 : zI 54 46 = some (.iload_n 3, []) := by decide +kernel
theorem zi_54_47 : zI 54 47 = some (.ireturn, []) := by decide +kernel
theorem zi_55_0 : zI 55 0 = some (.iconst 0, []) := by decide +kernel
theorem zi_55_1 : zI 55 1 = some (.istore_n 3, []) := by decide +kernel
theorem zi_55_2 : zI 55 2 = some (.iload_n 3, []) := by decide +kernel
theorem zi_55_3 : zI 55 3 = some (.iload_n 1, []) := by decide +kernel
theorem zi_55_4 : zI 55 4 = some (.if_icmp .ge 45, [49]) := by decide +kernel
theorem zi_55_7 : zI 55 7 = some (.aload_n 0, []) := by decide +kernel
theorem zi_55_8 : zI 55 8 = some (.getfield 32, [0, 5, 194]) := by decide +kernel
theorem zi_55_11 : zI 55 11 = some (.iload_n 3, []) := by decide +kernel
theorem zi_55_12 : zI 55 12 = some (.invokevirtual 46, [0, 0, 1, 1, 17, 18, 19, 16, 0, 101]) := by decide +kernel
theorem zi_55_15 : zI 55 15 = some (.aload_n 0, []) := by decide +kernel
theorem zi_55_16 : zI 55 16 = some (.getfield 32, [0, 5, 194]) := by decide +kernel
theorem zi_55_19 : zI 55 19 = some (.iload_n 1, []) := by decide +kernel
theorem zi_55_20 : zI 55 20 = some (.invokevirtual 46, [0, 0, 1, 1, 17, 18, 19, 16, 0, 101]) := by decide +kernel
theorem zi_55_23 : zI 55 23 = some (.if_icmp .ne 20, [43]) := by decide +kernel
theorem zi_55_26 : zI 55 26 = some (.aload_n 0, []) := by decide +kernel
theorem zi_55_27 : zI 55 27 = some (.iload_n 3, []) := by decide +kernel
theorem zi_55_28 : zI 55 28 = some (.iload_n 2, []) := by decide +kernel
theorem zi_55_29 : zI 55 29 = some (.invokevirtual 59, [11, 0, 2, 0, 214, 215, 91, 213, 0, 285]) := by decide +kernel
theorem zi_55_32 : zI 55 32 = some (.aload_n 0, []) := by decide +kernel
theorem zi_55_33 : zI 55 33 = some (.iload_n 1, []) := by decide +kernel
theorem zi_55_34 : zI 55 34 = some (.iload_n 2, []) := by decide +kernel
theorem zi_55_35 : zI 55 35 = some (.invokevirtual 59, [11, 0, 2, 0, 214, 215, 91, 213, 0, 285]) := by decide +kernel
theorem zi_55_38 : zI 55 38 = some (.if_icmp .ne 5, [43]) := by decide +kernel
theorem zi_55_41 : zI 55 41 = some (.iconst 0, []) := by decide +kernel
theorem zi_55_42 : zI 55 42 = some (.ireturn, []) := by decide +kernel
theorem zi_55_43 : zI 55 43 = some (.iinc 3 1, []) := by decide +kernel
theorem zi_55_46 : zI 55 46 = some (.goto (-44), [2]) := by decide +kernel
theorem zi_55_49 : zI 55 49 = some (.iconst 1, []) := by decide +kernel
theorem zi_55_50 : zI 55 50 = some (.ireturn, []) := by decide +kernel
/-! lines: what is asked -/
section
variable {b : Nat} {F : Nat → Nat → Int32} {g : Nat → Nat} {h : zH}
theorem l_firstOf (hb : b + 71 ≤ h.length) (t : Int32) (hn : g 1 ≤ 70) (i : Nat) (hi : i ≤ g 1) (ha : ∀ j, j < i → F 5 j ≠ t) : zev 52 2 [some (.ref (b + 1)), some (.int t), some (.int (nI i))] [] (nput b F g h) (zQi (nput b F g h) fun r => ∀ l, l < g 1 → F 5 l = t → r ≤ nI l) := by
  refine zev_of (fun _ kk => zr_iload_n (pc' := 3) zi_52_2 rfl rfl kk) ?_
  refine zev_of (fun _ kk => zr_aload_n (pc' := 4) zi_52_3 rfl rfl kk) ?_
  refine zev_of (fun _ kk => zr_get (pc' := 7) zi_52_4 (nput_at hb (k := 1) rfl) rfl rfl kk) ?_
  refine zv_icmp (pc' := 10) zi_52_7 rfl (fun h7 => ?_) (fun h7 => ?_)
  · replace h7 := zc_ge_t (by omega) (by omega) h7
    refine zev_of (fun _ kk => zr_iconst (v := (-1)) (pc' := 31) zi_52_30 rfl rfl kk) ?_
    refine zev_ret (zr_ireturn zi_52_31 rfl) ?_
    refine ⟨_, ?_, rfl⟩
    intro l hl he
    exact absurd he (ha l (by omega))
  · replace h7 := zc_ge_f (by omega) (by omega) h7
    refine zev_of (fun _ kk => zr_aload_n (pc' := 11) zi_52_10 rfl rfl kk) ?_
    refine zev_of (fun _ kk => zr_get (pc' := 14) zi_52_11 (nput_at hb (k := 1) rfl) rfl rfl kk) ?_
    refine zev_of (fun _ kk => zr_iload_n (pc' := 15) zi_52_14 rfl rfl kk) ?_
    refine zev_of (fun _ kk => zr_atN (pc' := 18) (by omega) zi_52_15 hb rfl rfl (by decide) rfl rfl kk) ?_
    refine zev_of (fun _ kk => zr_iload_n (pc' := 19) zi_52_18 rfl rfl kk) ?_
    refine zv_icmp (pc' := 22) zi_52_19 rfl (fun h19 => ?_) (fun h19 => ?_)
    · replace h19 := zc_ne_t h19
      refine zev_of (fun _ kk => zr_iinc (pc' := 27) zi_52_24 rfl (by first | exact n_inc _ | rfl) rfl rfl kk) ?_
      dsimp only [zst1, zst2, zkill, List.set, List.getElem?_cons_succ, List.getElem?_cons_zero]
      refine zev_of (fun _ kk => zr_goto zi_52_27 kk) ?_
      exact l_firstOf hb t hn (i + 1) (by omega) (fun j hj => by rcases Nat.lt_or_ge j i with q | q; exact ha j q; exact (show j = i by omega) ▸ h19)
    · replace h19 := zc_ne_f h19
      refine zev_of (fun _ kk => zr_iload_n (pc' := 23) zi_52_22 rfl rfl kk) ?_
      refine zev_ret (zr_ireturn zi_52_23 rfl) ?_
      refine ⟨_, ?_, rfl⟩
      intro l hl he
      refine nI_le ?_ (by omega)
      rcases Nat.lt_or_ge l i with q | q
      · exact absurd he (ha l q)
      · exact q
termination_by g 1 - i
theorem c_firstOf (hb : b + 71 ≤ h.length) (t : Int32) (hn : g 1 ≤ 70) : ∃ r, (∀ l, l < g 1 → F 5 l = t → r ≤ nI l) ∧ zcalls zTB 52 [.ref (b + 1), .int t] (nput b F g h) (some (.int r), nput b F g h) := by
  refine zQi_out (zev_calls (Nat.le_of_ble_eq_true rfl) ?_)
  show zev 52 0 [some (.ref (b + 1)), some (.int t), none] [] _ _
  refine zev_of (fun _ kk => zr_iconst (v := (nI 0)) (pc' := 1) zi_52_0 rfl rfl kk) ?_
  refine zev_of (fun _ kk => zr_istore_n (pc' := 2) zi_52_1 (Nat.le_of_ble_eq_true rfl) rfl rfl kk) ?_
  dsimp only [zst1, zst2, zkill, List.set, List.getElem?_cons_succ, List.getElem?_cons_zero]
  exact l_firstOf hb t hn 0 (by omega) (fun j hj => absurd hj (by omega))
theorem l_worstLevelOf (hb : b + 71 ≤ h.length) (t : Int32) (hn : g 1 ≤ 70) (i : Nat) (w : Int32) (hi : i ≤ g 1) (ha : ∀ j, j < i → F 5 j = t → F 2 j ≤ w) : zev 53 4 [some (.ref (b + 1)), some (.int t), some (.int w), some (.int (nI i))] [] (nput b F g h) (zQi (nput b F g h) fun r => ∀ l, l < g 1 → F 5 l = t → F 2 l ≤ r) := by
  refine zev_of (fun _ kk => zr_iload_n (pc' := 5) zi_53_4 rfl rfl kk) ?_
  refine zev_of (fun _ kk => zr_aload_n (pc' := 6) zi_53_5 rfl rfl kk) ?_
  refine zev_of (fun _ kk => zr_get (pc' := 9) zi_53_6 (nput_at hb (k := 1) rfl) rfl rfl kk) ?_
  refine zv_icmp (pc' := 12) zi_53_9 rfl (fun h9 => ?_) (fun h9 => ?_)
  · replace h9 := zc_ge_t (by omega) (by omega) h9
    refine zev_of (fun _ kk => zr_iload_n (pc' := 52) zi_53_51 rfl rfl kk) ?_
    refine zev_ret (zr_ireturn zi_53_52 rfl) ?_
    refine ⟨_, ?_, rfl⟩
    intro l hl he
    exact ha l (by omega) he
  · replace h9 := zc_ge_f (by omega) (by omega) h9
    refine zev_of (fun _ kk => zr_aload_n (pc' := 13) zi_53_12 rfl rfl kk) ?_
    refine zev_of (fun _ kk => zr_get (pc' := 16) zi_53_13 (nput_at hb (k := 1) rfl) rfl rfl kk) ?_
    refine zev_of (fun _ kk => zr_iload_n (pc' := 17) zi_53_16 rfl rfl kk) ?_
    refine zev_of (fun _ kk => zr_atN (pc' := 20) (by omega) zi_53_17 hb rfl rfl (by decide) rfl rfl kk) ?_
    refine zev_of (fun _ kk => zr_iload_n (pc' := 21) zi_53_20 rfl rfl kk) ?_
    refine zv_icmp (pc' := 24) zi_53_21 rfl (fun h21 => ?_) (fun h21 => ?_)
    · replace h21 := zc_ne_t h21
      refine zev_of (fun _ kk => zr_iinc (pc' := 48) zi_53_45 rfl (by first | exact n_inc _ | rfl) rfl rfl kk) ?_
      dsimp only [zst1, zst2, zkill, List.set, List.getElem?_cons_succ, List.getElem?_cons_zero]
      refine zev_of (fun _ kk => zr_goto zi_53_48 kk) ?_
      exact l_worstLevelOf hb t hn (i + 1) w (by omega) (fun j hj he => by rcases Nat.lt_or_ge j i with q | q; exact ha j q he; exact absurd ((show j = i by omega) ▸ he) h21)
    · replace h21 := zc_ne_f h21
      refine zev_of (fun _ kk => zr_aload_n (pc' := 25) zi_53_24 rfl rfl kk) ?_
      refine zev_of (fun _ kk => zr_get (pc' := 28) zi_53_25 (nput_at hb (k := 1) rfl) rfl rfl kk) ?_
      refine zev_of (fun _ kk => zr_iload_n (pc' := 29) zi_53_28 rfl rfl kk) ?_
      refine zev_of (fun _ kk => zr_atN (pc' := 32) (by omega) zi_53_29 hb rfl rfl (by decide) rfl rfl kk) ?_
      refine zev_of (fun _ kk => zr_iload_n (pc' := 33) zi_53_32 rfl rfl kk) ?_
      refine zv_icmp (pc' := 36) zi_53_33 rfl (fun h33 => ?_) (fun h33 => ?_)
      · replace h33 := zx_le_t h33
        refine zev_of (fun _ kk => zr_iinc (pc' := 48) zi_53_45 rfl (by first | exact n_inc _ | rfl) rfl rfl kk) ?_
        dsimp only [zst1, zst2, zkill, List.set, List.getElem?_cons_succ, List.getElem?_cons_zero]
        refine zev_of (fun _ kk => zr_goto zi_53_48 kk) ?_
        exact l_worstLevelOf hb t hn (i + 1) w (by omega) (fun j hj he => by rcases Nat.lt_or_ge j i with q | q; exact ha j q he; exact (show j = i by omega) ▸ h33)
      · replace h33 := zx_le_f h33
        refine zev_of (fun _ kk => zr_aload_n (pc' := 37) zi_53_36 rfl rfl kk) ?_
        refine zev_of (fun _ kk => zr_get (pc' := 40) zi_53_37 (nput_at hb (k := 1) rfl) rfl rfl kk) ?_
        refine zev_of (fun _ kk => zr_iload_n (pc' := 41) zi_53_40 rfl rfl kk) ?_
        refine zev_of (fun _ kk => zr_atN (pc' := 44) (by omega) zi_53_41 hb rfl rfl (by decide) rfl rfl kk) ?_
        refine zev_of (fun _ kk => zr_istore_n (pc' := 45) zi_53_44 (Nat.le_of_ble_eq_true rfl) rfl rfl kk) ?_
        dsimp only [zst1, zst2, zkill, List.set, List.getElem?_cons_succ, List.getElem?_cons_zero]
        refine zev_of (fun _ kk => zr_iinc (pc' := 48) zi_53_45 rfl (by first | exact n_inc _ | rfl) rfl rfl kk) ?_
        dsimp only [zst1, zst2, zkill, List.set, List.getElem?_cons_succ, List.getElem?_cons_zero]
        refine zev_of (fun _ kk => zr_goto zi_53_48 kk) ?_
        have h33' := Int32.not_le.mp h33
        exact l_worstLevelOf hb t hn (i + 1) _ (by omega) (fun j hj he => by
          rcases Nat.lt_or_ge j i with q | q
          · exact Int32.le_trans (ha j q he) (Int32.le_of_lt h33')
          · rw [show j = i by omega]
            exact Int32.le_refl _)
termination_by g 1 - i
theorem c_worstLevelOf (hb : b + 71 ≤ h.length) (t : Int32) (hn : g 1 ≤ 70) : ∃ r, (∀ l, l < g 1 → F 5 l = t → F 2 l ≤ r) ∧ zcalls zTB 53 [.ref (b + 1), .int t] (nput b F g h) (some (.int r), nput b F g h) := by
  refine zQi_out (zev_calls (Nat.le_of_ble_eq_true rfl) ?_)
  show zev 53 0 [some (.ref (b + 1)), some (.int t), none, none] [] _ _
  refine zev_of (fun _ kk => zr_iconst (v := (nI 0)) (pc' := 1) zi_53_0 rfl rfl kk) ?_
  refine zev_of (fun _ kk => zr_istore_n (pc' := 2) zi_53_1 (Nat.le_of_ble_eq_true rfl) rfl rfl kk) ?_
  dsimp only [zst1, zst2, zkill, List.set, List.getElem?_cons_succ, List.getElem?_cons_zero]
  refine zev_of (fun _ kk => zr_iconst (v := (nI 0)) (pc' := 3) zi_53_2 rfl rfl kk) ?_
  refine zev_of (fun _ kk => zr_istore_n (pc' := 4) zi_53_3 (Nat.le_of_ble_eq_true rfl) rfl rfl kk) ?_
  dsimp only [zst1, zst2, zkill, List.set, List.getElem?_cons_succ, List.getElem?_cons_zero]
  exact l_worstLevelOf hb t hn 0 _ (by omega) (fun j hj => absurd hj (by omega))
theorem l_isNewWord (hb : b + 71 ≤ h.length) (i p j : Nat) (hn : i ≤ 70) (hp : i * 8 + p < 560) (hj : j ≤ i) : zev 55 2 [some (.ref (b + 1)), some (.int (nI i)), some (.int (nI p)), some (.int (nI j))] [] (nput b F g h) (zQi (nput b F g h) fun r => r = 0 ∨ r = 1) := by
  refine zev_of (fun _ kk => zr_iload_n (pc' := 3) zi_55_2 rfl rfl kk) ?_
  refine zev_of (fun _ kk => zr_iload_n (pc' := 4) zi_55_3 rfl rfl kk) ?_
  refine zv_icmp (pc' := 7) zi_55_4 rfl (fun h4 => ?_) (fun h4 => ?_)
  · replace h4 := zc_ge_t (by omega) (by omega) h4
    refine zev_of (fun _ kk => zr_iconst (v := (nI 1)) (pc' := 50) zi_55_49 rfl rfl kk) ?_
    refine zev_ret (zr_zreturn zi_55_50 rfl (by decide)) ?_
    exact ⟨_, .inr rfl, rfl⟩
  · replace h4 := zc_ge_f (by omega) (by omega) h4
    refine zev_of (fun _ kk => zr_aload_n (pc' := 8) zi_55_7 rfl rfl kk) ?_
    refine zev_of (fun _ kk => zr_get (pc' := 11) zi_55_8 (nput_at hb (k := 1) rfl) rfl rfl kk) ?_
    refine zev_of (fun _ kk => zr_iload_n (pc' := 12) zi_55_11 rfl rfl kk) ?_
    refine zev_of (fun _ kk => zr_atN (pc' := 15) (by omega) zi_55_12 hb rfl rfl (by decide) rfl rfl kk) ?_
    refine zev_of (fun _ kk => zr_aload_n (pc' := 16) zi_55_15 rfl rfl kk) ?_
    refine zev_of (fun _ kk => zr_get (pc' := 19) zi_55_16 (nput_at hb (k := 1) rfl) rfl rfl kk) ?_
    refine zev_of (fun _ kk => zr_iload_n (pc' := 20) zi_55_19 rfl rfl kk) ?_
    refine zev_of (fun _ kk => zr_atN (pc' := 23) (by omega) zi_55_20 hb rfl rfl (by decide) rfl rfl kk) ?_
    refine zv_icmp (pc' := 26) zi_55_23 rfl (fun h23 => ?_) (fun h23 => ?_)
    · replace h23 := zc_ne_t h23
      refine zev_of (fun _ kk => zr_iinc (pc' := 46) zi_55_43 rfl (by first | exact n_inc _ | rfl) rfl rfl kk) ?_
      dsimp only [zst1, zst2, zkill, List.set, List.getElem?_cons_succ, List.getElem?_cons_zero]
      refine zev_of (fun _ kk => zr_goto zi_55_46 kk) ?_
      exact l_isNewWord hb i p (j + 1) hn hp (by omega)
    · replace h23 := zc_ne_f h23
      refine zev_of (fun _ kk => zr_aload_n (pc' := 27) zi_55_26 rfl rfl kk) ?_
      refine zev_of (fun _ kk => zr_iload_n (pc' := 28) zi_55_27 rfl rfl kk) ?_
      refine zev_of (fun _ kk => zr_iload_n (pc' := 29) zi_55_28 rfl rfl kk) ?_
      refine zev_of (fun _ kk => zr_v2 (pc' := 32) zi_55_29 (nput_at hb (k := 1) rfl) rfl (c_wordIn hb _ _ (by omega)) rfl kk) ?_
      refine zev_of (fun _ kk => zr_aload_n (pc' := 33) zi_55_32 rfl rfl kk) ?_
      refine zev_of (fun _ kk => zr_iload_n (pc' := 34) zi_55_33 rfl rfl kk) ?_
      refine zev_of (fun _ kk => zr_iload_n (pc' := 35) zi_55_34 rfl rfl kk) ?_
      refine zev_of (fun _ kk => zr_v2 (pc' := 38) zi_55_35 (nput_at hb (k := 1) rfl) rfl (c_wordIn hb _ _ (by omega)) rfl kk) ?_
      refine zv_icmp (pc' := 41) zi_55_38 rfl (fun h38 => ?_) (fun h38 => ?_)
      · replace h38 := zc_ne_t h38
        refine zev_of (fun _ kk => zr_iinc (pc' := 46) zi_55_43 rfl (by first | exact n_inc _ | rfl) rfl rfl kk) ?_
        dsimp only [zst1, zst2, zkill, List.set, List.getElem?_cons_succ, List.getElem?_cons_zero]
        refine zev_of (fun _ kk => zr_goto zi_55_46 kk) ?_
        exact l_isNewWord hb i p (j + 1) hn hp (by omega)
      · replace h38 := zc_ne_f h38
        refine zev_of (fun _ kk => zr_iconst (v := (nI 0)) (pc' := 42) zi_55_41 rfl rfl kk) ?_
        refine zev_ret (zr_zreturn zi_55_42 rfl (by decide)) ?_
        exact ⟨_, .inl rfl, rfl⟩
termination_by i - j
theorem c_isNewWord (hb : b + 71 ≤ h.length) (i p : Nat) (hn : i ≤ 70) (hp : i * 8 + p < 560) : ∃ r, (r = 0 ∨ r = 1) ∧ zcalls zTB 55 [.ref (b + 1), .int (nI i), .int (nI p)] (nput b F g h) (some (.int r), nput b F g h) := by
  refine zQi_out (zev_calls (Nat.le_of_ble_eq_true rfl) ?_)
  show zev 55 0 [some (.ref (b + 1)), some (.int (nI i)), some (.int (nI p)), none] [] _ _
  refine zev_of (fun _ kk => zr_iconst (v := (nI 0)) (pc' := 1) zi_55_0 rfl rfl kk) ?_
  refine zev_of (fun _ kk => zr_istore_n (pc' := 2) zi_55_1 (Nat.le_of_ble_eq_true rfl) rfl rfl kk) ?_
  dsimp only [zst1, zst2, zkill, List.set, List.getElem?_cons_succ, List.getElem?_cons_zero]
  exact l_isNewWord hb i p 0 hn hp (by omega)
theorem l_howManyWordsOf (hb : b + 71 ≤ h.length) (t : Int32) (p : Nat) (hp : p < 8) (hn : g 1 ≤ 70) (i a : Nat) (hi : i ≤ g 1) (ha : a ≤ zcnt (fun j => decide (F 5 j = t)) i) : zev 54 5 [some (.ref (b + 1)), some (.int t), some (.int (nI p)), some (.int (nI a)), some (.int (nI i))] [] (nput b F g h) (zQi (nput b F g h) fun r => ∃ a, r = nI a ∧ a ≤ zcnt (fun j => decide (F 5 j = t)) (g 1)) := by
  refine zev_of (fun _ kk => zr_iload (pc' := 7) zi_54_5 rfl rfl kk) ?_
  refine zev_of (fun _ kk => zr_aload_n (pc' := 8) zi_54_7 rfl rfl kk) ?_
  refine zev_of (fun _ kk => zr_get (pc' := 11) zi_54_8 (nput_at hb (k := 1) rfl) rfl rfl kk) ?_
  refine zv_icmp (pc' := 14) zi_54_11 rfl (fun h11 => ?_) (fun h11 => ?_)
  · replace h11 := zc_ge_t (by omega) (by omega) h11
    refine zev_of (fun _ kk => zr_iload_n (pc' := 47) zi_54_46 rfl rfl kk) ?_
    refine zev_ret (zr_ireturn zi_54_47 rfl) ?_
    have e : i = g 1 := by omega
    exact ⟨_, ⟨a, rfl, e ▸ ha⟩, rfl⟩
  · replace h11 := zc_ge_f (by omega) (by omega) h11
    refine zev_of (fun _ kk => zr_aload_n (pc' := 15) zi_54_14 rfl rfl kk) ?_
    refine zev_of (fun _ kk => zr_get (pc' := 18) zi_54_15 (nput_at hb (k := 1) rfl) rfl rfl kk) ?_
    refine zev_of (fun _ kk => zr_iload (pc' := 20) zi_54_18 rfl rfl kk) ?_
    refine zev_of (fun _ kk => zr_atN (pc' := 23) (by omega) zi_54_20 hb rfl rfl (by decide) rfl rfl kk) ?_
    refine zev_of (fun _ kk => zr_iload_n (pc' := 24) zi_54_23 rfl rfl kk) ?_
    refine zv_icmp (pc' := 27) zi_54_24 rfl (fun h24 => ?_) (fun h24 => ?_)
    · replace h24 := zc_ne_t h24
      refine zev_of (fun _ kk => zr_iinc (pc' := 43) zi_54_40 rfl (by first | exact n_inc _ | rfl) rfl rfl kk) ?_
      dsimp only [zst1, zst2, zkill, List.set, List.getElem?_cons_succ, List.getElem?_cons_zero]
      refine zev_of (fun _ kk => zr_goto zi_54_43 kk) ?_
      exact l_howManyWordsOf hb t p hp hn (i + 1) a (by omega) (by rw [zcnt_f (by simpa using h24)]; exact ha)
    · replace h24 := zc_ne_f h24
      refine zev_of (fun _ kk => zr_aload_n (pc' := 28) zi_54_27 rfl rfl kk) ?_
      refine zev_of (fun _ kk => zr_iload (pc' := 30) zi_54_28 rfl rfl kk) ?_
      refine zev_of (fun _ kk => zr_iload_n (pc' := 31) zi_54_30 rfl rfl kk) ?_
      obtain ⟨r, hr, hc⟩ := c_isNewWord hb (F := F) (g := g) i p (by omega) (by omega)
      refine zev_of (fun _ kk => zr_v2 (pc' := 34) zi_54_31 (nput_at hb (k := 1) rfl) rfl hc rfl kk) ?_
      refine zv_if (pc' := 37) zi_54_34 rfl (fun h34 => ?_) (fun h34 => ?_)
      · replace h34 := zc_eq_t h34
        refine zev_of (fun _ kk => zr_iinc (pc' := 43) zi_54_40 rfl (by first | exact n_inc _ | rfl) rfl rfl kk) ?_
        dsimp only [zst1, zst2, zkill, List.set, List.getElem?_cons_succ, List.getElem?_cons_zero]
        refine zev_of (fun _ kk => zr_goto zi_54_43 kk) ?_
        exact l_howManyWordsOf hb t p hp hn (i + 1) a (by omega) (by rw [zcnt_t (by simpa using h24)]; omega)
      · replace h34 := zc_eq_f h34
        refine zev_of (fun _ kk => zr_iinc (pc' := 40) zi_54_37 rfl (by first | exact n_inc _ | rfl) rfl rfl kk) ?_
        dsimp only [zst1, zst2, zkill, List.set, List.getElem?_cons_succ, List.getElem?_cons_zero]
        refine zev_of (fun _ kk => zr_iinc (pc' := 43) zi_54_40 rfl (by first | exact n_inc _ | rfl) rfl rfl kk) ?_
        dsimp only [zst1, zst2, zkill, List.set, List.getElem?_cons_succ, List.getElem?_cons_zero]
        refine zev_of (fun _ kk => zr_goto zi_54_43 kk) ?_
        exact l_howManyWordsOf hb t p hp hn (i + 1) (a + 1) (by omega) (by rw [zcnt_t (by simpa using h24)]; omega)
termination_by g 1 - i
theorem c_howManyWordsOf (hb : b + 71 ≤ h.length) (t : Int32) (p : Nat) (hp : p < 8) (hn : g 1 ≤ 70) : ∃ r, (∃ a, r = nI a ∧ a ≤ zcnt (fun j => decide (F 5 j = t)) (g 1)) ∧ zcalls zTB 54 [.ref (b + 1), .int t, .int (nI p)] (nput b F g h) (some (.int r), nput b F g h) := by
  refine zQi_out (zev_calls (Nat.le_of_ble_eq_true rfl) ?_)
  show zev 54 0 [some (.ref (b + 1)), some (.int t), some (.int (nI p)), none, none] [] _ _
  refine zev_of (fun _ kk => zr_iconst (v := (nI 0)) (pc' := 1) zi_54_0 rfl rfl kk) ?_
  refine zev_of (fun _ kk => zr_istore_n (pc' := 2) zi_54_1 (Nat.le_of_ble_eq_true rfl) rfl rfl kk) ?_
  dsimp only [zst1, zst2, zkill, List.set, List.getElem?_cons_succ, List.getElem?_cons_zero]
  refine zev_of (fun _ kk => zr_iconst (v := (nI 0)) (pc' := 3) zi_54_2 rfl rfl kk) ?_
  refine zev_of (fun _ kk => zr_istore (pc' := 5) zi_54_3 (Nat.le_of_ble_eq_true rfl) rfl rfl kk) ?_
  dsimp only [zst1, zst2, zkill, List.set, List.getElem?_cons_succ, List.getElem?_cons_zero]
  exact l_howManyWordsOf hb t p hp hn 0 0 (by omega) (by omega)
/-- the window of a time -/
def zqu (x w : Int32) : Int32 := if w = 0 then 0 else x / w
theorem l_howManyBetween (hb : b + 71 ≤ h.length) (t u v w : Int32) (hn : g 1 ≤ 70) (i : Nat) (hi : i ≤ g 1) (X : Option Value) : zruns zTB 31 6 [some (.ref (b + 1)), some (.int t), some (.int u), some (.int v), some (.int w), some (.int (nI (zcnt (fun j => decide (F 5 j = t ∧ u ≤ zqu (F 0 j) w ∧ zqu (F 0 j) w ≤ v)) i))), some (.int (nI i)), X] [] (nput b F g h) (some (.int (nI (zcnt (fun j => decide (F 5 j = t ∧ u ≤ zqu (F 0 j) w ∧ zqu (F 0 j) w ≤ v)) (g 1)))), nput b F g h) := by
  refine zr_iload (pc' := 8) zi_31_6 rfl rfl ?_
  refine zr_aload_n (pc' := 9) zi_31_8 rfl rfl ?_
  refine zr_get (pc' := 12) zi_31_9 (nput_at hb (k := 1) rfl) rfl rfl ?_
  refine zr_icmp (pc' := 15) zi_31_12 rfl (fun h12 => ?_) (fun h12 => ?_)
  · replace h12 := zc_ge_t (by omega) (by omega) h12
    refine zr_iload (pc' := 67) zi_31_65 rfl rfl ?_
    have e : i = g 1 := by omega
    subst e
    exact zr_ireturn zi_31_67 rfl
  · replace h12 := zc_ge_f (by omega) (by omega) h12
    refine zr_aload_n (pc' := 16) zi_31_15 rfl rfl ?_
    refine zr_get (pc' := 19) zi_31_16 (nput_at hb (k := 1) rfl) rfl rfl ?_
    refine zr_iload (pc' := 21) zi_31_19 rfl rfl ?_
    refine zr_atN (pc' := 24) (by omega) zi_31_21 hb rfl rfl (by decide) rfl rfl ?_
    refine zr_iload (pc' := 26) zi_31_24 rfl rfl ?_
    have hq : zcalls zTB 17 [.int (F 0 i), .int w] (nput b F g h) (some (.int (zqu (F 0 i) w)), nput b F g h) := c_quotient _ _
    refine zr_s2 (pc' := 29) zi_31_26 rfl hq rfl ?_
    refine zr_istore (pc' := 31) zi_31_29 (Nat.le_of_ble_eq_true rfl) rfl rfl ?_
    dsimp only [zst1, zst2, zkill, List.set, List.getElem?_cons_succ, List.getElem?_cons_zero]
    refine zr_aload_n (pc' := 32) zi_31_31 rfl rfl ?_
    refine zr_get (pc' := 35) zi_31_32 (nput_at hb (k := 1) rfl) rfl rfl ?_
    refine zr_iload (pc' := 37) zi_31_35 rfl rfl ?_
    refine zr_atN (pc' := 40) (by omega) zi_31_37 hb rfl rfl (by decide) rfl rfl ?_
    refine zr_iload_n (pc' := 41) zi_31_40 rfl rfl ?_
    refine zr_icmp (pc' := 44) zi_31_41 rfl (fun h41 => ?_) (fun h41 => ?_)
    · replace h41 := zc_ne_t h41
      refine zr_iinc (pc' := 62) zi_31_59 rfl (by first | exact n_inc _ | rfl) rfl rfl ?_
      dsimp only [zst1, zst2, zkill, List.set, List.getElem?_cons_succ, List.getElem?_cons_zero]
      refine zr_goto zi_31_62 ?_
      have ih := l_howManyBetween hb t u v w hn (i + 1) (by omega) (some (.int (zqu (F 0 i) w)))
      rw [zcnt_f (by simp [h41])] at ih
      exact ih
    · replace h41 := zc_ne_f h41
      refine zr_iload (pc' := 46) zi_31_44 rfl rfl ?_
      refine zr_iload_n (pc' := 47) zi_31_46 rfl rfl ?_
      refine zr_icmp (pc' := 50) zi_31_47 rfl (fun h47 => ?_) (fun h47 => ?_)
      · replace h47 := zx_lt_t h47
        refine zr_iinc (pc' := 62) zi_31_59 rfl (by first | exact n_inc _ | rfl) rfl rfl ?_
        dsimp only [zst1, zst2, zkill, List.set, List.getElem?_cons_succ, List.getElem?_cons_zero]
        refine zr_goto zi_31_62 ?_
        have ih := l_howManyBetween hb t u v w hn (i + 1) (by omega) (some (.int (zqu (F 0 i) w)))
        rw [zcnt_f (by simp only [decide_eq_false_iff_not]; exact fun q => absurd q.2.1 (Int32.not_le.mpr h47))] at ih
        exact ih
      · replace h47 := zx_lt_f h47
        refine zr_iload (pc' := 52) zi_31_50 rfl rfl ?_
        refine zr_iload_n (pc' := 53) zi_31_52 rfl rfl ?_
        refine zr_icmp (pc' := 56) zi_31_53 rfl (fun h53 => ?_) (fun h53 => ?_)
        · replace h53 := zx_gt_t h53
          refine zr_iinc (pc' := 62) zi_31_59 rfl (by first | exact n_inc _ | rfl) rfl rfl ?_
          dsimp only [zst1, zst2, zkill, List.set, List.getElem?_cons_succ, List.getElem?_cons_zero]
          refine zr_goto zi_31_62 ?_
          have ih := l_howManyBetween hb t u v w hn (i + 1) (by omega) (some (.int (zqu (F 0 i) w)))
          rw [zcnt_f (by simp only [decide_eq_false_iff_not]; exact fun q => absurd q.2.2 (Int32.not_le.mpr h53))] at ih
          exact ih
        · replace h53 := zx_gt_f h53
          refine zr_iinc (pc' := 59) zi_31_56 rfl (by first | exact n_inc _ | rfl) rfl rfl ?_
          dsimp only [zst1, zst2, zkill, List.set, List.getElem?_cons_succ, List.getElem?_cons_zero]
          refine zr_iinc (pc' := 62) zi_31_59 rfl (by first | exact n_inc _ | rfl) rfl rfl ?_
          dsimp only [zst1, zst2, zkill, List.set, List.getElem?_cons_succ, List.getElem?_cons_zero]
          refine zr_goto zi_31_62 ?_
          have ih := l_howManyBetween hb t u v w hn (i + 1) (by omega) (some (.int (zqu (F 0 i) w)))
          rw [zcnt_t (by simp only [decide_eq_true_eq]; exact ⟨h41, Int32.not_lt.mp h47, Int32.not_lt.mp h53⟩)] at ih
          exact ih
termination_by g 1 - i
theorem c_howManyBetween (hb : b + 71 ≤ h.length) (t u v w : Int32) (hn : g 1 ≤ 70) : zcalls zTB 31 [.ref (b + 1), .int t, .int u, .int v, .int w] (nput b F g h) (some (.int (nI (zcnt (fun j => decide (F 5 j = t ∧ u ≤ zqu (F 0 j) w ∧ zqu (F 0 j) w ≤ v)) (g 1)))), nput b F g h) := by
  refine zcalls_of (Nat.le_of_ble_eq_true rfl) ?_
  show zruns zTB 31 0 [some (.ref (b + 1)), some (.int t), some (.int u), some (.int v), some (.int w), none, none, none] [] _ _
  refine zr_iconst (v := (nI 0)) (pc' := 1) zi_31_0 rfl rfl ?_
  refine zr_istore (pc' := 3) zi_31_1 (Nat.le_of_ble_eq_true rfl) rfl rfl ?_
  dsimp only [zst1, zst2, zkill, List.set, List.getElem?_cons_succ, List.getElem?_cons_zero]
  refine zr_iconst (v := (nI 0)) (pc' := 4) zi_31_3 rfl rfl ?_
  refine zr_istore (pc' := 6) zi_31_4 (Nat.le_of_ble_eq_true rfl) rfl rfl ?_
  dsimp only [zst1, zst2, zkill, List.set, List.getElem?_cons_succ, List.getElem?_cons_zero]
  exact l_howManyBetween hb t u v w hn 0 (by omega) none
/-- the line that a line goes on with, looked for below j -/
def zjn (F : Nat → Nat → Int32) (l : Nat) (gap : Int32) : Nat → Int32
  | 0 => -1
  | j + 1 => if F 6 j = F 6 l then (if F 0 l - F 0 j ≤ gap then nI j else -1) else zjn F l gap j
theorem l_joined (hb : b + 71 ≤ h.length) (l : Nat) (gap : Int32) (hl : l < 70) : ∀ j, j ≤ l → zruns zTB 32 4 [some (.ref (b + 1)), some (.int (nI l)), some (.int gap), some (.int (nI j - 1))] [] (nput b F g h) (some (.int (zjn F l gap j)), nput b F g h)
  | 0, hj => by
    refine zr_iload_n (pc' := 5) zi_32_4 rfl rfl ?_
    refine zr_if (pc' := 8) zi_32_5 rfl (fun h5 => ?_) (fun h5 => ?_)
    · replace h5 := zx_lt_t h5
      refine zr_iconst (v := (-1)) (pc' := 61) zi_32_60 rfl rfl ?_
      exact zr_ireturn zi_32_61 rfl
    · replace h5 := zx_lt_f h5
      exact absurd (by decide : nI 0 - 1 < 0) h5
  | j + 1, hj => by
    rw [nI_pred]
    refine zr_iload_n (pc' := 5) zi_32_4 rfl rfl ?_
    refine zr_if (pc' := 8) zi_32_5 rfl (fun h5 => ?_) (fun h5 => ?_)
    · replace h5 := zx_lt_t h5
      exact absurd h5 (nI_pos (by omega))
    · replace h5 := zx_lt_f h5
      refine zr_aload_n (pc' := 9) zi_32_8 rfl rfl ?_
      refine zr_get (pc' := 12) zi_32_9 (nput_at hb (k := 1) rfl) rfl rfl ?_
      refine zr_iload_n (pc' := 13) zi_32_12 rfl rfl ?_
      refine zr_atN (pc' := 16) (by omega) zi_32_13 hb rfl rfl (by decide) rfl rfl ?_
      refine zr_aload_n (pc' := 17) zi_32_16 rfl rfl ?_
      refine zr_get (pc' := 20) zi_32_17 (nput_at hb (k := 1) rfl) rfl rfl ?_
      refine zr_iload_n (pc' := 21) zi_32_20 rfl rfl ?_
      refine zr_atN (pc' := 24) (by omega) zi_32_21 hb rfl rfl (by decide) rfl rfl ?_
      refine zr_icmp (pc' := 27) zi_32_24 rfl (fun h24 => ?_) (fun h24 => ?_)
      · replace h24 := zc_ne_t h24
        refine zr_iinc (pc' := 57) zi_32_54 rfl (n_dec _) rfl rfl ?_
        dsimp only [zst1, zst2, zkill, List.set, List.getElem?_cons_succ, List.getElem?_cons_zero]
        refine zr_goto zi_32_57 ?_
        rw [zjn, if_neg h24]
        exact l_joined hb l gap hl j (by omega)
      · replace h24 := zc_ne_f h24
        refine zr_aload_n (pc' := 28) zi_32_27 rfl rfl ?_
        refine zr_get (pc' := 31) zi_32_28 (nput_at hb (k := 1) rfl) rfl rfl ?_
        refine zr_iload_n (pc' := 32) zi_32_31 rfl rfl ?_
        refine zr_atN (pc' := 35) (by omega) zi_32_32 hb rfl rfl (by decide) rfl rfl ?_
        refine zr_aload_n (pc' := 36) zi_32_35 rfl rfl ?_
        refine zr_get (pc' := 39) zi_32_36 (nput_at hb (k := 1) rfl) rfl rfl ?_
        refine zr_iload_n (pc' := 40) zi_32_39 rfl rfl ?_
        refine zr_atN (pc' := 43) (by omega) zi_32_40 hb rfl rfl (by decide) rfl rfl ?_
        refine zr_isub (pc' := 44) zi_32_43 (by first | exact pk_sub (by omega) | rfl) rfl ?_
        refine zr_iload_n (pc' := 45) zi_32_44 rfl rfl ?_
        refine zr_icmp (pc' := 48) zi_32_45 rfl (fun h45 => ?_) (fun h45 => ?_)
        · replace h45 := zx_gt_t h45
          refine zr_iconst (v := (-1)) (pc' := 53) zi_32_52 rfl rfl ?_
          rw [zjn, if_pos h24, if_neg (Int32.not_le.mpr h45)]
          exact zr_ireturn zi_32_53 rfl
        · replace h45 := zx_gt_f h45
          refine zr_iload_n (pc' := 49) zi_32_48 rfl rfl ?_
          refine zr_goto zi_32_49 ?_
          rw [zjn, if_pos h24, if_pos (Int32.not_lt.mp h45)]
          exact zr_ireturn zi_32_53 rfl
theorem c_joined (hb : b + 71 ≤ h.length) (l : Nat) (gap : Int32) (hl : l < 70) : zcalls zTB 32 [.ref (b + 1), .int (nI l), .int gap] (nput b F g h) (some (.int (zjn F l gap l)), nput b F g h) := by
  refine zcalls_of (Nat.le_of_ble_eq_true rfl) ?_
  show zruns zTB 32 0 [some (.ref (b + 1)), some (.int (nI l)), some (.int gap), none] [] _ _
  refine zr_iload_n (pc' := 1) zi_32_0 rfl rfl ?_
  refine zr_iconst (v := (nI 1)) (pc' := 2) zi_32_1 rfl rfl ?_
  refine zr_isub (pc' := 3) zi_32_2 rfl rfl ?_
  refine zr_istore_n (pc' := 4) zi_32_3 (Nat.le_of_ble_eq_true rfl) rfl rfl ?_
  dsimp only [zst1, zst2, zkill, List.set, List.getElem?_cons_succ, List.getElem?_cons_zero]
  exact l_joined hb l gap hl l (by omega)
theorem c_isInScene (hb : b + 71 ≤ h.length) (o l : Nat) (back : Int32) (ho : o < 70) (hl : l < 70) (hn : g 1 ≤ 70) : ∃ r, ((r = 0 ∨ r = 1) ∧ (r ≠ 0 → o < l ∧ o < g 1 ∧ F 0 l - back ≤ F 0 o)) ∧ zcalls zTB 33 [.ref (b + 1), .int (nI o), .int (nI l), .int back] (nput b F g h) (some (.int r), nput b F g h) := by
  refine zQi_out (zev_calls (Nat.le_of_ble_eq_true rfl) ?_)
  show zev 33 0 [some (.ref (b + 1)), some (.int (nI o)), some (.int (nI l)), some (.int back), none] [] _ _
  refine zev_of (fun _ kk => zr_iload_n (pc' := 1) zi_33_0 rfl rfl kk) ?_
  refine zev_of (fun _ kk => zr_iload_n (pc' := 2) zi_33_1 rfl rfl kk) ?_
  refine zv_icmp (pc' := 5) zi_33_2 rfl (fun h2 => ?_) (fun h2 => ?_)
  · replace h2 := zc_ge_t (by omega) (by omega) h2
    refine zev_of (fun _ kk => zr_iconst (v := (nI 0)) (pc' := 35) zi_33_34 rfl rfl kk) ?_
    refine zev_ret (zr_zreturn zi_33_35 rfl (by decide)) ?_
    exact ⟨_, ⟨.inl rfl, fun q => absurd rfl q⟩, rfl⟩
  · replace h2 := zc_ge_f (by omega) (by omega) h2
    refine zev_of (fun _ kk => zr_iload_n (pc' := 6) zi_33_5 rfl rfl kk) ?_
    refine zev_of (fun _ kk => zr_aload_n (pc' := 7) zi_33_6 rfl rfl kk) ?_
    refine zev_of (fun _ kk => zr_get (pc' := 10) zi_33_7 (nput_at hb (k := 1) rfl) rfl rfl kk) ?_
    refine zv_icmp (pc' := 13) zi_33_10 rfl (fun h10 => ?_) (fun h10 => ?_)
    · replace h10 := zc_ge_t (by omega) (by omega) h10
      refine zev_of (fun _ kk => zr_iconst (v := (nI 0)) (pc' := 35) zi_33_34 rfl rfl kk) ?_
      refine zev_ret (zr_zreturn zi_33_35 rfl (by decide)) ?_
      exact ⟨_, ⟨.inl rfl, fun q => absurd rfl q⟩, rfl⟩
    · replace h10 := zc_ge_f (by omega) (by omega) h10
      refine zev_of (fun _ kk => zr_aload_n (pc' := 14) zi_33_13 rfl rfl kk) ?_
      refine zev_of (fun _ kk => zr_get (pc' := 17) zi_33_14 (nput_at hb (k := 1) rfl) rfl rfl kk) ?_
      refine zev_of (fun _ kk => zr_iload_n (pc' := 18) zi_33_17 rfl rfl kk) ?_
      refine zev_of (fun _ kk => zr_atN (pc' := 21) (by omega) zi_33_18 hb rfl rfl (by decide) rfl rfl kk) ?_
      refine zev_of (fun _ kk => zr_aload_n (pc' := 22) zi_33_21 rfl rfl kk) ?_
      refine zev_of (fun _ kk => zr_get (pc' := 25) zi_33_22 (nput_at hb (k := 1) rfl) rfl rfl kk) ?_
      refine zev_of (fun _ kk => zr_iload_n (pc' := 26) zi_33_25 rfl rfl kk) ?_
      refine zev_of (fun _ kk => zr_atN (pc' := 29) (by omega) zi_33_26 hb rfl rfl (by decide) rfl rfl kk) ?_
      refine zev_of (fun _ kk => zr_iload_n (pc' := 30) zi_33_29 rfl rfl kk) ?_
      refine zev_of (fun _ kk => zr_isub (pc' := 31) zi_33_30 (by first | exact pk_sub (by omega) | rfl) rfl kk) ?_
      refine zv_icmp (pc' := 34) zi_33_31 rfl (fun h31 => ?_) (fun h31 => ?_)
      · replace h31 := zx_ge_t h31
        refine zev_of (fun _ kk => zr_aload_n (pc' := 37) zi_33_36 rfl rfl kk) ?_
        refine zev_of (fun _ kk => zr_get (pc' := 40) zi_33_37 (nput_at hb (k := 1) rfl) rfl rfl kk) ?_
        refine zev_of (fun _ kk => zr_iload_n (pc' := 41) zi_33_40 rfl rfl kk) ?_
        refine zev_of (fun _ kk => zr_atN (pc' := 44) (by omega) zi_33_41 hb rfl rfl (by decide) rfl rfl kk) ?_
        refine zv_if (pc' := 47) zi_33_44 rfl (fun h44 => ?_) (fun h44 => ?_)
        · replace h44 := zx_lt_t h44
          refine zev_of (fun _ kk => zr_iconst (v := (nI 0)) (pc' := 71) zi_33_70 rfl rfl kk) ?_
          refine zev_of (fun _ kk => zr_istore (pc' := 73) zi_33_71 (Nat.le_of_ble_eq_true rfl) rfl rfl kk) ?_
          dsimp only [zst1, zst2, zkill, List.set, List.getElem?_cons_succ, List.getElem?_cons_zero]
          refine zev_of (fun _ kk => zr_iload (pc' := 75) zi_33_73 rfl rfl kk) ?_
          refine zv_if (pc' := 78) zi_33_75 rfl (fun h75 => ?_) (fun h75 => ?_)
          · replace h75 := zc_ne_t h75
            refine zev_of (fun _ kk => zr_iconst (v := (nI 1)) (pc' := 98) zi_33_97 rfl rfl kk) ?_
            refine zev_of (fun _ kk => zr_goto zi_33_98 kk) ?_
            refine zev_ret (zr_zreturn zi_33_102 rfl (by decide)) ?_
            exact ⟨_, ⟨by first | exact .inl rfl | exact .inr rfl, fun _ => ⟨h2, h10, h31⟩⟩, rfl⟩
          · replace h75 := zc_ne_f h75
            refine zev_of (fun _ kk => zr_aload_n (pc' := 79) zi_33_78 rfl rfl kk) ?_
            refine zev_of (fun _ kk => zr_get (pc' := 82) zi_33_79 (nput_at hb (k := 1) rfl) rfl rfl kk) ?_
            refine zev_of (fun _ kk => zr_iload_n (pc' := 83) zi_33_82 rfl rfl kk) ?_
            refine zev_of (fun _ kk => zr_atN (pc' := 86) (by omega) zi_33_83 hb rfl rfl (by decide) rfl rfl kk) ?_
            refine zev_of (fun _ kk => zr_aload_n (pc' := 87) zi_33_86 rfl rfl kk) ?_
            refine zev_of (fun _ kk => zr_get (pc' := 90) zi_33_87 (nput_at hb (k := 1) rfl) rfl rfl kk) ?_
            refine zev_of (fun _ kk => zr_iload_n (pc' := 91) zi_33_90 rfl rfl kk) ?_
            refine zev_of (fun _ kk => zr_atN (pc' := 94) (by omega) zi_33_91 hb rfl rfl (by decide) rfl rfl kk) ?_
            refine zv_icmp (pc' := 97) zi_33_94 rfl (fun h94 => ?_) (fun h94 => ?_)
            · replace h94 := zc_ne_t h94
              refine zev_of (fun _ kk => zr_iconst (v := (nI 0)) (pc' := 102) zi_33_101 rfl rfl kk) ?_
              refine zev_ret (zr_zreturn zi_33_102 rfl (by decide)) ?_
              exact ⟨_, ⟨by first | exact .inl rfl | exact .inr rfl, fun _ => ⟨h2, h10, h31⟩⟩, rfl⟩
            · replace h94 := zc_ne_f h94
              refine zev_of (fun _ kk => zr_iconst (v := (nI 1)) (pc' := 98) zi_33_97 rfl rfl kk) ?_
              refine zev_of (fun _ kk => zr_goto zi_33_98 kk) ?_
              refine zev_ret (zr_zreturn zi_33_102 rfl (by decide)) ?_
              exact ⟨_, ⟨by first | exact .inl rfl | exact .inr rfl, fun _ => ⟨h2, h10, h31⟩⟩, rfl⟩
        · replace h44 := zx_lt_f h44
          refine zev_of (fun _ kk => zr_aload_n (pc' := 48) zi_33_47 rfl rfl kk) ?_
          refine zev_of (fun _ kk => zr_get (pc' := 51) zi_33_48 (nput_at hb (k := 1) rfl) rfl rfl kk) ?_
          refine zev_of (fun _ kk => zr_iload_n (pc' := 52) zi_33_51 rfl rfl kk) ?_
          refine zev_of (fun _ kk => zr_atN (pc' := 55) (by omega) zi_33_52 hb rfl rfl (by decide) rfl rfl kk) ?_
          refine zev_of (fun _ kk => zr_aload_n (pc' := 56) zi_33_55 rfl rfl kk) ?_
          refine zev_of (fun _ kk => zr_get (pc' := 59) zi_33_56 (nput_at hb (k := 1) rfl) rfl rfl kk) ?_
          refine zev_of (fun _ kk => zr_iload_n (pc' := 60) zi_33_59 rfl rfl kk) ?_
          refine zev_of (fun _ kk => zr_atN (pc' := 63) (by omega) zi_33_60 hb rfl rfl (by decide) rfl rfl kk) ?_
          refine zv_icmp (pc' := 66) zi_33_63 rfl (fun h63 => ?_) (fun h63 => ?_)
          · replace h63 := zc_ne_t h63
            refine zev_of (fun _ kk => zr_iconst (v := (nI 0)) (pc' := 71) zi_33_70 rfl rfl kk) ?_
            refine zev_of (fun _ kk => zr_istore (pc' := 73) zi_33_71 (Nat.le_of_ble_eq_true rfl) rfl rfl kk) ?_
            dsimp only [zst1, zst2, zkill, List.set, List.getElem?_cons_succ, List.getElem?_cons_zero]
            refine zev_of (fun _ kk => zr_iload (pc' := 75) zi_33_73 rfl rfl kk) ?_
            refine zv_if (pc' := 78) zi_33_75 rfl (fun h75 => ?_) (fun h75 => ?_)
            · replace h75 := zc_ne_t h75
              refine zev_of (fun _ kk => zr_iconst (v := (nI 1)) (pc' := 98) zi_33_97 rfl rfl kk) ?_
              refine zev_of (fun _ kk => zr_goto zi_33_98 kk) ?_
              refine zev_ret (zr_zreturn zi_33_102 rfl (by decide)) ?_
              exact ⟨_, ⟨by first | exact .inl rfl | exact .inr rfl, fun _ => ⟨h2, h10, h31⟩⟩, rfl⟩
            · replace h75 := zc_ne_f h75
              refine zev_of (fun _ kk => zr_aload_n (pc' := 79) zi_33_78 rfl rfl kk) ?_
              refine zev_of (fun _ kk => zr_get (pc' := 82) zi_33_79 (nput_at hb (k := 1) rfl) rfl rfl kk) ?_
              refine zev_of (fun _ kk => zr_iload_n (pc' := 83) zi_33_82 rfl rfl kk) ?_
              refine zev_of (fun _ kk => zr_atN (pc' := 86) (by omega) zi_33_83 hb rfl rfl (by decide) rfl rfl kk) ?_
              refine zev_of (fun _ kk => zr_aload_n (pc' := 87) zi_33_86 rfl rfl kk) ?_
              refine zev_of (fun _ kk => zr_get (pc' := 90) zi_33_87 (nput_at hb (k := 1) rfl) rfl rfl kk) ?_
              refine zev_of (fun _ kk => zr_iload_n (pc' := 91) zi_33_90 rfl rfl kk) ?_
              refine zev_of (fun _ kk => zr_atN (pc' := 94) (by omega) zi_33_91 hb rfl rfl (by decide) rfl rfl kk) ?_
              refine zv_icmp (pc' := 97) zi_33_94 rfl (fun h94 => ?_) (fun h94 => ?_)
              · replace h94 := zc_ne_t h94
                refine zev_of (fun _ kk => zr_iconst (v := (nI 0)) (pc' := 102) zi_33_101 rfl rfl kk) ?_
                refine zev_ret (zr_zreturn zi_33_102 rfl (by decide)) ?_
                exact ⟨_, ⟨by first | exact .inl rfl | exact .inr rfl, fun _ => ⟨h2, h10, h31⟩⟩, rfl⟩
              · replace h94 := zc_ne_f h94
                refine zev_of (fun _ kk => zr_iconst (v := (nI 1)) (pc' := 98) zi_33_97 rfl rfl kk) ?_
                refine zev_of (fun _ kk => zr_goto zi_33_98 kk) ?_
                refine zev_ret (zr_zreturn zi_33_102 rfl (by decide)) ?_
                exact ⟨_, ⟨by first | exact .inl rfl | exact .inr rfl, fun _ => ⟨h2, h10, h31⟩⟩, rfl⟩
          · replace h63 := zc_ne_f h63
            refine zev_of (fun _ kk => zr_iconst (v := (nI 1)) (pc' := 67) zi_33_66 rfl rfl kk) ?_
            refine zev_of (fun _ kk => zr_goto zi_33_67 kk) ?_
            refine zev_of (fun _ kk => zr_istore (pc' := 73) zi_33_71 (Nat.le_of_ble_eq_true rfl) rfl rfl kk) ?_
            dsimp only [zst1, zst2, zkill, List.set, List.getElem?_cons_succ, List.getElem?_cons_zero]
            refine zev_of (fun _ kk => zr_iload (pc' := 75) zi_33_73 rfl rfl kk) ?_
            refine zv_if (pc' := 78) zi_33_75 rfl (fun h75 => ?_) (fun h75 => ?_)
            · replace h75 := zc_ne_t h75
              refine zev_of (fun _ kk => zr_iconst (v := (nI 1)) (pc' := 98) zi_33_97 rfl rfl kk) ?_
              refine zev_of (fun _ kk => zr_goto zi_33_98 kk) ?_
              refine zev_ret (zr_zreturn zi_33_102 rfl (by decide)) ?_
              exact ⟨_, ⟨by first | exact .inl rfl | exact .inr rfl, fun _ => ⟨h2, h10, h31⟩⟩, rfl⟩
            · replace h75 := zc_ne_f h75
              refine zev_of (fun _ kk => zr_aload_n (pc' := 79) zi_33_78 rfl rfl kk) ?_
              refine zev_of (fun _ kk => zr_get (pc' := 82) zi_33_79 (nput_at hb (k := 1) rfl) rfl rfl kk) ?_
              refine zev_of (fun _ kk => zr_iload_n (pc' := 83) zi_33_82 rfl rfl kk) ?_
              refine zev_of (fun _ kk => zr_atN (pc' := 86) (by omega) zi_33_83 hb rfl rfl (by decide) rfl rfl kk) ?_
              refine zev_of (fun _ kk => zr_aload_n (pc' := 87) zi_33_86 rfl rfl kk) ?_
              refine zev_of (fun _ kk => zr_get (pc' := 90) zi_33_87 (nput_at hb (k := 1) rfl) rfl rfl kk) ?_
              refine zev_of (fun _ kk => zr_iload_n (pc' := 91) zi_33_90 rfl rfl kk) ?_
              refine zev_of (fun _ kk => zr_atN (pc' := 94) (by omega) zi_33_91 hb rfl rfl (by decide) rfl rfl kk) ?_
              refine zv_icmp (pc' := 97) zi_33_94 rfl (fun h94 => ?_) (fun h94 => ?_)
              · replace h94 := zc_ne_t h94
                refine zev_of (fun _ kk => zr_iconst (v := (nI 0)) (pc' := 102) zi_33_101 rfl rfl kk) ?_
                refine zev_ret (zr_zreturn zi_33_102 rfl (by decide)) ?_
                exact ⟨_, ⟨by first | exact .inl rfl | exact .inr rfl, fun _ => ⟨h2, h10, h31⟩⟩, rfl⟩
              · replace h94 := zc_ne_f h94
                refine zev_of (fun _ kk => zr_iconst (v := (nI 1)) (pc' := 98) zi_33_97 rfl rfl kk) ?_
                refine zev_of (fun _ kk => zr_goto zi_33_98 kk) ?_
                refine zev_ret (zr_zreturn zi_33_102 rfl (by decide)) ?_
                exact ⟨_, ⟨by first | exact .inl rfl | exact .inr rfl, fun _ => ⟨h2, h10, h31⟩⟩, rfl⟩
      · replace h31 := zx_ge_f h31
        refine zev_of (fun _ kk => zr_iconst (v := (nI 0)) (pc' := 35) zi_33_34 rfl rfl kk) ?_
        refine zev_ret (zr_zreturn zi_33_35 rfl (by decide)) ?_
        exact ⟨_, ⟨.inl rfl, fun q => absurd rfl q⟩, rfl⟩
end


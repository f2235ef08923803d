theorem zi_33_0 : zI 33 0 = some (.iconst 0, []) := by decide +kernel
theorem zi_33_1 : zI 33 1 = some (.istore 5, []) := by decide +kernel
theorem zi_33_3 : zI 33 3 = some (.iconst 0, []) := by decide +kernel
theorem zi_33_4 : zI 33 4 = some (.istore 6, []) := by decide +kernel
theorem zi_33_6 : zI 33 6 = some (.iload 6, []) := by decide +kernel
theorem zi_33_8 : zI 33 8 = some (.aload_n 0, []) := by decide +kernel
theorem zi_33_9 : zI 33 9 = some (.getfield 50, [0, 8, 114]) := by decide +kernel
theorem zi_33_12 : zI 33 12 = some (.if_icmp .ge 53, [65]) := by decide +kernel
theorem zi_33_15 : zI 33 15 = some (.aload_n 0, []) := by decide +kernel
theorem zi_33_16 : zI 33 16 = some (.getfield 14, [0, 0, 115]) := by decide +kernel
theorem zi_33_19 : zI 33 19 = some (.iload 6, []) := by decide +kernel
theorem zi_33_21 : zI 33 21 = some (.invokevirtual 46, [0, 0, 1, 1, 10, 11, 12, 9, 0, 8]) := by decide +kernel
theorem zi_33_24 : zI 33 24 = some (.iload 4, []) := by decide +kernel
theorem zi_33_26 : zI 33 26 = some (.invokestatic 66, [13, 1, 2, 0, 117, 0, 118, 116, 1, 0]) := by decide +kernel
theorem zi_33_29 : zI 33 29 = some (.istore 7, []) := by decide +kernel
theorem zi_33_31 : zI 33 31 = some (.aload_n 0, []) := by decide +kernel
theorem zi_33_32 : zI 33 32 = some (.getfield 32, [0, 5, 119]) := by decide +kernel
theorem zi_33_35 : zI 33 35 = some (.iload 6, []) := by decide +kernel
theorem zi_33_37 : zI 33 37 = some (.invokevirtual 46, [0, 0, 1, 1, 10, 11, 12, 9, 0, 8]) := by decide +kernel
theorem zi_33_40 : zI 33 40 = some (.iload_n 1, []) := by decide +kernel
theorem zi_33_41 : zI 33 41 = some (.if_icmp .ne 18, [59]) := by decide +kernel
theorem zi_33_44 : zI 33 44 = some (.iload 7, []) := by decide +kernel
theorem zi_33_46 : zI 33 46 = some (.iload_n 2, []) := by decide +kernel
theorem zi_33_47 : zI 33 47 = some (.if_icmp .lt 12, [59]) := by decide +kernel
theorem zi_33_50 : zI 33 50 = some (.iload 7, []) := by decide +kernel
theorem zi_33_52 : zI 33 52 = some (.iload_n 3, []) := by decide +kernel
theorem zi_33_53 : zI 33 53 = some (.if_icmp .gt 6, [59]) := by decide +kernel
theorem zi_33_56 : zI 33 56 = some (.iinc 5 1, []) := by decide +kernel
theorem zi_33_59 : zI 33 59 = some (.iinc 6 1, []) := by decide +kernel
theorem zi_33_62 : zI 33 62 = some (.goto (-56), [6]) := by decide +kernel
theorem zi_33_65 : zI 33 65 = some (.iload 5, []) := by decide +kernel
theorem zi_33_67 : zI 33 67 = some (.ireturn, []) := by decide +kernel
theorem zi_34_0 : zI 34 0 = some (.iload_n 1, []) := by decide +kernel
theorem zi_34_1 : zI 34 1 = some (.iconst 1, []) := by decide +kernel
theorem zi_34_2 : zI 34 2 = some (.isub, []) := by decide +kernel
theorem zi_34_3 : zI 34 3 = some (.istore_n 3, []) := by decide +kernel
theorem zi_34_4 : zI 34 4 = some (.iload_n 3, []) := by decide +kernel
theorem zi_34_5 : zI 34 5 = some (.ifCond .lt 55, [60]) := by decide +kernel
theorem zi_34_8 : zI 34 8 = some (.aload_n 0, []) := by decide +kernel
theorem zi_34_9 : zI 34 9 = some (.getfield 35, [0, 6, 120]) := by decide +kernel
theorem zi_34_12 : zI 34 12 = some (.iload_n 3, []) := by decide +kernel
theorem zi_34_13 : zI 34 13 = some (.invokevirtual 46, [0, 0, 1, 1, 10, 11, 12, 9, 0, 8]) := by decide +kernel
theorem zi_34_16 : zI 34 16 = some (.aload_n 0, []) := by decide +kernel
theorem zi_34_17 : zI 34 17 = some (.getfield 35, [0, 6, 120]) := by decide +kernel
theorem zi_34_20 : zI 34 20 = some (.iload_n 1, []) := by decide +kernel
theorem zi_34_21 : zI 34 21 = some (.invokevirtual 46, [0, 0, 1, 1, 10, 11, 12, 9, 0, 8]) := by decide +kernel
theorem zi_34_24 : zI 34 24 = some (.if_icmp .ne 30, [54]) := by decide +kernel
theorem zi_34_27 : zI 34 27 = some (.aload_n 0, []) := by decide +kernel
theorem zi_34_28 : zI 34 28 = some (.getfield 14, [0, 0, 115]) := by decide +kernel
theorem zi_34_31 : zI 34 31 = some (.iload_n 1, []) := by decide +kernel
theorem zi_34_32 : zI 34 32 = some (.invokevirtual 46, [0, 0, 1, 1, 10, 11, 12, 9, 0, 8]) := by decide +kernel
theorem zi_34_35 : zI 34 35 = some (.aload_n 0, []) := by decide +kernel
theorem zi_34_36 : zI 34 36 = some (.getfield 14, [0, 0, 115]) := by decide +kernel
theorem zi_34_39 : zI 34 39 = some (.iload_n 3, []) := by decide +kernel
theorem zi_34_40 : zI 34 40 = some (.invokevirtual 46, [0, 0, 1, 1, 10, 11, 12, 9, 0, 8]) := by decide +kernel
theorem zi_34_43 : zI 34 43 = some (.isub, []) := by decide +kernel
theorem zi_34_44 : zI 34 44 = some (.iload_n 2, []) := by decide +kernel
theorem zi_34_45 : zI 34 45 = some (.if_icmp .gt 7, [52]) := by decide +kernel
theorem zi_34_48 : zI 34 48 = some (.iload_n 3, []) := by decide +kernel
theorem zi_34_49 : zI 34 49 = some (.goto 4, [53]) := by decide +kernel
theorem zi_34_52 : zI 34 52 = some (.iconst (-1), []) := by decide +kernel
theorem zi_34_53 : zI 34 53 = some (.ireturn, []) := by decide +kernel
theorem zi_34_54 : zI 34 54 = some (.iinc 3 (-1), []) := by decide +kernel
theorem zi_34_57 : zI 34 57 = some (.goto (-53), [4]) := by decide +kernel
theorem zi_34_60 : zI 34 60 = some (.iconst (-1), []) := by decide +kernel
theorem zi_34_61 : zI 34 61 = some (.ireturn, []) := by decide +kernel
theorem zi_35_0 : zI 35 0 = some (.iload_n 1, []) := by decide +kernel
theorem zi_35_1 : zI 35 1 = some (.iload_n 2, []) := by decide +kernel
theorem zi_35_2 : zI 35 2 = some (.if_icmp .ge 32, [34]) := by decide +kernel
theorem zi_35_5 : zI 35 5 = some (.iload_n 1, []) := by decide +kernel
theorem zi_35_6 : zI 35 6 = some (.aload_n 0, []) := by decide +kernel
theorem zi_35_7 : zI 35 7 = some (.getfield 50, [0, 8, 114]) := by decide +kernel
theorem zi_35_10 : zI 35 10 = some (.if_icmp .ge 24, [34]) := by decide +kernel
theorem zi_35_13 : zI 35 13 = some (.aload_n 0, []) := by decide +kernel
theorem zi_35_14 : zI 35 14 = some (.getfield 14, [0, 0, 115]) := by decide +kernel
theorem zi_35_17 : zI 35 17 = some (.iload_n 1, []) := by decide +kernel
theorem zi_35_18 : zI 35 18 = some (.invokevirtual 46, [0, 0, 1, 1, 10, 11, 12, 9, 0, 8]) := by decide +kernel
theorem zi_35_21 : zI 35 21 = some (.aload_n 0, []) := by decide +kernel
theorem zi_35_22 : zI 35 22 = some (.getfield 14, [0, 0, 115]) := by decide +kernel
theorem zi_35_25 : zI 35 25 = some (.iload_n 2, []) := by decide +kernel
theorem zi_35_26 : zI 35 26 = some (.invokevirtual 46, [0, 0, 1, 1, 10, 11, 12, 9, 0, 8]) := by decide +kernel
theorem zi_35_29 : zI 35 29 = some (.iload_n 3, []) := by decide +kernel
theorem zi_35_30 : zI 35 30 = some (.isub, []) := by decide +kernel
theorem zi_35_31 : zI 35 31 = some (.if_icmp .ge 5, [36]) := by decide +kernel
theorem zi_35_34 : zI 35 34 = some (.iconst 0, []) := by decide +kernel
theorem zi_35_35 : zI 35 35 = some (.ireturn, []) := by decide +kernel
theorem zi_35_36 : zI 35 36 = some (.aload_n 0, []) := by decide +kernel
theorem zi_35_37 : zI 35 37 = some (.getfield 35, [0, 6, 120]) := by decide +kernel
theorem zi_35_40 : zI 35 40 = some (.iload_n 2, []) := by decide +kernel
theorem zi_35_41 : zI 35 41 = some (.invokevirtual 46, [0, 0, 1, 1, 10, 11, 12, 9, 0, 8]) := by decide +kernel
theorem zi_35_44 : zI 35 44 = some (.ifCond .lt 26, [70]) := by decide +kernel
theorem zi_35_47 : zI 35 47 = some (.aload_n 0, []) := by decide +kernel
theorem zi_35_48 : zI 35 48 = some (.getfield 35, [0, 6, 120]) := by decide +kernel
theorem zi_35_51 : zI 35 51 = some (.iload_n 1, []) := by decide +kernel
theorem zi_35_52 : zI 35 52 = some (.invokevirtual 46, [0, 0, 1, 1, 10, 11, 12, 9, 0, 8]) := by decide +kernel
theorem zi_35_55 : zI 35 55 = some (.aload_n 0, []) := by decide +kernel
theorem zi_35_56 : zI 35 56 = some (.getfield 35, [0, 6, 120]) := by decide +kernel
theorem zi_35_59 : zI 35 59 = some (.iload_n 2, []) := by decide +kernel
theorem zi_35_60 : zI 35 60 = some (.invokevirtual 46, [0, 0, 1, 1, 10, 11, 12, 9, 0, 8]) := by decide +kernel
theorem zi_35_63 : zI 35 63 = some (.if_icmp .ne 7, [70]) := by decide +kernel
theorem zi_35_66 : zI 35 66 = some (.iconst 1, []) := by decide +kernel
theorem zi_35_67 : zI 35 67 = some (.goto 4, [71]) := by decide +kernel
theorem zi_35_70 : zI 35 70 = some (.iconst 0, []) := by decide +kernel
theorem zi_35_71 : zI 35 71 = some (.istore 4, []) := by decide +kernel
theorem zi_35_73 : zI 35 73 = some (.iload 4, []) := by decide +kernel
theorem zi_35_75 : zI 35 75 = some (.ifCond .ne 22, [97]) := by decide +kernel
theorem zi_35_78 : zI 35 78 = some (.aload_n 0, []) := by decide +kernel
theorem zi_35_79 : zI 35 79 = some (.getfield 20, [0, 1, 121]) := by decide +kernel
theorem zi_35_82 : zI 35 82 = some (.iload_n 1, []) := by decide +kernel
theorem zi_35_83 : zI 35 83 = some (.invokevirtual 46, [0, 0, 1, 1, 10, 11, 12, 9, 0, 8]) := by decide +kernel
theorem zi_35_86 : zI 35 86 = some (.aload_n 0, []) := by decide +kernel
theorem zi_35_87 : zI 35 87 = some (.getfield 20, [0, 1, 121]) := by decide +kernel
theorem zi_35_90 : zI 35 90 = some (.iload_n 2, []) := by decide +kernel
theorem zi_35_91 : zI 35 91 = some (.invokevirtual 46, [0, 0, 1, 1, 10, 11, 12, 9, 0, 8]) := by decide +kernel
theorem zi_35_94 : zI 35 94 = some (.if_icmp .ne 7, [101]) := by decide +kernel
theorem zi_35_97 : zI 35 97 = some (.iconst 1, []) := by decide +kernel
theorem zi_35_98 : zI 35 98 = some (.goto 4, [102]) := by decide +kernel
theorem zi_35_101 : zI 35 101 = some (.iconst 0, []) := by decide +kernel
theorem zi_35_102 : zI 35 102 = some (.ireturn, []) := by decide +kernel
theorem zi_66_0 : zI 66 0 = some (.iconst 0, []) := by decide +kernel
theorem zi_66_1 : zI 66 1 = some (.istore_n 2, []) := by decide +kernel
theorem zi_66_2 : zI 66 2 = some (.iload_n 2, []) := by decide +kernel
theorem zi_66_3 : zI 66 3 = some (.aload_n 0, []) := by decide +kernel
theorem zi_66_4 : zI 66 4 = some (.getfield 50, [0, 8, 114]) := by decide +kernel
theorem zi_66_7 : zI 66 7 = some (.if_icmp .ge 23, [30]) := by decide +kernel
theorem zi_66_10 : zI 66 10 = some (.aload_n 0, []) := by decide +kernel
theorem zi_66_11 : zI 66 11 = some (.getfield 32, [0, 5, 119]) := by decide +kernel
theorem zi_66_14 : zI 66 14 = some (.iload_n 2, []) := by decide +kernel
theorem zi_66_15 : zI 66 15 = some (.invokevirtual 46, [0, 0, 1, 1, 10, 11, 12, 9, 0, 8]) := by decide +kernel
theorem zi_66_18 : zI 66 18 = some (.iload_n 1, []) := by decide +kernel
theorem zi_66_19 : zI 66 19 = some (.if_icmp .ne 5, [24]) := by decide +kernel
theorem zi_66_22 : zI 66 22 = some (.iload_n 2, []) := by decide +kernel
theorem zi_66_23 : zI 66 23 = some (.ireturn, []) := by decide +kernel
theorem zi_66_24 : zI 66 24 = some (.iinc 2 1, []) := by decide +kernel
theorem zi_66_27 : zI 66 27 = some (.goto (-25), [2]) := by decide +kernel
theorem zi_66_30 : zI 66 30 = some (.iconst (-1), []) := by decide +kernel
theorem zi_66_31 : zI 66 31 = some (.ireturn, []) := by decide +kernel
theorem zi_67_0 : zI 67 0 = some (.iconst 0, []) := by decide +kernel
theorem zi_67_1 : zI 67 1 = some (.istore_n 2, []) := by decide +kernel
theorem zi_67_2 : zI 67 2 = some (.iconst 0, []) := by decide +kernel
theorem zi_67_3 : zI 67 3 = some (.istore_n 3, []) := by decide +kernel
theorem zi_67_4 : zI 67 4 = some (.iload_n 3, []) := by decide +kernel
theorem zi_67_5 : zI 67 5 = some (.aload_n 0, []) := by decide +kernel
theorem zi_67_6 : zI 67 6 = some (.getfield 50, [0, 8, 114]) := by decide +kernel
theorem zi_67_9 : zI 67 9 = some (.if_icmp .ge 42, [51]) := by decide +kernel
theorem zi_67_12 : zI 67 12 = some (.aload_n 0, []) := by decide +kernel
theorem zi_67_13 : zI 67 13 = some (.getfield 32, [0, 5, 119]) := by decide +kernel
theorem zi_67_16 : zI 67 16 = some (.iload_n 3, []) := by decide +kernel
theorem zi_67_17 : zI 67 17 = some (.invokevirtual 46, [0, 0, 1, 1, 10, 11, 12, 9, 0, 8]) := by decide +kernel
theorem zi_67_20 : zI 67 20 = some (.iload_n 1, []) := by decide +kernel
theorem zi_67_21 : zI 67 21 = some (.if_icmp .ne 24, [45]) := by decide +kernel
theorem zi_67_24 : zI 67 24 = some (.aload_n 0, []) := by decide +kernel
theorem zi_67_25 : zI 67 25 = some (.getfield 23, [0, 2, 229]) := by decide +kernel
theorem zi_67_28 : zI 67 28 = some (.iload_n 3, []) := by decide +kernel
theorem zi_67_29 : zI 67 29 = some (.invokevirtual 46, [0, 0, 1, 1, 10, 11, 12, 9, 0, 8]) := by decide +kernel
theorem zi_67_32 : zI 67 32 = some (.iload_n 2, []) := by decide +kernel
theorem zi_67_33 : zI 67 33 = some (.if_icmp .le 12, [45]) := by decide +kernel
theorem zi_67_36 : zI 67 36 = some (.aload_n 0, []) := by decide +kernel
theorem zi_67_37 : zI 67 37 = some (.getfield 23, [0, 2, 229]) := by decide +kernel
theorem zi_67_40 : zI 67 40 = some (.iload_n 3, []) := by decide +kernel
theorem zi_67_41 : zI 67 41 = some (.invokevirtual 46, [0, 0, 1, 1, 10, 11, 12, 9, 0, 8]) := by decide +kernel
theorem zi_67_44 : zI 67 44 = some (.istore_n 2, []) := by decide +kernel
theorem zi_67_45 : zI 67 45 = some (.iinc 3 1, []) := by decide +kernel
theorem zi_67_48 : zI 67 48 = some (.goto (-44), [4]) := by decide +kernel
theorem zi_67_51 : zI 67 51 = some (.iload_n 2, []) := by decide +kernel
theorem zi_67_52 : zI 67 52 = some (.ireturn, []) := by decide +kernel
theorem zi_68_0 : zI 68 0 = some (.iconst 0, []) := by decide +kernel
theorem zi_68_1 : zI 68 1 = some (.istore_n 3, []) := by decide +kernel
theorem zi_68_2 : zI 68 2 = some (.iconst 0, []) := by decide +kernel
theorem zi_68_3 : zI 68 3 = some (.istore 4, []) := by decide +kernel
theorem zi_68_5 : zI 68 5 = some (.iload 4, []) := by decide +kernel
theorem zi_68_7 : zI 68 7 = some (.aload_n 0, []) := by decide +kernel
theorem zi_68_8 : zI 68 8 = some (.getfield 50, [0, 8, 114]) := by decide +kernel
theorem zi_68_11 : zI 68 11 = some (.if_icmp .ge 35, [46]) := by decide +kernel
theorem zi_68_14 : zI 68 14 = some (.aload_n 0, []) := by decide +kernel
theorem zi_68_15 : zI 68 15 = some (.getfield 32, [0, 5, 119]) := by decide +kernel
theorem zi_68_18 : zI 68 18 = some (.iload 4, []) := by decide +kernel
theorem zi_68_20 : zI 68 20 = some (.invokevirtual 46, [0, 0, 1, 1, 10, 11, 12, 9, 0, 8]) := by decide +kernel
theorem zi_68_23 : zI 68 23 = some (.iload_n 1, []) := by decide +kernel
theorem zi_68_24 : zI 68 24 = some (.if_icmp .ne 16, [40]) := by decide +kernel
theorem zi_68_27 : zI 68 27 = some (.aload_n 0, []) := by decide +kernel
theorem zi_68_28 : zI 68 28 = some (.iload 4, []) := by decide +kernel
theorem zi_68_30 : zI 68 30 = some (.iload_n 2, []) := by decide +kernel
theorem zi_68_31 : zI 68 31 = some (.invokevirtual 62, [69, 0, 2, 0, 243, 244, 53, 242, 0, 241]) := by decide +kernel
theorem zi_68_34 : zI 68 34 = some (.ifCond .eq 6, [40]) := by decide +kernel
theorem zi_68_37 : zI 68 37 = some (.iinc 3 1, []) := by decide +kernel
theorem zi_68_40 : zI 68 40 = some (.iinc 4 1, []) := by decide +kernel
theorem zi_68_43 : zI 68 43 = some (.goto (-38), [5]) := by decide +kernel
theorem zi_68_46 : zI 68 46 = some (.iload_n 3, []) := by decide +kernel
theorem zi_68_47 : zI 68 47 = some (.ireturn, []) := by decide +kernel
theorem zi_69_0 : zI 69 0 = some (.iconst 0, []) := by decide +kernel
theorem zi_69_1 : zI 69 1 = some (.istore_n 3, []) := by decide +kernel
theorem zi_69_2 : zI 69 2 = some (.iload_n 3, []) := by decide +kernel
theorem zi_69_3 : zI 69 3 = some (.iload_n 1, []) := by decide +kernel
theorem zi_69_4 : zI 69 4 = some (.if_icmp .ge 45, [49]) := by decide +kernel
theorem zi_69_7 : zI 69 7 = some (.aload_n 0, []) := by decide +kernel
theorem zi_69_8 : zI 69 8 = some (.getfield 32, [0, 5, 119]) := by decide +kernel
theorem zi_69_11 : zI 69 11 = some (.iload_n 3, []) := by decide +kernel
theorem zi_69_12 : zI 69 12 = some (.invokevirtual 46, [0, 0, 1, 1, 10, 11, 12, 9, 0, 8]) := by decide +kernel
theorem zi_69_15 : zI 69 15 = some (.aload_n 0, []) := by decide +kernel
theorem zi_69_16 : zI 69 16 = some (.getfield 32, [0, 5, 119]) := by decide +kernel
theorem zi_69_19 : zI 69 19 = some (.iload_n 1, []) := by decide +kernel
theorem zi_69_20 : zI 69 20 = some (.invokevirtual 46, [0, 0, 1, 1, 10, 11, 12, 9, 0, 8]) := by decide +kernel
theorem zi_69_23 : zI 69 23 = some (.if_icmp .ne 20, [43]) := by decide +kernel
theorem zi_69_26 : zI 69 26 = some (.aload_n 0, []) := by decide +kernel
theorem zi_69_27 : zI 69 27 = some (.iload_n 3, []) := by decide +kernel
theorem zi_69_28 : zI 69 28 = some (.iload_n 2, []) := by decide +kernel
theorem zi_69_29 : zI 69 29 = some (.invokevirtual 59, [8, 0, 2, 0, 143, 144, 53, 142, 0, 240]) := by decide +kernel
theorem zi_69_32 : zI 69 32 = some (.aload_n 0, []) := by decide +kernel
theorem zi_69_33 : zI 69 33 = some (.iload_n 1, []) := by decide +kernel
theorem zi_69_34 : zI 69 34 = some (.iload_n 2, []) := by decide +kernel
theorem zi_69_35 : zI 69 35 = some (.invokevirtual 59, [8, 0, 2, 0, 143, 144, 53, 142, 0, 240]) := by decide +kernel
theorem zi_69_38 : zI 69 38 = some (.if_icmp .ne 5, [43]) := by decide +kernel
theorem zi_69_41 : zI 69 41 = some (.iconst 0, []) := by decide +kernel
theorem zi_69_42 : zI 69 42 = some (.ireturn, []) := by decide +kernel
theorem zi_69_43 : zI 69 43 = some (.iinc 3 1, []) := by decide +kernel
theorem zi_69_46 : zI 69 46 = some (.goto (-44), [2]) := by decide +kernel
theorem zi_69_49 : zI 69 49 = some (.iconst 1, []) := by decide +kernel
theorem zi_69_50 : zI 69 50 = some (.ireturn, []) := by decide +kernel
/-! lines: what is asked -/
section
variable {b : Nat} {F : Nat → Nat → Int32} {g : Nat → Nat} {h : zH}
theorem l_firstOf (hb : b + 71 ≤ h.length) (t : Int32) (hn : g 1 ≤ 70) (i : Nat) (hi : i ≤ g 1) (ha : ∀ j, j < i → F 5 j ≠ t) : zev 66 2 [some (.ref (b + 1)), some (.int t), some (.int (nI i))] [] (nput b F g h) (zQi (nput b F g h) fun r => ∀ l, l < g 1 → F 5 l = t → r ≤ nI l) := by
  refine zev_of (fun _ kk => zr_iload_n (pc' := 3) zi_66_2 rfl rfl kk) ?_
  refine zev_of (fun _ kk => zr_aload_n (pc' := 4) zi_66_3 rfl rfl kk) ?_
  refine zev_of (fun _ kk => zr_get (pc' := 7) zi_66_4 (nput_at hb (k := 1) rfl) rfl rfl kk) ?_
  refine zv_icmp (pc' := 10) zi_66_7 rfl (fun h7 => ?_) (fun h7 => ?_)
  · replace h7 := zc_ge_t (by omega) (by omega) h7
    refine zev_of (fun _ kk => zr_iconst (v := (-1)) (pc' := 31) zi_66_30 rfl rfl kk) ?_
    refine zev_ret (zr_ireturn zi_66_31 rfl) ?_
    refine ⟨_, ?_, rfl⟩
    intro l hl he
    exact absurd he (ha l (by omega))
  · replace h7 := zc_ge_f (by omega) (by omega) h7
    refine zev_of (fun _ kk => zr_aload_n (pc' := 11) zi_66_10 rfl rfl kk) ?_
    refine zev_of (fun _ kk => zr_get (pc' := 14) zi_66_11 (nput_at hb (k := 1) rfl) rfl rfl kk) ?_
    refine zev_of (fun _ kk => zr_iload_n (pc' := 15) zi_66_14 rfl rfl kk) ?_
    refine zev_of (fun _ kk => zr_atN (pc' := 18) (by omega) zi_66_15 hb rfl rfl (by decide) rfl rfl kk) ?_
    refine zev_of (fun _ kk => zr_iload_n (pc' := 19) zi_66_18 rfl rfl kk) ?_
    refine zv_icmp (pc' := 22) zi_66_19 rfl (fun h19 => ?_) (fun h19 => ?_)
    · replace h19 := zc_ne_t h19
      refine zev_of (fun _ kk => zr_iinc (pc' := 27) zi_66_24 rfl (by first | exact n_inc _ | rfl) rfl rfl kk) ?_
      dsimp only [zst1, zst2, zkill, List.set, List.getElem?_cons_succ, List.getElem?_cons_zero]
      refine zev_of (fun _ kk => zr_goto zi_66_27 kk) ?_
      exact l_firstOf hb t hn (i + 1) (by omega) (fun j hj => by rcases Nat.lt_or_ge j i with q | q; exact ha j q; exact (show j = i by omega) ▸ h19)
    · replace h19 := zc_ne_f h19
      refine zev_of (fun _ kk => zr_iload_n (pc' := 23) zi_66_22 rfl rfl kk) ?_
      refine zev_ret (zr_ireturn zi_66_23 rfl) ?_
      refine ⟨_, ?_, rfl⟩
      intro l hl he
      refine nI_le ?_ (by omega)
      rcases Nat.lt_or_ge l i with q | q
      · exact absurd he (ha l q)
      · exact q
termination_by g 1 - i
theorem c_firstOf (hb : b + 71 ≤ h.length) (t : Int32) (hn : g 1 ≤ 70) : ∃ r, (∀ l, l < g 1 → F 5 l = t → r ≤ nI l) ∧ zcalls zTB 66 [.ref (b + 1), .int t] (nput b F g h) (some (.int r), nput b F g h) := by
  refine zQi_out (zev_calls (Nat.le_of_ble_eq_true rfl) ?_)
  show zev 66 0 [some (.ref (b + 1)), some (.int t), none] [] _ _
  refine zev_of (fun _ kk => zr_iconst (v := (nI 0)) (pc' := 1) zi_66_0 rfl rfl kk) ?_
  refine zev_of (fun _ kk => zr_istore_n (pc' := 2) zi_66_1 (Nat.le_of_ble_eq_true rfl) rfl rfl kk) ?_
  dsimp only [zst1, zst2, zkill, List.set, List.getElem?_cons_succ, List.getElem?_cons_zero]
  exact l_firstOf hb t hn 0 (by omega) (fun j hj => absurd hj (by omega))
theorem l_worstLevelOf (hb : b + 71 ≤ h.length) (t : Int32) (hn : g 1 ≤ 70) (i : Nat) (w : Int32) (hi : i ≤ g 1) (ha : ∀ j, j < i → F 5 j = t → F 2 j ≤ w) : zev 67 4 [some (.ref (b + 1)), some (.int t), some (.int w), some (.int (nI i))] [] (nput b F g h) (zQi (nput b F g h) fun r => ∀ l, l < g 1 → F 5 l = t → F 2 l ≤ r) := by
  refine zev_of (fun _ kk => zr_iload_n (pc' := 5) zi_67_4 rfl rfl kk) ?_
  refine zev_of (fun _ kk => zr_aload_n (pc' := 6) zi_67_5 rfl rfl kk) ?_
  refine zev_of (fun _ kk => zr_get (pc' := 9) zi_67_6 (nput_at hb (k := 1) rfl) rfl rfl kk) ?_
  refine zv_icmp (pc' := 12) zi_67_9 rfl (fun h9 => ?_) (fun h9 => ?_)
  · replace h9 := zc_ge_t (by omega) (by omega) h9
    refine zev_of (fun _ kk => zr_iload_n (pc' := 52) zi_67_51 rfl rfl kk) ?_
    refine zev_ret (zr_ireturn zi_67_52 rfl) ?_
    refine ⟨_, ?_, rfl⟩
    intro l hl he
    exact ha l (by omega) he
  · replace h9 := zc_ge_f (by omega) (by omega) h9
    refine zev_of (fun _ kk => zr_aload_n (pc' := 13) zi_67_12 rfl rfl kk) ?_
    refine zev_of (fun _ kk => zr_get (pc' := 16) zi_67_13 (nput_at hb (k := 1) rfl) rfl rfl kk) ?_
    refine zev_of (fun _ kk => zr_iload_n (pc' := 17) zi_67_16 rfl rfl kk) ?_
    refine zev_of (fun _ kk => zr_atN (pc' := 20) (by omega) zi_67_17 hb rfl rfl (by decide) rfl rfl kk) ?_
    refine zev_of (fun _ kk => zr_iload_n (pc' := 21) zi_67_20 rfl rfl kk) ?_
    refine zv_icmp (pc' := 24) zi_67_21 rfl (fun h21 => ?_) (fun h21 => ?_)
    · replace h21 := zc_ne_t h21
      refine zev_of (fun _ kk => zr_iinc (pc' := 48) zi_67_45 rfl (by first | exact n_inc _ | rfl) rfl rfl kk) ?_
      dsimp only [zst1, zst2, zkill, List.set, List.getElem?_cons_succ, List.getElem?_cons_zero]
      refine zev_of (fun _ kk => zr_goto zi_67_48 kk) ?_
      exact l_worstLevelOf hb t hn (i + 1) w (by omega) (fun j hj he => by rcases Nat.lt_or_ge j i with q | q; exact ha j q he; exact absurd ((show j = i by omega) ▸ he) h21)
    · replace h21 := zc_ne_f h21
      refine zev_of (fun _ kk => zr_aload_n (pc' := 25) zi_67_24 rfl rfl kk) ?_
      refine zev_of (fun _ kk => zr_get (pc' := 28) zi_67_25 (nput_at hb (k := 1) rfl) rfl rfl kk) ?_
      refine zev_of (fun _ kk => zr_iload_n (pc' := 29) zi_67_28 rfl rfl kk) ?_
      refine zev_of (fun _ kk => zr_atN (pc' := 32) (by omega) zi_67_29 hb rfl rfl (by decide) rfl rfl kk) ?_
      refine zev_of (fun _ kk => zr_iload_n (pc' := 33) zi_67_32 rfl rfl kk) ?_
      refine zv_icmp (pc' := 36) zi_67_33 rfl (fun h33 => ?_) (fun h33 => ?_)
      · replace h33 := zx_le_t h33
        refine zev_of (fun _ kk => zr_iinc (pc' := 48) zi_67_45 rfl (by first | exact n_inc _ | rfl) rfl rfl kk) ?_
        dsimp only [zst1, zst2, zkill, List.set, List.getElem?_cons_succ, List.getElem?_cons_zero]
        refine zev_of (fun _ kk => zr_goto zi_67_48 kk) ?_
        exact l_worstLevelOf hb t hn (i + 1) w (by omega) (fun j hj he => by rcases Nat.lt_or_ge j i with q | q; exact ha j q he; exact (show j = i by omega) ▸ h33)
      · replace h33 := zx_le_f h33
        refine zev_of (fun _ kk => zr_aload_n (pc' := 37) zi_67_36 rfl rfl kk) ?_
        refine zev_of (fun _ kk => zr_get (pc' := 40) zi_67_37 (nput_at hb (k := 1) rfl) rfl rfl kk) ?_
        refine zev_of (fun _ kk => zr_iload_n (pc' := 41) zi_67_40 rfl rfl kk) ?_
        refine zev_of (fun _ kk => zr_atN (pc' := 44) (by omega) zi_67_41 hb rfl rfl (by decide) rfl rfl kk) ?_
        refine zev_of (fun _ kk => zr_istore_n (pc' := 45) zi_67_44 (Nat.le_of_ble_eq_true rfl) rfl rfl kk) ?_
        dsimp only [zst1, zst2, zkill, List.set, List.getElem?_cons_succ, List.getElem?_cons_zero]
        refine zev_of (fun _ kk => zr_iinc (pc' := 48) zi_67_45 rfl (by first | exact n_inc _ | rfl) rfl rfl kk) ?_
        dsimp only [zst1, zst2, zkill, List.set, List.getElem?_cons_succ, List.getElem?_cons_zero]
        refine zev_of (fun _ kk => zr_goto zi_67_48 kk) ?_
        have h33' := Int32.not_le.mp h33
        exact l_worstLevelOf hb t hn (i + 1) _ (by omega) (fun j hj he => by
          rcases Nat.lt_or_ge j i with q | q
          · exact Int32.le_trans (ha j q he) (Int32.le_of_lt h33')
          · rw [show j = i by omega]
            exact Int32.le_refl _)
termination_by g 1 - i
theorem c_worstLevelOf (hb : b + 71 ≤ h.length) (t : Int32) (hn : g 1 ≤ 70) : ∃ r, (∀ l, l < g 1 → F 5 l = t → F 2 l ≤ r) ∧ zcalls zTB 67 [.ref (b + 1), .int t] (nput b F g h) (some (.int r), nput b F g h) := by
  refine zQi_out (zev_calls (Nat.le_of_ble_eq_true rfl) ?_)
  show zev 67 0 [some (.ref (b + 1)), some (.int t), none, none] [] _ _
  refine zev_of (fun _ kk => zr_iconst (v := (nI 0)) (pc' := 1) zi_67_0 rfl rfl kk) ?_
  refine zev_of (fun _ kk => zr_istore_n (pc' := 2) zi_67_1 (Nat.le_of_ble_eq_true rfl) rfl rfl kk) ?_
  dsimp only [zst1, zst2, zkill, List.set, List.getElem?_cons_succ, List.getElem?_cons_zero]
  refine zev_of (fun _ kk => zr_iconst (v := (nI 0)) (pc' := 3) zi_67_2 rfl rfl kk) ?_
  refine zev_of (fun _ kk => zr_istore_n (pc' := 4) zi_67_3 (Nat.le_of_ble_eq_true rfl) rfl rfl kk) ?_
  dsimp only [zst1, zst2, zkill, List.set, List.getElem?_cons_succ, List.getElem?_cons_zero]
  exact l_worstLevelOf hb t hn 0 _ (by omega) (fun j hj => absurd hj (by omega))
theorem l_isNewWord (hb : b + 71 ≤ h.length) (i p j : Nat) (hn : i ≤ 70) (hp : i * 8 + p < 560) (hj : j ≤ i) : zev 69 2 [some (.ref (b + 1)), some (.int (nI i)), some (.int (nI p)), some (.int (nI j))] [] (nput b F g h) (zQi (nput b F g h) fun r => r = 0 ∨ r = 1) := by
  refine zev_of (fun _ kk => zr_iload_n (pc' := 3) zi_69_2 rfl rfl kk) ?_
  refine zev_of (fun _ kk => zr_iload_n (pc' := 4) zi_69_3 rfl rfl kk) ?_
  refine zv_icmp (pc' := 7) zi_69_4 rfl (fun h4 => ?_) (fun h4 => ?_)
  · replace h4 := zc_ge_t (by omega) (by omega) h4
    refine zev_of (fun _ kk => zr_iconst (v := (nI 1)) (pc' := 50) zi_69_49 rfl rfl kk) ?_
    refine zev_ret (zr_zreturn zi_69_50 rfl (by decide)) ?_
    exact ⟨_, .inr rfl, rfl⟩
  · replace h4 := zc_ge_f (by omega) (by omega) h4
    refine zev_of (fun _ kk => zr_aload_n (pc' := 8) zi_69_7 rfl rfl kk) ?_
    refine zev_of (fun _ kk => zr_get (pc' := 11) zi_69_8 (nput_at hb (k := 1) rfl) rfl rfl kk) ?_
    refine zev_of (fun _ kk => zr_iload_n (pc' := 12) zi_69_11 rfl rfl kk) ?_
    refine zev_of (fun _ kk => zr_atN (pc' := 15) (by omega) zi_69_12 hb rfl rfl (by decide) rfl rfl kk) ?_
    refine zev_of (fun _ kk => zr_aload_n (pc' := 16) zi_69_15 rfl rfl kk) ?_
    refine zev_of (fun _ kk => zr_get (pc' := 19) zi_69_16 (nput_at hb (k := 1) rfl) rfl rfl kk) ?_
    refine zev_of (fun _ kk => zr_iload_n (pc' := 20) zi_69_19 rfl rfl kk) ?_
    refine zev_of (fun _ kk => zr_atN (pc' := 23) (by omega) zi_69_20 hb rfl rfl (by decide) rfl rfl kk) ?_
    refine zv_icmp (pc' := 26) zi_69_23 rfl (fun h23 => ?_) (fun h23 => ?_)
    · replace h23 := zc_ne_t h23
      refine zev_of (fun _ kk => zr_iinc (pc' := 46) zi_69_43 rfl (by first | exact n_inc _ | rfl) rfl rfl kk) ?_
      dsimp only [zst1, zst2, zkill, List.set, List.getElem?_cons_succ, List.getElem?_cons_zero]
      refine zev_of (fun _ kk => zr_goto zi_69_46 kk) ?_
      exact l_isNewWord hb i p (j + 1) hn hp (by omega)
    · replace h23 := zc_ne_f h23
      refine zev_of (fun _ kk => zr_aload_n (pc' := 27) zi_69_26 rfl rfl kk) ?_
      refine zev_of (fun _ kk => zr_iload_n (pc' := 28) zi_69_27 rfl rfl kk) ?_
      refine zev_of (fun _ kk => zr_iload_n (pc' := 29) zi_69_28 rfl rfl kk) ?_
      refine zev_of (fun _ kk => zr_v2 (pc' := 32) zi_69_29 (nput_at hb (k := 1) rfl) rfl (c_wordIn hb _ _ (by omega)) rfl kk) ?_
      refine zev_of (fun _ kk => zr_aload_n (pc' := 33) zi_69_32 rfl rfl kk) ?_
      refine zev_of (fun _ kk => zr_iload_n (pc' := 34) zi_69_33 rfl rfl kk) ?_
      refine zev_of (fun _ kk => zr_iload_n (pc' := 35) zi_69_34 rfl rfl kk) ?_
      refine zev_of (fun _ kk => zr_v2 (pc' := 38) zi_69_35 (nput_at hb (k := 1) rfl) rfl (c_wordIn hb _ _ (by omega)) rfl kk) ?_
      refine zv_icmp (pc' := 41) zi_69_38 rfl (fun h38 => ?_) (fun h38 => ?_)
      · replace h38 := zc_ne_t h38
        refine zev_of (fun _ kk => zr_iinc (pc' := 46) zi_69_43 rfl (by first | exact n_inc _ | rfl) rfl rfl kk) ?_
        dsimp only [zst1, zst2, zkill, List.set, List.getElem?_cons_succ, List.getElem?_cons_zero]
        refine zev_of (fun _ kk => zr_goto zi_69_46 kk) ?_
        exact l_isNewWord hb i p (j + 1) hn hp (by omega)
      · replace h38 := zc_ne_f h38
        refine zev_of (fun _ kk => zr_iconst (v := (nI 0)) (pc' := 42) zi_69_41 rfl rfl kk) ?_
        refine zev_ret (zr_zreturn zi_69_42 rfl (by decide)) ?_
        exact ⟨_, .inl rfl, rfl⟩
termination_by i - j
theorem c_isNewWord (hb : b + 71 ≤ h.length) (i p : Nat) (hn : i ≤ 70) (hp : i * 8 + p < 560) : ∃ r, (r = 0 ∨ r = 1) ∧ zcalls zTB 69 [.ref (b + 1), .int (nI i), .int (nI p)] (nput b F g h) (some (.int r), nput b F g h) := by
  refine zQi_out (zev_calls (Nat.le_of_ble_eq_true rfl) ?_)
  show zev 69 0 [some (.ref (b + 1)), some (.int (nI i)), some (.int (nI p)), none] [] _ _
  refine zev_of (fun _ kk => zr_iconst (v := (nI 0)) (pc' := 1) zi_69_0 rfl rfl kk) ?_
  refine zev_of (fun _ kk => zr_istore_n (pc' := 2) zi_69_1 (Nat.le_of_ble_eq_true rfl) rfl rfl kk) ?_
  dsimp only [zst1, zst2, zkill, List.set, List.getElem?_cons_succ, List.getElem?_cons_zero]
  exact l_isNewWord hb i p 0 hn hp (by omega)
theorem l_howManyWordsOf (hb : b + 71 ≤ h.length) (t : Int32) (p : Nat) (hp : p < 8) (hn : g 1 ≤ 70) (i a : Nat) (hi : i ≤ g 1) (ha : a ≤ zcnt (fun j => decide (F 5 j = t)) i) : zev 68 5 [some (.ref (b + 1)), some (.int t), some (.int (nI p)), some (.int (nI a)), some (.int (nI i))] [] (nput b F g h) (zQi (nput b F g h) fun r => ∃ a, r = nI a ∧ a ≤ zcnt (fun j => decide (F 5 j = t)) (g 1)) := by
  refine zev_of (fun _ kk => zr_iload (pc' := 7) zi_68_5 rfl rfl kk) ?_
  refine zev_of (fun _ kk => zr_aload_n (pc' := 8) zi_68_7 rfl rfl kk) ?_
  refine zev_of (fun _ kk => zr_get (pc' := 11) zi_68_8 (nput_at hb (k := 1) rfl) rfl rfl kk) ?_
  refine zv_icmp (pc' := 14) zi_68_11 rfl (fun h11 => ?_) (fun h11 => ?_)
  · replace h11 := zc_ge_t (by omega) (by omega) h11
    refine zev_of (fun _ kk => zr_iload_n (pc' := 47) zi_68_46 rfl rfl kk) ?_
    refine zev_ret (zr_ireturn zi_68_47 rfl) ?_
    have e : i = g 1 := by omega
    exact ⟨_, ⟨a, rfl, e ▸ ha⟩, rfl⟩
  · replace h11 := zc_ge_f (by omega) (by omega) h11
    refine zev_of (fun _ kk => zr_aload_n (pc' := 15) zi_68_14 rfl rfl kk) ?_
    refine zev_of (fun _ kk => zr_get (pc' := 18) zi_68_15 (nput_at hb (k := 1) rfl) rfl rfl kk) ?_
    refine zev_of (fun _ kk => zr_iload (pc' := 20) zi_68_18 rfl rfl kk) ?_
    refine zev_of (fun _ kk => zr_atN (pc' := 23) (by omega) zi_68_20 hb rfl rfl (by decide) rfl rfl kk) ?_
    refine zev_of (fun _ kk => zr_iload_n (pc' := 24) zi_68_23 rfl rfl kk) ?_
    refine zv_icmp (pc' := 27) zi_68_24 rfl (fun h24 => ?_) (fun h24 => ?_)
    · replace h24 := zc_ne_t h24
      refine zev_of (fun _ kk => zr_iinc (pc' := 43) zi_68_40 rfl (by first | exact n_inc _ | rfl) rfl rfl kk) ?_
      dsimp only [zst1, zst2, zkill, List.set, List.getElem?_cons_succ, List.getElem?_cons_zero]
      refine zev_of (fun _ kk => zr_goto zi_68_43 kk) ?_
      exact l_howManyWordsOf hb t p hp hn (i + 1) a (by omega) (by rw [zcnt_f (by simpa using h24)]; exact ha)
    · replace h24 := zc_ne_f h24
      refine zev_of (fun _ kk => zr_aload_n (pc' := 28) zi_68_27 rfl rfl kk) ?_
      refine zev_of (fun _ kk => zr_iload (pc' := 30) zi_68_28 rfl rfl kk) ?_
      refine zev_of (fun _ kk => zr_iload_n (pc' := 31) zi_68_30 rfl rfl kk) ?_
      obtain ⟨r, hr, hc⟩ := c_isNewWord hb (F := F) (g := g) i p (by omega) (by omega)
      refine zev_of (fun _ kk => zr_v2 (pc' := 34) zi_68_31 (nput_at hb (k := 1) rfl) rfl hc rfl kk) ?_
      refine zv_if (pc' := 37) zi_68_34 rfl (fun h34 => ?_) (fun h34 => ?_)
      · replace h34 := zc_eq_t h34
        refine zev_of (fun _ kk => zr_iinc (pc' := 43) zi_68_40 rfl (by first | exact n_inc _ | rfl) rfl rfl kk) ?_
        dsimp only [zst1, zst2, zkill, List.set, List.getElem?_cons_succ, List.getElem?_cons_zero]
        refine zev_of (fun _ kk => zr_goto zi_68_43 kk) ?_
        exact l_howManyWordsOf hb t p hp hn (i + 1) a (by omega) (by rw [zcnt_t (by simpa using h24)]; omega)
      · replace h34 := zc_eq_f h34
        refine zev_of (fun _ kk => zr_iinc (pc' := 40) zi_68_37 rfl (by first | exact n_inc _ | rfl) rfl rfl kk) ?_
        dsimp only [zst1, zst2, zkill, List.set, List.getElem?_cons_succ, List.getElem?_cons_zero]
        refine zev_of (fun _ kk => zr_iinc (pc' := 43) zi_68_40 rfl (by first | exact n_inc _ | rfl) rfl rfl kk) ?_
        dsimp only [zst1, zst2, zkill, List.set, List.getElem?_cons_succ, List.getElem?_cons_zero]
        refine zev_of (fun _ kk => zr_goto zi_68_43 kk) ?_
        exact l_howManyWordsOf hb t p hp hn (i + 1) (a + 1) (by omega) (by rw [zcnt_t (by simpa using h24)]; omega)
termination_by g 1 - i
theorem c_howManyWordsOf (hb : b + 71 ≤ h.length) (t : Int32) (p : Nat) (hp : p < 8) (hn : g 1 ≤ 70) : ∃ r, (∃ a, r = nI a ∧ a ≤ zcnt (fun j => decide (F 5 j = t)) (g 1)) ∧ zcalls zTB 68 [.ref (b + 1), .int t, .int (nI p)] (nput b F g h) (some (.int r), nput b F g h) := by
  refine zQi_out (zev_calls (Nat.le_of_ble_eq_true rfl) ?_)
  show zev 68 0 [some (.ref (b + 1)), some (.int t), some (.int (nI p)), none, none] [] _ _
  refine zev_of (fun _ kk => zr_iconst (v := (nI 0)) (pc' := 1) zi_68_0 rfl rfl kk) ?_
  refine zev_of (fun _ kk => zr_istore_n (pc' := 2) zi_68_1 (Nat.le_of_ble_eq_true rfl) rfl rfl kk) ?_
  dsimp only [zst1, zst2, zkill, List.set, List.getElem?_cons_succ, List.getElem?_cons_zero]
  refine zev_of (fun _ kk => zr_iconst (v := (nI 0)) (pc' := 3) zi_68_2 rfl rfl kk) ?_
  refine zev_of (fun _ kk => zr_istore (pc' := 5) zi_68_3 (Nat.le_of_ble_eq_true rfl) rfl rfl kk) ?_
  dsimp only [zst1, zst2, zkill, List.set, List.getElem?_cons_succ, List.getElem?_cons_zero]
  exact l_howManyWordsOf hb t p hp hn 0 0 (by omega) (by omega)
/-- the window of a time -/
def zqu (x w : Int32) : Int32 := if w = 0 then 0 else x / w
theorem l_howManyBetween (hb : b + 71 ≤ h.length) (t u v w : Int32) (hn : g 1 ≤ 70) (i : Nat) (hi : i ≤ g 1) (X : Option Value) : zruns zTB 33 6 [some (.ref (b + 1)), some (.int t), some (.int u), some (.int v), some (.int w), some (.int (nI (zcnt (fun j => decide (F 5 j = t ∧ u ≤ zqu (F 0 j) w ∧ zqu (F 0 j) w ≤ v)) i))), some (.int (nI i)), X] [] (nput b F g h) (some (.int (nI (zcnt (fun j => decide (F 5 j = t ∧ u ≤ zqu (F 0 j) w ∧ zqu (F 0 j) w ≤ v)) (g 1)))), nput b F g h) := by
  refine zr_iload (pc' := 8) zi_33_6 rfl rfl ?_
  refine zr_aload_n (pc' := 9) zi_33_8 rfl rfl ?_
  refine zr_get (pc' := 12) zi_33_9 (nput_at hb (k := 1) rfl) rfl rfl ?_
  refine zr_icmp (pc' := 15) zi_33_12 rfl (fun h12 => ?_) (fun h12 => ?_)
  · replace h12 := zc_ge_t (by omega) (by omega) h12
    refine zr_iload (pc' := 67) zi_33_65 rfl rfl ?_
    have e : i = g 1 := by omega
    subst e
    exact zr_ireturn zi_33_67 rfl
  · replace h12 := zc_ge_f (by omega) (by omega) h12
    refine zr_aload_n (pc' := 16) zi_33_15 rfl rfl ?_
    refine zr_get (pc' := 19) zi_33_16 (nput_at hb (k := 1) rfl) rfl rfl ?_
    refine zr_iload (pc' := 21) zi_33_19 rfl rfl ?_
    refine zr_atN (pc' := 24) (by omega) zi_33_21 hb rfl rfl (by decide) rfl rfl ?_
    refine zr_iload (pc' := 26) zi_33_24 rfl rfl ?_
    have hq : zcalls zTB 13 [.int (F 0 i), .int w] (nput b F g h) (some (.int (zqu (F 0 i) w)), nput b F g h) := c_quotient _ _
    refine zr_s2 (pc' := 29) zi_33_26 rfl hq rfl ?_
    refine zr_istore (pc' := 31) zi_33_29 (Nat.le_of_ble_eq_true rfl) rfl rfl ?_
    dsimp only [zst1, zst2, zkill, List.set, List.getElem?_cons_succ, List.getElem?_cons_zero]
    refine zr_aload_n (pc' := 32) zi_33_31 rfl rfl ?_
    refine zr_get (pc' := 35) zi_33_32 (nput_at hb (k := 1) rfl) rfl rfl ?_
    refine zr_iload (pc' := 37) zi_33_35 rfl rfl ?_
    refine zr_atN (pc' := 40) (by omega) zi_33_37 hb rfl rfl (by decide) rfl rfl ?_
    refine zr_iload_n (pc' := 41) zi_33_40 rfl rfl ?_
    refine zr_icmp (pc' := 44) zi_33_41 rfl (fun h41 => ?_) (fun h41 => ?_)
    · replace h41 := zc_ne_t h41
      refine zr_iinc (pc' := 62) zi_33_59 rfl (by first | exact n_inc _ | rfl) rfl rfl ?_
      dsimp only [zst1, zst2, zkill, List.set, List.getElem?_cons_succ, List.getElem?_cons_zero]
      refine zr_goto zi_33_62 ?_
      have ih := l_howManyBetween hb t u v w hn (i + 1) (by omega) (some (.int (zqu (F 0 i) w)))
      rw [zcnt_f (by simp [h41])] at ih
      exact ih
    · replace h41 := zc_ne_f h41
      refine zr_iload (pc' := 46) zi_33_44 rfl rfl ?_
      refine zr_iload_n (pc' := 47) zi_33_46 rfl rfl ?_
      refine zr_icmp (pc' := 50) zi_33_47 rfl (fun h47 => ?_) (fun h47 => ?_)
      · replace h47 := zx_lt_t h47
        refine zr_iinc (pc' := 62) zi_33_59 rfl (by first | exact n_inc _ | rfl) rfl rfl ?_
        dsimp only [zst1, zst2, zkill, List.set, List.getElem?_cons_succ, List.getElem?_cons_zero]
        refine zr_goto zi_33_62 ?_
        have ih := l_howManyBetween hb t u v w hn (i + 1) (by omega) (some (.int (zqu (F 0 i) w)))
        rw [zcnt_f (by simp only [decide_eq_false_iff_not]; exact fun q => absurd q.2.1 (Int32.not_le.mpr h47))] at ih
        exact ih
      · replace h47 := zx_lt_f h47
        refine zr_iload (pc' := 52) zi_33_50 rfl rfl ?_
        refine zr_iload_n (pc' := 53) zi_33_52 rfl rfl ?_
        refine zr_icmp (pc' := 56) zi_33_53 rfl (fun h53 => ?_) (fun h53 => ?_)
        · replace h53 := zx_gt_t h53
          refine zr_iinc (pc' := 62) zi_33_59 rfl (by first | exact n_inc _ | rfl) rfl rfl ?_
          dsimp only [zst1, zst2, zkill, List.set, List.getElem?_cons_succ, List.getElem?_cons_zero]
          refine zr_goto zi_33_62 ?_
          have ih := l_howManyBetween hb t u v w hn (i + 1) (by omega) (some (.int (zqu (F 0 i) w)))
          rw [zcnt_f (by simp only [decide_eq_false_iff_not]; exact fun q => absurd q.2.2 (Int32.not_le.mpr h53))] at ih
          exact ih
        · replace h53 := zx_gt_f h53
          refine zr_iinc (pc' := 59) zi_33_56 rfl (by first | exact n_inc _ | rfl) rfl rfl ?_
          dsimp only [zst1, zst2, zkill, List.set, List.getElem?_cons_succ, List.getElem?_cons_zero]
          refine zr_iinc (pc' := 62) zi_33_59 rfl (by first | exact n_inc _ | rfl) rfl rfl ?_
          dsimp only [zst1, zst2, zkill, List.set, List.getElem?_cons_succ, List.getElem?_cons_zero]
          refine zr_goto zi_33_62 ?_
          have ih := l_howManyBetween hb t u v w hn (i + 1) (by omega) (some (.int (zqu (F 0 i) w)))
          rw [zcnt_t (by simp only [decide_eq_true_eq]; exact ⟨h41, Int32.not_lt.mp h47, Int32.not_lt.mp h53⟩)] at ih
          exact ih
termination_by g 1 - i
theorem c_howManyBetween (hb : b + 71 ≤ h.length) (t u v w : Int32) (hn : g 1 ≤ 70) : zcalls zTB 33 [.ref (b + 1), .int t, .int u, .int v, .int w] (nput b F g h) (some (.int (nI (zcnt (fun j => decide (F 5 j = t ∧ u ≤ zqu (F 0 j) w ∧ zqu (F 0 j) w ≤ v)) (g 1)))), nput b F g h) := by
  refine zcalls_of (Nat.le_of_ble_eq_true rfl) ?_
  show zruns zTB 33 0 [some (.ref (b + 1)), some (.int t), some (.int u), some (.int v), some (.int w), none, none, none] [] _ _
  refine zr_iconst (v := (nI 0)) (pc' := 1) zi_33_0 rfl rfl ?_
  refine zr_istore (pc' := 3) zi_33_1 (Nat.le_of_ble_eq_true rfl) rfl rfl ?_
  dsimp only [zst1, zst2, zkill, List.set, List.getElem?_cons_succ, List.getElem?_cons_zero]
  refine zr_iconst (v := (nI 0)) (pc' := 4) zi_33_3 rfl rfl ?_
  refine zr_istore (pc' := 6) zi_33_4 (Nat.le_of_ble_eq_true rfl) rfl rfl ?_
  dsimp only [zst1, zst2, zkill, List.set, List.getElem?_cons_succ, List.getElem?_cons_zero]
  exact l_howManyBetween hb t u v w hn 0 (by omega) none
/-- the line that a line goes on with, looked for below j -/
def zjn (F : Nat → Nat → Int32) (l : Nat) (gap : Int32) : Nat → Int32
  | 0 => -1
  | j + 1 => if F 6 j = F 6 l then (if F 0 l - F 0 j ≤ gap then nI j else -1) else zjn F l gap j
theorem l_joined (hb : b + 71 ≤ h.length) (l : Nat) (gap : Int32) (hl : l < 70) : ∀ j, j ≤ l → zruns zTB 34 4 [some (.ref (b + 1)), some (.int (nI l)), some (.int gap), some (.int (nI j - 1))] [] (nput b F g h) (some (.int (zjn F l gap j)), nput b F g h)
  | 0, hj => by
    refine zr_iload_n (pc' := 5) zi_34_4 rfl rfl ?_
    refine zr_if (pc' := 8) zi_34_5 rfl (fun h5 => ?_) (fun h5 => ?_)
    · replace h5 := zx_lt_t h5
      refine zr_iconst (v := (-1)) (pc' := 61) zi_34_60 rfl rfl ?_
      exact zr_ireturn zi_34_61 rfl
    · replace h5 := zx_lt_f h5
      exact absurd (by decide : nI 0 - 1 < 0) h5
  | j + 1, hj => by
    rw [nI_pred]
    refine zr_iload_n (pc' := 5) zi_34_4 rfl rfl ?_
    refine zr_if (pc' := 8) zi_34_5 rfl (fun h5 => ?_) (fun h5 => ?_)
    · replace h5 := zx_lt_t h5
      exact absurd h5 (nI_pos (by omega))
    · replace h5 := zx_lt_f h5
      refine zr_aload_n (pc' := 9) zi_34_8 rfl rfl ?_
      refine zr_get (pc' := 12) zi_34_9 (nput_at hb (k := 1) rfl) rfl rfl ?_
      refine zr_iload_n (pc' := 13) zi_34_12 rfl rfl ?_
      refine zr_atN (pc' := 16) (by omega) zi_34_13 hb rfl rfl (by decide) rfl rfl ?_
      refine zr_aload_n (pc' := 17) zi_34_16 rfl rfl ?_
      refine zr_get (pc' := 20) zi_34_17 (nput_at hb (k := 1) rfl) rfl rfl ?_
      refine zr_iload_n (pc' := 21) zi_34_20 rfl rfl ?_
      refine zr_atN (pc' := 24) (by omega) zi_34_21 hb rfl rfl (by decide) rfl rfl ?_
      refine zr_icmp (pc' := 27) zi_34_24 rfl (fun h24 => ?_) (fun h24 => ?_)
      · replace h24 := zc_ne_t h24
        refine zr_iinc (pc' := 57) zi_34_54 rfl (n_dec _) rfl rfl ?_
        dsimp only [zst1, zst2, zkill, List.set, List.getElem?_cons_succ, List.getElem?_cons_zero]
        refine zr_goto zi_34_57 ?_
        rw [zjn, if_neg h24]
        exact l_joined hb l gap hl j (by omega)
      · replace h24 := zc_ne_f h24
        refine zr_aload_n (pc' := 28) zi_34_27 rfl rfl ?_
        refine zr_get (pc' := 31) zi_34_28 (nput_at hb (k := 1) rfl) rfl rfl ?_
        refine zr_iload_n (pc' := 32) zi_34_31 rfl rfl ?_
        refine zr_atN (pc' := 35) (by omega) zi_34_32 hb rfl rfl (by decide) rfl rfl ?_
        refine zr_aload_n (pc' := 36) zi_34_35 rfl rfl ?_
        refine zr_get (pc' := 39) zi_34_36 (nput_at hb (k := 1) rfl) rfl rfl ?_
        refine zr_iload_n (pc' := 40) zi_34_39 rfl rfl ?_
        refine zr_atN (pc' := 43) (by omega) zi_34_40 hb rfl rfl (by decide) rfl rfl ?_
        refine zr_isub (pc' := 44) zi_34_43 (by first | exact pk_sub (by omega) | rfl) rfl ?_
        refine zr_iload_n (pc' := 45) zi_34_44 rfl rfl ?_
        refine zr_icmp (pc' := 48) zi_34_45 rfl (fun h45 => ?_) (fun h45 => ?_)
        · replace h45 := zx_gt_t h45
          refine zr_iconst (v := (-1)) (pc' := 53) zi_34_52 rfl rfl ?_
          rw [zjn, if_pos h24, if_neg (Int32.not_le.mpr h45)]
          exact zr_ireturn zi_34_53 rfl
        · replace h45 := zx_gt_f h45
          refine zr_iload_n (pc' := 49) zi_34_48 rfl rfl ?_
          refine zr_goto zi_34_49 ?_
          rw [zjn, if_pos h24, if_pos (Int32.not_lt.mp h45)]
          exact zr_ireturn zi_34_53 rfl
theorem c_joined (hb : b + 71 ≤ h.length) (l : Nat) (gap : Int32) (hl : l < 70) : zcalls zTB 34 [.ref (b + 1), .int (nI l), .int gap] (nput b F g h) (some (.int (zjn F l gap l)), nput b F g h) := by
  refine zcalls_of (Nat.le_of_ble_eq_true rfl) ?_
  show zruns zTB 34 0 [some (.ref (b + 1)), some (.int (nI l)), some (.int gap), none] [] _ _
  refine zr_iload_n (pc' := 1) zi_34_0 rfl rfl ?_
  refine zr_iconst (v := (nI 1)) (pc' := 2) zi_34_1 rfl rfl ?_
  refine zr_isub (pc' := 3) zi_34_2 rfl rfl ?_
  refine zr_istore_n (pc' := 4) zi_34_3 (Nat.le_of_ble_eq_true rfl) rfl rfl ?_
  dsimp only [zst1, zst2, zkill, List.set, List.getElem?_cons_succ, List.getElem?_cons_zero]
  exact l_joined hb l gap hl l (by omega)
theorem c_isInScene (hb : b + 71 ≤ h.length) (o l : Nat) (back : Int32) (ho : o < 70) (hl : l < 70) (hn : g 1 ≤ 70) : ∃ r, ((r = 0 ∨ r = 1) ∧ (r ≠ 0 → o < l ∧ o < g 1 ∧ F 0 l - back ≤ F 0 o)) ∧ zcalls zTB 35 [.ref (b + 1), .int (nI o), .int (nI l), .int back] (nput b F g h) (some (.int r), nput b F g h) := by
  refine zQi_out (zev_calls (Nat.le_of_ble_eq_true rfl) ?_)
  show zev 35 0 [some (.ref (b + 1)), some (.int (nI o)), some (.int (nI l)), some (.int back), none] [] _ _
  refine zev_of (fun _ kk => zr_iload_n (pc' := 1) zi_35_0 rfl rfl kk) ?_
  refine zev_of (fun _ kk => zr_iload_n (pc' := 2) zi_35_1 rfl rfl kk) ?_
  refine zv_icmp (pc' := 5) zi_35_2 rfl (fun h2 => ?_) (fun h2 => ?_)
  · replace h2 := zc_ge_t (by omega) (by omega) h2
    refine zev_of (fun _ kk => zr_iconst (v := (nI 0)) (pc' := 35) zi_35_34 rfl rfl kk) ?_
    refine zev_ret (zr_zreturn zi_35_35 rfl (by decide)) ?_
    exact ⟨_, ⟨.inl rfl, fun q => absurd rfl q⟩, rfl⟩
  · replace h2 := zc_ge_f (by omega) (by omega) h2
    refine zev_of (fun _ kk => zr_iload_n (pc' := 6) zi_35_5 rfl rfl kk) ?_
    refine zev_of (fun _ kk => zr_aload_n (pc' := 7) zi_35_6 rfl rfl kk) ?_
    refine zev_of (fun _ kk => zr_get (pc' := 10) zi_35_7 (nput_at hb (k := 1) rfl) rfl rfl kk) ?_
    refine zv_icmp (pc' := 13) zi_35_10 rfl (fun h10 => ?_) (fun h10 => ?_)
    · replace h10 := zc_ge_t (by omega) (by omega) h10
      refine zev_of (fun _ kk => zr_iconst (v := (nI 0)) (pc' := 35) zi_35_34 rfl rfl kk) ?_
      refine zev_ret (zr_zreturn zi_35_35 rfl (by decide)) ?_
      exact ⟨_, ⟨.inl rfl, fun q => absurd rfl q⟩, rfl⟩
    · replace h10 := zc_ge_f (by omega) (by omega) h10
      refine zev_of (fun _ kk => zr_aload_n (pc' := 14) zi_35_13 rfl rfl kk) ?_
      refine zev_of (fun _ kk => zr_get (pc' := 17) zi_35_14 (nput_at hb (k := 1) rfl) rfl rfl kk) ?_
      refine zev_of (fun _ kk => zr_iload_n (pc' := 18) zi_35_17 rfl rfl kk) ?_
      refine zev_of (fun _ kk => zr_atN (pc' := 21) (by omega) zi_35_18 hb rfl rfl (by decide) rfl rfl kk) ?_
      refine zev_of (fun _ kk => zr_aload_n (pc' := 22) zi_35_21 rfl rfl kk) ?_
      refine zev_of (fun _ kk => zr_get (pc' := 25) zi_35_22 (nput_at hb (k := 1) rfl) rfl rfl kk) ?_
      refine zev_of (fun _ kk => zr_iload_n (pc' := 26) zi_35_25 rfl rfl kk) ?_
      refine zev_of (fun _ kk => zr_atN (pc' := 29) (by omega) zi_35_26 hb rfl rfl (by decide) rfl rfl kk) ?_
      refine zev_of (fun _ kk => zr_iload_n (pc' := 30) zi_35_29 rfl rfl kk) ?_
      refine zev_of (fun _ kk => zr_isub (pc' := 31) zi_35_30 (by first | exact pk_sub (by omega) | rfl) rfl kk) ?_
      refine zv_icmp (pc' := 34) zi_35_31 rfl (fun h31 => ?_) (fun h31 => ?_)
      · replace h31 := zx_ge_t h31
        refine zev_of (fun _ kk => zr_aload_n (pc' := 37) zi_35_36 rfl rfl kk) ?_
        refine zev_of (fun _ kk => zr_get (pc' := 40) zi_35_37 (nput_at hb (k := 1) rfl) rfl rfl kk) ?_
        refine zev_of (fun _ kk => zr_iload_n (pc' := 41) zi_35_40 rfl rfl kk) ?_
        refine zev_of (fun _ kk => zr_atN (pc' := 44) (by omega) zi_35_41 hb rfl rfl (by decide) rfl rfl kk) ?_
        refine zv_if (pc' := 47) zi_35_44 rfl (fun h44 => ?_) (fun h44 => ?_)
        · replace h44 := zx_lt_t h44
          refine zev_of (fun _ kk => zr_iconst (v := (nI 0)) (pc' := 71) zi_35_70 rfl rfl kk) ?_
          refine zev_of (fun _ kk => zr_istore (pc' := 73) zi_35_71 (Nat.le_of_ble_eq_true rfl) rfl rfl kk) ?_
          dsimp only [zst1, zst2, zkill, List.set, List.getElem?_cons_succ, List.getElem?_cons_zero]
          refine zev_of (fun _ kk => zr_iload (pc' := 75) zi_35_73 rfl rfl kk) ?_
          refine zv_if (pc' := 78) zi_35_75 rfl (fun h75 => ?_) (fun h75 => ?_)
          · replace h75 := zc_ne_t h75
            refine zev_of (fun _ kk => zr_iconst (v := (nI 1)) (pc' := 98) zi_35_97 rfl rfl kk) ?_
            refine zev_of (fun _ kk => zr_goto zi_35_98 kk) ?_
            refine zev_ret (zr_zreturn zi_35_102 rfl (by decide)) ?_
            exact ⟨_, ⟨by first | exact .inl rfl | exact .inr rfl, fun _ => ⟨h2, h10, h31⟩⟩, rfl⟩
          · replace h75 := zc_ne_f h75
            refine zev_of (fun _ kk => zr_aload_n (pc' := 79) zi_35_78 rfl rfl kk) ?_
            refine zev_of (fun _ kk => zr_get (pc' := 82) zi_35_79 (nput_at hb (k := 1) rfl) rfl rfl kk) ?_
            refine zev_of (fun _ kk => zr_iload_n (pc' := 83) zi_35_82 rfl rfl kk) ?_
            refine zev_of (fun _ kk => zr_atN (pc' := 86) (by omega) zi_35_83 hb rfl rfl (by decide) rfl rfl kk) ?_
            refine zev_of (fun _ kk => zr_aload_n (pc' := 87) zi_35_86 rfl rfl kk) ?_
            refine zev_of (fun _ kk => zr_get (pc' := 90) zi_35_87 (nput_at hb (k := 1) rfl) rfl rfl kk) ?_
            refine zev_of (fun _ kk => zr_iload_n (pc' := 91) zi_35_90 rfl rfl kk) ?_
            refine zev_of (fun _ kk => zr_atN (pc' := 94) (by omega) zi_35_91 hb rfl rfl (by decide) rfl rfl kk) ?_
            refine zv_icmp (pc' := 97) zi_35_94 rfl (fun h94 => ?_) (fun h94 => ?_)
            · replace h94 := zc_ne_t h94
              refine zev_of (fun _ kk => zr_iconst (v := (nI 0)) (pc' := 102) zi_35_101 rfl rfl kk) ?_
              refine zev_ret (zr_zreturn zi_35_102 rfl (by decide)) ?_
              exact ⟨_, ⟨by first | exact .inl rfl | exact .inr rfl, fun _ => ⟨h2, h10, h31⟩⟩, rfl⟩
            · replace h94 := zc_ne_f h94
              refine zev_of (fun _ kk => zr_iconst (v := (nI 1)) (pc' := 98) zi_35_97 rfl rfl kk) ?_
              refine zev_of (fun _ kk => zr_goto zi_35_98 kk) ?_
              refine zev_ret (zr_zreturn zi_35_102 rfl (by decide)) ?_
              exact ⟨_, ⟨by first | exact .inl rfl | exact .inr rfl, fun _ => ⟨h2, h10, h31⟩⟩, rfl⟩
        · replace h44 := zx_lt_f h44
          refine zev_of (fun _ kk => zr_aload_n (pc' := 48) zi_35_47 rfl rfl kk) ?_
          refine zev_of (fun _ kk => zr_get (pc' := 51) zi_35_48 (nput_at hb (k := 1) rfl) rfl rfl kk) ?_
          refine zev_of (fun _ kk => zr_iload_n (pc' := 52) zi_35_51 rfl rfl kk) ?_
          refine zev_of (fun _ kk => zr_atN (pc' := 55) (by omega) zi_35_52 hb rfl rfl (by decide) rfl rfl kk) ?_
          refine zev_of (fun _ kk => zr_aload_n (pc' := 56) zi_35_55 rfl rfl kk) ?_
          refine zev_of (fun _ kk => zr_get (pc' := 59) zi_35_56 (nput_at hb (k := 1) rfl) rfl rfl kk) ?_
          refine zev_of (fun _ kk => zr_iload_n (pc' := 60) zi_35_59 rfl rfl kk) ?_
          refine zev_of (fun _ kk => zr_atN (pc' := 63) (by omega) zi_35_60 hb rfl rfl (by decide) rfl rfl kk) ?_
          refine zv_icmp (pc' := 66) zi_35_63 rfl (fun h63 => ?_) (fun h63 => ?_)
          · replace h63 := zc_ne_t h63
            refine zev_of (fun _ kk => zr_iconst (v := (nI 0)) (pc' := 71) zi_35_70 rfl rfl kk) ?_
            refine zev_of (fun _ kk => zr_istore (pc' := 73) zi_35_71 (Nat.le_of_ble_eq_true rfl) rfl rfl kk) ?_
            dsimp only [zst1, zst2, zkill, List.set, List.getElem?_cons_succ, List.getElem?_cons_zero]
            refine zev_of (fun _ kk => zr_iload (pc' := 75) zi_35_73 rfl rfl kk) ?_
            refine zv_if (pc' := 78) zi_35_75 rfl (fun h75 => ?_) (fun h75 => ?_)
            · replace h75 := zc_ne_t h75
              refine zev_of (fun _ kk => zr_iconst (v := (nI 1)) (pc' := 98) zi_35_97 rfl rfl kk) ?_
              refine zev_of (fun _ kk => zr_goto zi_35_98 kk) ?_
              refine zev_ret (zr_zreturn zi_35_102 rfl (by decide)) ?_
              exact ⟨_, ⟨by first | exact .inl rfl | exact .inr rfl, fun _ => ⟨h2, h10, h31⟩⟩, rfl⟩
            · replace h75 := zc_ne_f h75
              refine zev_of (fun _ kk => zr_aload_n (pc' := 79) zi_35_78 rfl rfl kk) ?_
              refine zev_of (fun _ kk => zr_get (pc' := 82) zi_35_79 (nput_at hb (k := 1) rfl) rfl rfl kk) ?_
              refine zev_of (fun _ kk => zr_iload_n (pc' := 83) zi_35_82 rfl rfl kk) ?_
              refine zev_of (fun _ kk => zr_atN (pc' := 86) (by omega) zi_35_83 hb rfl rfl (by decide) rfl rfl kk) ?_
              refine zev_of (fun _ kk => zr_aload_n (pc' := 87) zi_35_86 rfl rfl kk) ?_
              refine zev_of (fun _ kk => zr_get (pc' := 90) zi_35_87 (nput_at hb (k := 1) rfl) rfl rfl kk) ?_
              refine zev_of (fun _ kk => zr_iload_n (pc' := 91) zi_35_90 rfl rfl kk) ?_
              refine zev_of (fun _ kk => zr_atN (pc' := 94) (by omega) zi_35_91 hb rfl rfl (by decide) rfl rfl kk) ?_
              refine zv_icmp (pc' := 97) zi_35_94 rfl (fun h94 => ?_) (fun h94 => ?_)
              · replace h94 := zc_ne_t h94
                refine zev_of (fun _ kk => zr_iconst (v := (nI 0)) (pc' := 102) zi_35_101 rfl rfl kk) ?_
                refine zev_ret (zr_zreturn zi_35_102 rfl (by decide)) ?_
                exact ⟨_, ⟨by first | exact .inl rfl | exact .inr rfl, fun _ => ⟨h2, h10, h31⟩⟩, rfl⟩
              · replace h94 := zc_ne_f h94
                refine zev_of (fun _ kk => zr_iconst (v := (nI 1)) (pc' := 98) zi_35_97 rfl rfl kk) ?_
                refine zev_of (fun _ kk => zr_goto zi_35_98 kk) ?_
                refine zev_ret (zr_zreturn zi_35_102 rfl (by decide)) ?_
                exact ⟨_, ⟨by first | exact .inl rfl | exact .inr rfl, fun _ => ⟨h2, h10, h31⟩⟩, rfl⟩
          · replace h63 := zc_ne_f h63
            refine zev_of (fun _ kk => zr_iconst (v := (nI 1)) (pc' := 67) zi_35_66 rfl rfl kk) ?_
            refine zev_of (fun _ kk => zr_goto zi_35_67 kk) ?_
            refine zev_of (fun _ kk => zr_istore (pc' := 73) zi_35_71 (Nat.le_of_ble_eq_true rfl) rfl rfl kk) ?_
            dsimp only [zst1, zst2, zkill, List.set, List.getElem?_cons_succ, List.getElem?_cons_zero]
            refine zev_of (fun _ kk => zr_iload (pc' := 75) zi_35_73 rfl rfl kk) ?_
            refine zv_if (pc' := 78) zi_35_75 rfl (fun h75 => ?_) (fun h75 => ?_)
            · replace h75 := zc_ne_t h75
              refine zev_of (fun _ kk => zr_iconst (v := (nI 1)) (pc' := 98) zi_35_97 rfl rfl kk) ?_
              refine zev_of (fun _ kk => zr_goto zi_35_98 kk) ?_
              refine zev_ret (zr_zreturn zi_35_102 rfl (by decide)) ?_
              exact ⟨_, ⟨by first | exact .inl rfl | exact .inr rfl, fun _ => ⟨h2, h10, h31⟩⟩, rfl⟩
            · replace h75 := zc_ne_f h75
              refine zev_of (fun _ kk => zr_aload_n (pc' := 79) zi_35_78 rfl rfl kk) ?_
              refine zev_of (fun _ kk => zr_get (pc' := 82) zi_35_79 (nput_at hb (k := 1) rfl) rfl rfl kk) ?_
              refine zev_of (fun _ kk => zr_iload_n (pc' := 83) zi_35_82 rfl rfl kk) ?_
              refine zev_of (fun _ kk => zr_atN (pc' := 86) (by omega) zi_35_83 hb rfl rfl (by decide) rfl rfl kk) ?_
              refine zev_of (fun _ kk => zr_aload_n (pc' := 87) zi_35_86 rfl rfl kk) ?_
              refine zev_of (fun _ kk => zr_get (pc' := 90) zi_35_87 (nput_at hb (k := 1) rfl) rfl rfl kk) ?_
              refine zev_of (fun _ kk => zr_iload_n (pc' := 91) zi_35_90 rfl rfl kk) ?_
              refine zev_of (fun _ kk => zr_atN (pc' := 94) (by omega) zi_35_91 hb rfl rfl (by decide) rfl rfl kk) ?_
              refine zv_icmp (pc' := 97) zi_35_94 rfl (fun h94 => ?_) (fun h94 => ?_)
              · replace h94 := zc_ne_t h94
                refine zev_of (fun _ kk => zr_iconst (v := (nI 0)) (pc' := 102) zi_35_101 rfl rfl kk) ?_
                refine zev_ret (zr_zreturn zi_35_102 rfl (by decide)) ?_
                exact ⟨_, ⟨by first | exact .inl rfl | exact .inr rfl, fun _ => ⟨h2, h10, h31⟩⟩, rfl⟩
              · replace h94 := zc_ne_f h94
                refine zev_of (fun _ kk => zr_iconst (v := (nI 1)) (pc' := 98) zi_35_97 rfl rfl kk) ?_
                refine zev_of (fun _ kk => zr_goto zi_35_98 kk) ?_
                refine zev_ret (zr_zreturn zi_35_102 rfl (by decide)) ?_
                exact ⟨_, ⟨by first | exact .inl rfl | exact .inr rfl, fun _ => ⟨h2, h10, h31⟩⟩, rfl⟩
      · replace h31 := zx_ge_f h31
        refine zev_of (fun _ kk => zr_iconst (v := (nI 0)) (pc' := 35) zi_35_34 rfl rfl kk) ?_
        refine zev_ret (zr_zreturn zi_35_35 rfl (by decide)) ?_
        exact ⟨_, ⟨.inl rfl, fun q => absurd rfl q⟩, rfl⟩
end


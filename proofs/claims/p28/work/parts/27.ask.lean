theorem zi_26_0 : zI 26 0 = some (.aload_n 0, []) := by decide +kernel
theorem zi_26_1 : zI 26 1 = some (.getfield 38, [3, 7, 145]) := by decide +kernel
theorem zi_26_4 : zI 26 4 = some (.aload_n 0, []) := by decide +kernel
theorem zi_26_5 : zI 26 5 = some (.getfield 35, [3, 6, 146]) := by decide +kernel
theorem zi_26_8 : zI 26 8 = some (.iload_n 1, []) := by decide +kernel
theorem zi_26_9 : zI 26 9 = some (.invokevirtual 55, [0, 0, 1, 1, 17, 18, 19, 16, 0, 147]) := by decide +kernel
theorem zi_26_12 : zI 26 12 = some (.invokevirtual 55, [0, 0, 1, 1, 17, 18, 19, 16, 0, 147]) := by decide +kernel
theorem zi_26_15 : zI 26 15 = some (.ireturn, []) := by decide +kernel
theorem zi_67_0 : zI 67 0 = some (.aload_n 0, []) := by decide +kernel
theorem zi_67_1 : zI 67 1 = some (.getfield 38, [3, 7, 145]) := by decide +kernel
theorem zi_67_4 : zI 67 4 = some (.invokevirtual 75, [18, 0, 0, 1, 309, 310, 19, 308, 0, 353]) := by decide +kernel
theorem zi_67_7 : zI 67 7 = some (.iconst 0, []) := by decide +kernel
theorem zi_67_8 : zI 67 8 = some (.istore_n 2, []) := by decide +kernel
theorem zi_67_9 : zI 67 9 = some (.iload_n 2, []) := by decide +kernel
theorem zi_67_10 : zI 67 10 = some (.aload_n 0, []) := by decide +kernel
theorem zi_67_11 : zI 67 11 = some (.getfield 41, [3, 8, 335]) := by decide +kernel
theorem zi_67_14 : zI 67 14 = some (.if_icmp .ge 49, [63]) := by decide +kernel
theorem zi_67_17 : zI 67 17 = some (.iconst 0, []) := by decide +kernel
theorem zi_67_18 : zI 67 18 = some (.istore_n 3, []) := by decide +kernel
theorem zi_67_19 : zI 67 19 = some (.iload_n 3, []) := by decide +kernel
theorem zi_67_20 : zI 67 20 = some (.iload_n 2, []) := by decide +kernel
theorem zi_67_21 : zI 67 21 = some (.if_icmp .ge 19, [40]) := by decide +kernel
theorem zi_67_24 : zI 67 24 = some (.aload_n 0, []) := by decide +kernel
theorem zi_67_25 : zI 67 25 = some (.aload_n 1, []) := by decide +kernel
theorem zi_67_26 : zI 67 26 = some (.iload_n 3, []) := by decide +kernel
theorem zi_67_27 : zI 67 27 = some (.iload_n 2, []) := by decide +kernel
theorem zi_67_28 : zI 67 28 = some (.invokevirtual 78, [68, 0, 3, 3, 356, 357, 53, 355, 0, 354]) := by decide +kernel
theorem zi_67_31 : zI 67 31 = some (.ifCond .ne 9, [40]) := by decide +kernel
theorem zi_67_34 : zI 67 34 = some (.iinc 3 1, []) := by decide +kernel
theorem zi_67_37 : zI 67 37 = some (.goto (-18), [19]) := by decide +kernel
theorem zi_67_40 : zI 67 40 = some (.aload_n 0, []) := by decide +kernel
theorem zi_67_41 : zI 67 41 = some (.getfield 35, [3, 6, 146]) := by decide +kernel
theorem zi_67_44 : zI 67 44 = some (.iload_n 2, []) := by decide +kernel
theorem zi_67_45 : zI 67 45 = some (.iload_n 3, []) := by decide +kernel
theorem zi_67_46 : zI 67 46 = some (.invokevirtual 48, [1, 0, 2, 1, 282, 283, 19, 281, 0, 337]) := by decide +kernel
theorem zi_67_49 : zI 67 49 = some (.aload_n 0, []) := by decide +kernel
theorem zi_67_50 : zI 67 50 = some (.getfield 38, [3, 7, 145]) := by decide +kernel
theorem zi_67_53 : zI 67 53 = some (.iload_n 3, []) := by decide +kernel
theorem zi_67_54 : zI 67 54 = some (.invokevirtual 69, [9, 0, 1, 1, 314, 315, 19, 313, 0, 351]) := by decide +kernel
theorem zi_67_57 : zI 67 57 = some (.iinc 2 1, []) := by decide +kernel
theorem zi_67_60 : zI 67 60 = some (.goto (-51), [9]) := by decide +kernel
theorem zi_67_63 : zI 67 63 = some (.return_, []) := by decide +kernel
theorem zi_68_0 : zI 68 0 = some (.aload_n 0, []) := by decide +kernel
theorem zi_68_1 : zI 68 1 = some (.getfield 29, [3, 4, 333]) := by decide +kernel
theorem zi_68_4 : zI 68 4 = some (.iload_n 2, []) := by decide +kernel
theorem zi_68_5 : zI 68 5 = some (.invokevirtual 55, [0, 0, 1, 1, 17, 18, 19, 16, 0, 147]) := by decide +kernel
theorem zi_68_8 : zI 68 8 = some (.aload_n 0, []) := by decide +kernel
theorem zi_68_9 : zI 68 9 = some (.getfield 29, [3, 4, 333]) := by decide +kernel
theorem zi_68_12 : zI 68 12 = some (.iload_n 3, []) := by decide +kernel
theorem zi_68_13 : zI 68 13 = some (.invokevirtual 55, [0, 0, 1, 1, 17, 18, 19, 16, 0, 147]) := by decide +kernel
theorem zi_68_16 : zI 68 16 = some (.if_icmp .eq 5, [21]) := by decide +kernel
theorem zi_68_19 : zI 68 19 = some (.iconst 0, []) := by decide +kernel
theorem zi_68_20 : zI 68 20 = some (.ireturn, []) := by decide +kernel
theorem zi_68_21 : zI 68 21 = some (.aload_n 0, []) := by decide +kernel
theorem zi_68_22 : zI 68 22 = some (.getfield 23, [3, 2, 331]) := by decide +kernel
theorem zi_68_25 : zI 68 25 = some (.iload_n 2, []) := by decide +kernel
theorem zi_68_26 : zI 68 26 = some (.invokevirtual 55, [0, 0, 1, 1, 17, 18, 19, 16, 0, 147]) := by decide +kernel
theorem zi_68_29 : zI 68 29 = some (.istore 4, []) := by decide +kernel
theorem zi_68_31 : zI 68 31 = some (.aload_n 0, []) := by decide +kernel
theorem zi_68_32 : zI 68 32 = some (.getfield 23, [3, 2, 331]) := by decide +kernel
theorem zi_68_35 : zI 68 35 = some (.iload_n 3, []) := by decide +kernel
theorem zi_68_36 : zI 68 36 = some (.invokevirtual 55, [0, 0, 1, 1, 17, 18, 19, 16, 0, 147]) := by decide +kernel
theorem zi_68_39 : zI 68 39 = some (.istore 5, []) := by decide +kernel
theorem zi_68_41 : zI 68 41 = some (.iconst 0, []) := by decide +kernel
theorem zi_68_42 : zI 68 42 = some (.istore 6, []) := by decide +kernel
theorem zi_68_44 : zI 68 44 = some (.iload 6, []) := by decide +kernel
theorem zi_68_46 : zI 68 46 = some (.aload_n 0, []) := by decide +kernel
theorem zi_68_47 : zI 68 47 = some (.getfield 29, [3, 4, 333]) := by decide +kernel
theorem zi_68_50 : zI 68 50 = some (.iload_n 2, []) := by decide +kernel
theorem zi_68_51 : zI 68 51 = some (.invokevirtual 55, [0, 0, 1, 1, 17, 18, 19, 16, 0, 147]) := by decide +kernel
theorem zi_68_54 : zI 68 54 = some (.if_icmp .ge 54, [108]) := by decide +kernel
theorem zi_68_57 : zI 68 57 = some (.aload_n 1, []) := by decide +kernel
theorem zi_68_58 : zI 68 58 = some (.getfield 82, [0, 5, 358]) := by decide +kernel
theorem zi_68_61 : zI 68 61 = some (.iload 4, []) := by decide +kernel
theorem zi_68_63 : zI 68 63 = some (.invokevirtual 55, [0, 0, 1, 1, 17, 18, 19, 16, 0, 147]) := by decide +kernel
theorem zi_68_66 : zI 68 66 = some (.aload_n 1, []) := by decide +kernel
theorem zi_68_67 : zI 68 67 = some (.getfield 82, [0, 5, 358]) := by decide +kernel
theorem zi_68_70 : zI 68 70 = some (.iload 5, []) := by decide +kernel
theorem zi_68_72 : zI 68 72 = some (.invokevirtual 55, [0, 0, 1, 1, 17, 18, 19, 16, 0, 147]) := by decide +kernel
theorem zi_68_75 : zI 68 75 = some (.if_icmp .eq 5, [80]) := by decide +kernel
theorem zi_68_78 : zI 68 78 = some (.iconst 0, []) := by decide +kernel
theorem zi_68_79 : zI 68 79 = some (.ireturn, []) := by decide +kernel
theorem zi_68_80 : zI 68 80 = some (.aload_n 0, []) := by decide +kernel
theorem zi_68_81 : zI 68 81 = some (.getfield 20, [3, 1, 330]) := by decide +kernel
theorem zi_68_84 : zI 68 84 = some (.iload 4, []) := by decide +kernel
theorem zi_68_86 : zI 68 86 = some (.invokevirtual 55, [0, 0, 1, 1, 17, 18, 19, 16, 0, 147]) := by decide +kernel
theorem zi_68_89 : zI 68 89 = some (.istore 4, []) := by decide +kernel
theorem zi_68_91 : zI 68 91 = some (.aload_n 0, []) := by decide +kernel
theorem zi_68_92 : zI 68 92 = some (.getfield 20, [3, 1, 330]) := by decide +kernel
theorem zi_68_95 : zI 68 95 = some (.iload 5, []) := by decide +kernel
theorem zi_68_97 : zI 68 97 = some (.invokevirtual 55, [0, 0, 1, 1, 17, 18, 19, 16, 0, 147]) := by decide +kernel
theorem zi_68_100 : zI 68 100 = some (.istore 5, []) := by decide +kernel
theorem zi_68_102 : zI 68 102 = some (.iinc 6 1, []) := by decide +kernel
theorem zi_68_105 : zI 68 105 = some (.goto (-61), [44]) := by decide +kernel
theorem zi_68_108 : zI 68 108 = some (.iconst 1, []) := by decide +kernel
theorem zi_68_109 : zI 68 109 = some (.ireturn, []) := by decide +kernel
theorem zi_69_0 : zI 69 0 = some (.aload_n 0, []) := by decide +kernel
theorem zi_69_1 : zI 69 1 = some (.getfield 23, [3, 2, 331]) := by decide +kernel
theorem zi_69_4 : zI 69 4 = some (.iload_n 1, []) := by decide +kernel
theorem zi_69_5 : zI 69 5 = some (.invokevirtual 55, [0, 0, 1, 1, 17, 18, 19, 16, 0, 147]) := by decide +kernel
theorem zi_69_8 : zI 69 8 = some (.istore_n 3, []) := by decide +kernel
theorem zi_69_9 : zI 69 9 = some (.iconst 0, []) := by decide +kernel
theorem zi_69_10 : zI 69 10 = some (.istore 4, []) := by decide +kernel
theorem zi_69_12 : zI 69 12 = some (.iload 4, []) := by decide +kernel
theorem zi_69_14 : zI 69 14 = some (.iload_n 2, []) := by decide +kernel
theorem zi_69_15 : zI 69 15 = some (.if_icmp .ge 18, [33]) := by decide +kernel
theorem zi_69_18 : zI 69 18 = some (.aload_n 0, []) := by decide +kernel
theorem zi_69_19 : zI 69 19 = some (.getfield 20, [3, 1, 330]) := by decide +kernel
theorem zi_69_22 : zI 69 22 = some (.iload_n 3, []) := by decide +kernel
theorem zi_69_23 : zI 69 23 = some (.invokevirtual 55, [0, 0, 1, 1, 17, 18, 19, 16, 0, 147]) := by decide +kernel
theorem zi_69_26 : zI 69 26 = some (.istore_n 3, []) := by decide +kernel
theorem zi_69_27 : zI 69 27 = some (.iinc 4 1, []) := by decide +kernel
theorem zi_69_30 : zI 69 30 = some (.goto (-18), [12]) := by decide +kernel
theorem zi_69_33 : zI 69 33 = some (.iload_n 3, []) := by decide +kernel
theorem zi_69_34 : zI 69 34 = some (.ireturn, []) := by decide +kernel
theorem zi_71_0 : zI 71 0 = some (.iconst 0, []) := by decide +kernel
theorem zi_71_1 : zI 71 1 = some (.istore_n 1, []) := by decide +kernel
theorem zi_71_2 : zI 71 2 = some (.iconst 0, []) := by decide +kernel
theorem zi_71_3 : zI 71 3 = some (.istore_n 2, []) := by decide +kernel
theorem zi_71_4 : zI 71 4 = some (.iload_n 2, []) := by decide +kernel
theorem zi_71_5 : zI 71 5 = some (.aload_n 0, []) := by decide +kernel
theorem zi_71_6 : zI 71 6 = some (.getfield 41, [3, 8, 335]) := by decide +kernel
theorem zi_71_9 : zI 71 9 = some (.if_icmp .ge 23, [32]) := by decide +kernel
theorem zi_71_12 : zI 71 12 = some (.aload_n 0, []) := by decide +kernel
theorem zi_71_13 : zI 71 13 = some (.getfield 32, [3, 5, 334]) := by decide +kernel
theorem zi_71_16 : zI 71 16 = some (.iload_n 2, []) := by decide +kernel
theorem zi_71_17 : zI 71 17 = some (.invokevirtual 55, [0, 0, 1, 1, 17, 18, 19, 16, 0, 147]) := by decide +kernel
theorem zi_71_20 : zI 71 20 = some (.ifCond .le 6, [26]) := by decide +kernel
theorem zi_71_23 : zI 71 23 = some (.iinc 1 1, []) := by decide +kernel
theorem zi_71_26 : zI 71 26 = some (.iinc 2 1, []) := by decide +kernel
theorem zi_71_29 : zI 71 29 = some (.goto (-25), [4]) := by decide +kernel
theorem zi_71_32 : zI 71 32 = some (.iload_n 1, []) := by decide +kernel
theorem zi_71_33 : zI 71 33 = some (.ireturn, []) := by decide +kernel
theorem zi_72_0 : zI 72 0 = some (.iconst 0, []) := by decide +kernel
theorem zi_72_1 : zI 72 1 = some (.istore_n 1, []) := by decide +kernel
theorem zi_72_2 : zI 72 2 = some (.iconst 0, []) := by decide +kernel
theorem zi_72_3 : zI 72 3 = some (.istore_n 2, []) := by decide +kernel
theorem zi_72_4 : zI 72 4 = some (.iload_n 2, []) := by decide +kernel
theorem zi_72_5 : zI 72 5 = some (.aload_n 0, []) := by decide +kernel
theorem zi_72_6 : zI 72 6 = some (.getfield 41, [3, 8, 335]) := by decide +kernel
theorem zi_72_9 : zI 72 9 = some (.if_icmp .ge 20, [29]) := by decide +kernel
theorem zi_72_12 : zI 72 12 = some (.iload_n 1, []) := by decide +kernel
theorem zi_72_13 : zI 72 13 = some (.aload_n 0, []) := by decide +kernel
theorem zi_72_14 : zI 72 14 = some (.getfield 29, [3, 4, 333]) := by decide +kernel
theorem zi_72_17 : zI 72 17 = some (.iload_n 2, []) := by decide +kernel
theorem zi_72_18 : zI 72 18 = some (.invokevirtual 55, [0, 0, 1, 1, 17, 18, 19, 16, 0, 147]) := by decide +kernel
theorem zi_72_21 : zI 72 21 = some (.iadd, []) := by decide +kernel
theorem zi_72_22 : zI 72 22 = some (.istore_n 1, []) := by decide +kernel
theorem zi_72_23 : zI 72 23 = some (.iinc 2 1, []) := by decide +kernel
theorem zi_72_26 : zI 72 26 = some (.goto (-22), [4]) := by decide +kernel
theorem zi_72_29 : zI 72 29 = some (.iload_n 1, []) := by decide +kernel
theorem zi_72_30 : zI 72 30 = some (.ireturn, []) := by decide +kernel
theorem zi_73_0 : zI 73 0 = some (.iconst (-1), []) := by decide +kernel
theorem zi_73_1 : zI 73 1 = some (.istore_n 1, []) := by decide +kernel
theorem zi_73_2 : zI 73 2 = some (.iconst 0, []) := by decide +kernel
theorem zi_73_3 : zI 73 3 = some (.istore_n 2, []) := by decide +kernel
theorem zi_73_4 : zI 73 4 = some (.iconst 0, []) := by decide +kernel
theorem zi_73_5 : zI 73 5 = some (.istore_n 3, []) := by decide +kernel
theorem zi_73_6 : zI 73 6 = some (.iload_n 3, []) := by decide +kernel
theorem zi_73_7 : zI 73 7 = some (.aload_n 0, []) := by decide +kernel
theorem zi_73_8 : zI 73 8 = some (.getfield 41, [3, 8, 335]) := by decide +kernel
theorem zi_73_11 : zI 73 11 = some (.if_icmp .ge 26, [37]) := by decide +kernel
theorem zi_73_14 : zI 73 14 = some (.aload_n 0, []) := by decide +kernel
theorem zi_73_15 : zI 73 15 = some (.iload_n 3, []) := by decide +kernel
theorem zi_73_16 : zI 73 16 = some (.invokevirtual 90, [26, 0, 1, 3, 56, 57, 53, 55, 0, 363]) := by decide +kernel
theorem zi_73_19 : zI 73 19 = some (.iload_n 2, []) := by decide +kernel
theorem zi_73_20 : zI 73 20 = some (.if_icmp .le 11, [31]) := by decide +kernel
theorem zi_73_23 : zI 73 23 = some (.aload_n 0, []) := by decide +kernel
theorem zi_73_24 : zI 73 24 = some (.iload_n 3, []) := by decide +kernel
theorem zi_73_25 : zI 73 25 = some (.invokevirtual 90, [26, 0, 1, 3, 56, 57, 53, 55, 0, 363]) := by decide +kernel
theorem zi_73_28 : zI 73 28 = some (.istore_n 2, []) := by decide +kernel
theorem zi_73_29 : zI 73 29 = some (.iload_n 3, []) := by decide +kernel
theorem zi_73_30 : zI 73 30 = some (.istore_n 1, []) := by decide +kernel
theorem zi_73_31 : zI 73 31 = some (.iinc 3 1, []) := by decide +kernel
theorem zi_73_34 : zI 73 34 = some (.goto (-28), [6]) := by decide +kernel
theorem zi_73_37 : zI 73 37 = some (.iload_n 1, []) := by decide +kernel
theorem zi_73_38 : zI 73 38 = some (.ireturn, []) := by decide +kernel
/-! sessions: what is asked, and paths -/
section
variable {b : Nat} {F : Nat → Nat → Int32} {g : Nat → Nat} {h : zH}
theorem l_lineIn (hb : b + 71 ≤ h.length) {S : Nat} {gap : Int32} {n : Nat} {C : Nat → Nat → Nat} {Z : Nat → Nat} (q : zses F S gap n C Z) (hn : n ≤ 70) (s k : Nat) (hs : s < S) (hk : k < Z s) (i : Nat) (hi : i ≤ k) : zruns zTB 69 12 [some (.ref (b + 26)), some (.int (nI s)), some (.int (nI k)), some (.int (nI (C s i))), some (.int (nI i))] [] (nput b F g h) (some (.int (nI (C s k))), nput b F g h) := by
  have hz := (q.sz s hs).2.1
  refine zr_iload (pc' := 14) zi_69_12 rfl rfl ?_
  refine zr_iload_n (pc' := 15) zi_69_14 rfl rfl ?_
  refine zr_icmp (pc' := 18) zi_69_15 rfl (fun h15 => ?_) (fun h15 => ?_)
  · replace h15 := zc_ge_t (by omega) (by omega) h15
    refine zr_iload_n (pc' := 34) zi_69_33 rfl rfl ?_
    rw [show k = i by omega]
    exact zr_ireturn zi_69_34 rfl
  · replace h15 := zc_ge_f (by omega) (by omega) h15
    have hc := (q.el s hs i (by omega)).1
    have hx := (q.ch s hs i (by omega)).2.1
    refine zr_aload_n (pc' := 19) zi_69_18 rfl rfl ?_
    refine zr_get (pc' := 22) zi_69_19 (nput_at hb (k := 26) rfl) rfl rfl ?_
    refine zr_iload_n (pc' := 23) zi_69_22 rfl rfl ?_
    refine zr_atN (pc' := 26) (by omega) zi_69_23 hb rfl rfl (by decide) rfl rfl ?_
    rw [hx]
    refine zr_istore_n (pc' := 27) zi_69_26 (Nat.le_of_ble_eq_true rfl) rfl rfl ?_
    dsimp only [zst1, zst2, zkill, List.set, List.getElem?_cons_succ, List.getElem?_cons_zero]
    refine zr_iinc (pc' := 30) zi_69_27 rfl (by first | exact n_inc _ | rfl) rfl rfl ?_
    dsimp only [zst1, zst2, zkill, List.set, List.getElem?_cons_succ, List.getElem?_cons_zero]
    refine zr_goto zi_69_30 ?_
    exact l_lineIn hb q hn s k hs hk (i + 1) (by omega)
termination_by k - i
theorem c_lineIn (hb : b + 71 ≤ h.length) {S : Nat} {gap : Int32} {n : Nat} {C : Nat → Nat → Nat} {Z : Nat → Nat} (q : zses F S gap n C Z) (hn : n ≤ 70) (s k : Nat) (hs : s < S) (hk : k < Z s) : zcalls zTB 69 [.ref (b + 26), .int (nI s), .int (nI k)] (nput b F g h) (some (.int (nI (C s k))), nput b F g h) := by
  have hz := q.le
  refine zcalls_of (Nat.le_of_ble_eq_true rfl) ?_
  show zruns zTB 69 0 [some (.ref (b + 26)), some (.int (nI s)), some (.int (nI k)), none, none] [] _ _
  refine zr_aload_n (pc' := 1) zi_69_0 rfl rfl ?_
  refine zr_get (pc' := 4) zi_69_1 (nput_at hb (k := 26) rfl) rfl rfl ?_
  refine zr_iload_n (pc' := 5) zi_69_4 rfl rfl ?_
  refine zr_atN (pc' := 8) (by omega) zi_69_5 hb rfl rfl (by decide) rfl rfl ?_
  rw [(q.sz s hs).2.2.1]
  refine zr_istore_n (pc' := 9) zi_69_8 (Nat.le_of_ble_eq_true rfl) rfl rfl ?_
  dsimp only [zst1, zst2, zkill, List.set, List.getElem?_cons_succ, List.getElem?_cons_zero]
  refine zr_iconst (v := (nI 0)) (pc' := 10) zi_69_9 rfl rfl ?_
  refine zr_istore (pc' := 12) zi_69_10 (Nat.le_of_ble_eq_true rfl) rfl rfl ?_
  dsimp only [zst1, zst2, zkill, List.set, List.getElem?_cons_succ, List.getElem?_cons_zero]
  exact l_lineIn hb q hn s k hs hk 0 (by omega)
def zbrk (F : Nat → Nat → Int32) (s : Nat) : Bool := decide (0 < F 16 s)
theorem l_howManyBroken (hb : b + 71 ≤ h.length) (hS : g 4 ≤ 70) (s : Nat) (hs : s ≤ g 4) : zruns zTB 71 4 [some (.ref (b + 26)), some (.int (nI (zcnt (zbrk F) s))), some (.int (nI s))] [] (nput b F g h) (some (.int (nI (zcnt (zbrk F) (g 4)))), nput b F g h) := by
  refine zr_iload_n (pc' := 5) zi_71_4 rfl rfl ?_
  refine zr_aload_n (pc' := 6) zi_71_5 rfl rfl ?_
  refine zr_get (pc' := 9) zi_71_6 (nput_at hb (k := 26) rfl) rfl rfl ?_
  refine zr_icmp (pc' := 12) zi_71_9 rfl (fun h9 => ?_) (fun h9 => ?_)
  · replace h9 := zc_ge_t (by omega) (by omega) h9
    refine zr_iload_n (pc' := 33) zi_71_32 rfl rfl ?_
    rw [show g 4 = s by omega]
    exact zr_ireturn zi_71_33 rfl
  · replace h9 := zc_ge_f (by omega) (by omega) h9
    refine zr_aload_n (pc' := 13) zi_71_12 rfl rfl ?_
    refine zr_get (pc' := 16) zi_71_13 (nput_at hb (k := 26) rfl) rfl rfl ?_
    refine zr_iload_n (pc' := 17) zi_71_16 rfl rfl ?_
    refine zr_atN (pc' := 20) (by omega) zi_71_17 hb rfl rfl (by decide) rfl rfl ?_
    refine zr_if (pc' := 23) zi_71_20 rfl (fun h20 => ?_) (fun h20 => ?_)
    · replace h20 := zx_le_t h20
      refine zr_iinc (pc' := 29) zi_71_26 rfl (by first | exact n_inc _ | rfl) rfl rfl ?_
      dsimp only [zst1, zst2, zkill, List.set, List.getElem?_cons_succ, List.getElem?_cons_zero]
      refine zr_goto zi_71_29 ?_
      have ih := l_howManyBroken hb hS (s + 1) (by omega)
      rw [zcnt_f (by simp only [zbrk, decide_eq_false_iff_not]; exact Int32.not_lt.mpr h20)] at ih
      exact ih
    · replace h20 := zx_le_f h20
      refine zr_iinc (pc' := 26) zi_71_23 rfl (by first | exact n_inc _ | rfl) rfl rfl ?_
      dsimp only [zst1, zst2, zkill, List.set, List.getElem?_cons_succ, List.getElem?_cons_zero]
      refine zr_iinc (pc' := 29) zi_71_26 rfl (by first | exact n_inc _ | rfl) rfl rfl ?_
      dsimp only [zst1, zst2, zkill, List.set, List.getElem?_cons_succ, List.getElem?_cons_zero]
      refine zr_goto zi_71_29 ?_
      have ih := l_howManyBroken hb hS (s + 1) (by omega)
      rw [zcnt_t (by simp only [zbrk, decide_eq_true_eq]; exact Int32.not_le.mp h20)] at ih
      exact ih
termination_by g 4 - s
theorem c_howManyBroken (hb : b + 71 ≤ h.length) (hS : g 4 ≤ 70) : zcalls zTB 71 [.ref (b + 26)] (nput b F g h) (some (.int (nI (zcnt (zbrk F) (g 4)))), nput b F g h) := by
  refine zcalls_of (Nat.le_of_ble_eq_true rfl) ?_
  show zruns zTB 71 0 [some (.ref (b + 26)), none, none] [] _ _
  refine zr_iconst (v := (nI 0)) (pc' := 1) zi_71_0 rfl rfl ?_
  refine zr_istore_n (pc' := 2) zi_71_1 (Nat.le_of_ble_eq_true rfl) rfl rfl ?_
  dsimp only [zst1, zst2, zkill, List.set, List.getElem?_cons_succ, List.getElem?_cons_zero]
  refine zr_iconst (v := (nI 0)) (pc' := 3) zi_71_2 rfl rfl ?_
  refine zr_istore_n (pc' := 4) zi_71_3 (Nat.le_of_ble_eq_true rfl) rfl rfl ?_
  dsimp only [zst1, zst2, zkill, List.set, List.getElem?_cons_succ, List.getElem?_cons_zero]
  exact l_howManyBroken hb hS 0 (Nat.zero_le _)
theorem l_howManyLines (hb : b + 71 ≤ h.length) (hS : g 4 ≤ 70) (Z : Nat → Nat) (hz : ∀ s, s < g 4 → F 15 s = nI (Z s)) (s : Nat) (hs : s ≤ g 4) : zruns zTB 72 4 [some (.ref (b + 26)), some (.int (nI (zsum Z s))), some (.int (nI s))] [] (nput b F g h) (some (.int (nI (zsum Z (g 4)))), nput b F g h) := by
  refine zr_iload_n (pc' := 5) zi_72_4 rfl rfl ?_
  refine zr_aload_n (pc' := 6) zi_72_5 rfl rfl ?_
  refine zr_get (pc' := 9) zi_72_6 (nput_at hb (k := 26) rfl) rfl rfl ?_
  refine zr_icmp (pc' := 12) zi_72_9 rfl (fun h9 => ?_) (fun h9 => ?_)
  · replace h9 := zc_ge_t (by omega) (by omega) h9
    refine zr_iload_n (pc' := 30) zi_72_29 rfl rfl ?_
    rw [show g 4 = s by omega]
    exact zr_ireturn zi_72_30 rfl
  · replace h9 := zc_ge_f (by omega) (by omega) h9
    refine zr_iload_n (pc' := 13) zi_72_12 rfl rfl ?_
    refine zr_aload_n (pc' := 14) zi_72_13 rfl rfl ?_
    refine zr_get (pc' := 17) zi_72_14 (nput_at hb (k := 26) rfl) rfl rfl ?_
    refine zr_iload_n (pc' := 18) zi_72_17 rfl rfl ?_
    refine zr_atN (pc' := 21) (by omega) zi_72_18 hb rfl rfl (by decide) rfl rfl ?_
    rw [hz s (by omega)]
    refine zr_iadd (pc' := 22) zi_72_21 (by first | exact nI_add _ _ | rfl) rfl ?_
    refine zr_istore_n (pc' := 23) zi_72_22 (Nat.le_of_ble_eq_true rfl) rfl rfl ?_
    dsimp only [zst1, zst2, zkill, List.set, List.getElem?_cons_succ, List.getElem?_cons_zero]
    refine zr_iinc (pc' := 26) zi_72_23 rfl (by first | exact n_inc _ | rfl) rfl rfl ?_
    dsimp only [zst1, zst2, zkill, List.set, List.getElem?_cons_succ, List.getElem?_cons_zero]
    refine zr_goto zi_72_26 ?_
    exact l_howManyLines hb hS Z hz (s + 1) (by omega)
termination_by g 4 - s
theorem c_howManyLines (hb : b + 71 ≤ h.length) (hS : g 4 ≤ 70) (Z : Nat → Nat) (hz : ∀ s, s < g 4 → F 15 s = nI (Z s)) : zcalls zTB 72 [.ref (b + 26)] (nput b F g h) (some (.int (nI (zsum Z (g 4)))), nput b F g h) := by
  refine zcalls_of (Nat.le_of_ble_eq_true rfl) ?_
  show zruns zTB 72 0 [some (.ref (b + 26)), none, none] [] _ _
  refine zr_iconst (v := (nI 0)) (pc' := 1) zi_72_0 rfl rfl ?_
  refine zr_istore_n (pc' := 2) zi_72_1 (Nat.le_of_ble_eq_true rfl) rfl rfl ?_
  dsimp only [zst1, zst2, zkill, List.set, List.getElem?_cons_succ, List.getElem?_cons_zero]
  refine zr_iconst (v := (nI 0)) (pc' := 3) zi_72_2 rfl rfl ?_
  refine zr_istore_n (pc' := 4) zi_72_3 (Nat.le_of_ble_eq_true rfl) rfl rfl ?_
  dsimp only [zst1, zst2, zkill, List.set, List.getElem?_cons_succ, List.getElem?_cons_zero]
  exact l_howManyLines hb hS Z hz 0 (Nat.zero_le _)
/-- paths and how many have them -/
def zpth (F : Nat → Nat → Int32) (s : Nat) : Prop := (∀ e, e < s → ∃ p, p ≤ e ∧ F 17 e = nI p) ∧ ∀ p, p < 70 → F 18 p = nI (zcnt (fun e => decide (F 17 e = nI p)) s)
def zU (F : Nat → Nat → Int32) (S s : Nat) : Nat := zcnt (fun e => decide (F 17 e = F 17 s)) S
theorem zU_pos {S s : Nat} (hs : s < S) : 0 < zU F S s := by
  have h1 : zcnt (fun e => decide (F 17 e = F 17 s)) (s + 1) = zcnt (fun e => decide (F 17 e = F 17 s)) s + 1 := zcnt_t (by simp)
  have h2 := zcnt_mono (p := fun e => decide (F 17 e = F 17 s)) (m := s + 1) (n := S) (by omega)
  unfold zU
  omega
theorem zU_le (S s : Nat) : zU F S s ≤ S := zcnt_le _ _
theorem c_howManyAlike (hb : b + 71 ≤ h.length) (S : Nat) (hS : S ≤ 70) (q : zpth F S) (s : Nat) (hs : s < S) : zcalls zTB 26 [.ref (b + 26), .int (nI s)] (nput b F g h) (some (.int (nI (zU F S s))), nput b F g h) := by
  obtain ⟨p, hp, e⟩ := q.1 s hs
  have e2 := q.2 p (by omega)
  rw [← e] at e2
  refine zcalls_of (Nat.le_of_ble_eq_true rfl) ?_
  show zruns zTB 26 0 [some (.ref (b + 26)), some (.int (nI s))] [] _ _
  refine zr_aload_n (pc' := 1) zi_26_0 rfl rfl ?_
  refine zr_get (pc' := 4) zi_26_1 (nput_at hb (k := 26) rfl) rfl rfl ?_
  refine zr_aload_n (pc' := 5) zi_26_4 rfl rfl ?_
  refine zr_get (pc' := 8) zi_26_5 (nput_at hb (k := 26) rfl) rfl rfl ?_
  refine zr_iload_n (pc' := 9) zi_26_8 rfl rfl ?_
  refine zr_atN (pc' := 12) (by omega) zi_26_9 hb rfl rfl (by decide) rfl rfl ?_
  rw [e]
  refine zr_atN (pc' := 15) (by omega) zi_26_12 hb rfl rfl (by decide) rfl rfl ?_
  rw [e2]
  exact zr_ireturn zi_26_15 rfl
theorem l_mostAlike (hb : b + 71 ≤ h.length) (hS : g 4 ≤ 70) (U : Nat → Nat) (hu : ∀ s, s < g 4 → (0 < U s ∧ U s ≤ 70) ∧ zcalls zTB 26 [.ref (b + 26), .int (nI s)] (nput b F g h) (some (.int (nI (U s))), nput b F g h)) (s M : Nat) (B : Int32) (hs : s ≤ g 4) (hM : ∀ e, e < s → U e ≤ M) (hM2 : M ≤ 70) (hB : (s = 0 ∧ M = 0 ∧ B = -1) ∨ ∃ e, e < s ∧ B = nI e ∧ U e = M) : zev 73 6 [some (.ref (b + 26)), some (.int B), some (.int (nI M)), some (.int (nI s))] [] (nput b F g h) (zQi (nput b F g h) fun r => (g 4 = 0 ∧ r = -1) ∨ ∃ e, e < g 4 ∧ r = nI e ∧ ∀ x, x < g 4 → U x ≤ U e) := by
  refine zev_of (fun _ kk => zr_iload_n (pc' := 7) zi_73_6 rfl rfl kk) ?_
  refine zev_of (fun _ kk => zr_aload_n (pc' := 8) zi_73_7 rfl rfl kk) ?_
  refine zev_of (fun _ kk => zr_get (pc' := 11) zi_73_8 (nput_at hb (k := 26) rfl) rfl rfl kk) ?_
  refine zv_icmp (pc' := 14) zi_73_11 rfl (fun h11 => ?_) (fun h11 => ?_)
  · replace h11 := zc_ge_t (by omega) (by omega) h11
    refine zev_of (fun _ kk => zr_iload_n (pc' := 38) zi_73_37 rfl rfl kk) ?_
    refine zev_ret (zr_ireturn zi_73_38 rfl) ?_
    have e : s = g 4 := by omega
    subst e
    refine ⟨_, ?_, rfl⟩
    rcases hB with ⟨h1, h2, h3⟩ | ⟨e, h1, h2, h3⟩
    · exact .inl ⟨h1, h3⟩
    · exact .inr ⟨e, h1, h2, fun x hx => h3 ▸ hM x hx⟩
  · replace h11 := zc_ge_f (by omega) (by omega) h11
    refine zev_of (fun _ kk => zr_aload_n (pc' := 15) zi_73_14 rfl rfl kk) ?_
    refine zev_of (fun _ kk => zr_iload_n (pc' := 16) zi_73_15 rfl rfl kk) ?_
    obtain ⟨⟨hu0, hu7⟩, hcu⟩ := hu s (by omega)
    refine zev_of (fun _ kk => zr_v1 (pc' := 19) zi_73_16 (nput_at hb (k := 26) rfl) rfl hcu rfl kk) ?_
    refine zev_of (fun _ kk => zr_iload_n (pc' := 20) zi_73_19 rfl rfl kk) ?_
    refine zv_icmp (pc' := 23) zi_73_20 rfl (fun h20 => ?_) (fun h20 => ?_)
    · replace h20 := zc_le_t (by omega) (by omega) h20
      refine zev_of (fun _ kk => zr_iinc (pc' := 34) zi_73_31 rfl (by first | exact n_inc _ | rfl) rfl rfl kk) ?_
      dsimp only [zst1, zst2, zkill, List.set, List.getElem?_cons_succ, List.getElem?_cons_zero]
      refine zev_of (fun _ kk => zr_goto zi_73_34 kk) ?_
      refine l_mostAlike hb hS U hu (s + 1) M B (by omega) (fun e he => ?_) hM2 ?_
      · rcases Nat.lt_or_ge e s with w | w
        · exact hM e w
        · rw [show e = s by omega]
          exact h20
      · rcases hB with ⟨h1, h2, h3⟩ | ⟨e, h1, h2, h3⟩
        · omega
        · exact .inr ⟨e, by omega, h2, h3⟩
    · replace h20 := zc_le_f (by omega) (by omega) h20
      refine zev_of (fun _ kk => zr_aload_n (pc' := 24) zi_73_23 rfl rfl kk) ?_
      refine zev_of (fun _ kk => zr_iload_n (pc' := 25) zi_73_24 rfl rfl kk) ?_
      refine zev_of (fun _ kk => zr_v1 (pc' := 28) zi_73_25 (nput_at hb (k := 26) rfl) rfl hcu rfl kk) ?_
      refine zev_of (fun _ kk => zr_istore_n (pc' := 29) zi_73_28 (Nat.le_of_ble_eq_true rfl) rfl rfl kk) ?_
      dsimp only [zst1, zst2, zkill, List.set, List.getElem?_cons_succ, List.getElem?_cons_zero]
      refine zev_of (fun _ kk => zr_iload_n (pc' := 30) zi_73_29 rfl rfl kk) ?_
      refine zev_of (fun _ kk => zr_istore_n (pc' := 31) zi_73_30 (Nat.le_of_ble_eq_true rfl) rfl rfl kk) ?_
      dsimp only [zst1, zst2, zkill, List.set, List.getElem?_cons_succ, List.getElem?_cons_zero]
      refine zev_of (fun _ kk => zr_iinc (pc' := 34) zi_73_31 rfl (by first | exact n_inc _ | rfl) rfl rfl kk) ?_
      dsimp only [zst1, zst2, zkill, List.set, List.getElem?_cons_succ, List.getElem?_cons_zero]
      refine zev_of (fun _ kk => zr_goto zi_73_34 kk) ?_
      refine l_mostAlike hb hS U hu (s + 1) (U s) (nI s) (by omega) (fun e he => ?_) hu7 (.inr ⟨s, by omega, rfl, rfl⟩)
      rcases Nat.lt_or_ge e s with w | w
      · have := hM e w
        omega
      · rw [show e = s by omega]
        exact Nat.le_refl _
termination_by g 4 - s
theorem c_mostAlike (hb : b + 71 ≤ h.length) (hS : g 4 ≤ 70) (U : Nat → Nat) (hu : ∀ s, s < g 4 → (0 < U s ∧ U s ≤ 70) ∧ zcalls zTB 26 [.ref (b + 26), .int (nI s)] (nput b F g h) (some (.int (nI (U s))), nput b F g h)) : ∃ r, ((g 4 = 0 ∧ r = -1) ∨ ∃ e, e < g 4 ∧ r = nI e ∧ ∀ x, x < g 4 → U x ≤ U e) ∧ zcalls zTB 73 [.ref (b + 26)] (nput b F g h) (some (.int r), nput b F g h) := by
  refine zQi_out (zev_calls (Nat.le_of_ble_eq_true rfl) ?_)
  show zev 73 0 [some (.ref (b + 26)), none, none, none] [] _ _
  refine zev_of (fun _ kk => zr_iconst (v := (-1)) (pc' := 1) zi_73_0 rfl rfl kk) ?_
  refine zev_of (fun _ kk => zr_istore_n (pc' := 2) zi_73_1 (Nat.le_of_ble_eq_true rfl) rfl rfl kk) ?_
  dsimp only [zst1, zst2, zkill, List.set, List.getElem?_cons_succ, List.getElem?_cons_zero]
  refine zev_of (fun _ kk => zr_iconst (v := (nI 0)) (pc' := 3) zi_73_2 rfl rfl kk) ?_
  refine zev_of (fun _ kk => zr_istore_n (pc' := 4) zi_73_3 (Nat.le_of_ble_eq_true rfl) rfl rfl kk) ?_
  dsimp only [zst1, zst2, zkill, List.set, List.getElem?_cons_succ, List.getElem?_cons_zero]
  refine zev_of (fun _ kk => zr_iconst (v := (nI 0)) (pc' := 5) zi_73_4 rfl rfl kk) ?_
  refine zev_of (fun _ kk => zr_istore_n (pc' := 6) zi_73_5 (Nat.le_of_ble_eq_true rfl) rfl rfl kk) ?_
  dsimp only [zst1, zst2, zkill, List.set, List.getElem?_cons_succ, List.getElem?_cons_zero]
  exact l_mostAlike hb hS U hu 0 0 (-1) (Nat.zero_le _) (fun e he => absurd he (Nat.not_lt_zero _)) (by omega) (.inl ⟨rfl, rfl, rfl⟩)
theorem l_isSamePath (hb : b + 71 ≤ h.length) (s z : Nat) (hs : s < 70) (hz : F 15 s = nI z) (hz7 : z ≤ 70) (x y T : Int32) (i : Nat) (hi : i ≤ z) : zev 68 44 [some (.ref (b + 26)), some (.ref (b + 1)), some (.int (nI s)), some (.int T), some (.int x), some (.int y), some (.int (nI i))] [] (nput b F g h) (zQi (nput b F g h) fun r => r = 0 ∨ r = 1) := by
  refine zev_of (fun _ kk => zr_iload (pc' := 46) zi_68_44 rfl rfl kk) ?_
  refine zev_of (fun _ kk => zr_aload_n (pc' := 47) zi_68_46 rfl rfl kk) ?_
  refine zev_of (fun _ kk => zr_get (pc' := 50) zi_68_47 (nput_at hb (k := 26) rfl) rfl rfl kk) ?_
  refine zev_of (fun _ kk => zr_iload_n (pc' := 51) zi_68_50 rfl rfl kk) ?_
  refine zev_of (fun _ kk => zr_atN (pc' := 54) (by omega) zi_68_51 hb rfl rfl (by decide) rfl rfl kk) ?_
  rw [hz]
  refine zv_icmp (pc' := 57) zi_68_54 rfl (fun h54 => ?_) (fun h54 => ?_)
  · replace h54 := zc_ge_t (by omega) (by omega) h54
    refine zev_of (fun _ kk => zr_iconst (v := (nI 1)) (pc' := 109) zi_68_108 rfl rfl kk) ?_
    refine zev_ret (zr_zreturn zi_68_109 rfl (by decide)) ?_
    exact ⟨_, .inr rfl, rfl⟩
  · replace h54 := zc_ge_f (by omega) (by omega) h54
    refine zev_of (fun _ kk => zr_aload_n (pc' := 58) zi_68_57 rfl rfl kk) ?_
    refine zev_of (fun _ kk => zr_get (pc' := 61) zi_68_58 (nput_at hb (k := 1) rfl) rfl rfl kk) ?_
    refine zev_of (fun _ kk => zr_iload (pc' := 63) zi_68_61 rfl rfl kk) ?_
    refine zev_of (fun _ kk => zr_at (pc' := 66) zi_68_63 hb rfl rfl (by decide) rfl rfl kk) ?_
    refine zev_of (fun _ kk => zr_aload_n (pc' := 67) zi_68_66 rfl rfl kk) ?_
    refine zev_of (fun _ kk => zr_get (pc' := 70) zi_68_67 (nput_at hb (k := 1) rfl) rfl rfl kk) ?_
    refine zev_of (fun _ kk => zr_iload (pc' := 72) zi_68_70 rfl rfl kk) ?_
    refine zev_of (fun _ kk => zr_at (pc' := 75) zi_68_72 hb rfl rfl (by decide) rfl rfl kk) ?_
    refine zv_icmp (pc' := 78) zi_68_75 rfl (fun h75 => ?_) (fun h75 => ?_)
    · replace h75 := zc_eq_t h75
      refine zev_of (fun _ kk => zr_aload_n (pc' := 81) zi_68_80 rfl rfl kk) ?_
      refine zev_of (fun _ kk => zr_get (pc' := 84) zi_68_81 (nput_at hb (k := 26) rfl) rfl rfl kk) ?_
      refine zev_of (fun _ kk => zr_iload (pc' := 86) zi_68_84 rfl rfl kk) ?_
      refine zev_of (fun _ kk => zr_at (pc' := 89) zi_68_86 hb rfl rfl (by decide) rfl rfl kk) ?_
      refine zev_of (fun _ kk => zr_istore (pc' := 91) zi_68_89 (Nat.le_of_ble_eq_true rfl) rfl rfl kk) ?_
      dsimp only [zst1, zst2, zkill, List.set, List.getElem?_cons_succ, List.getElem?_cons_zero]
      refine zev_of (fun _ kk => zr_aload_n (pc' := 92) zi_68_91 rfl rfl kk) ?_
      refine zev_of (fun _ kk => zr_get (pc' := 95) zi_68_92 (nput_at hb (k := 26) rfl) rfl rfl kk) ?_
      refine zev_of (fun _ kk => zr_iload (pc' := 97) zi_68_95 rfl rfl kk) ?_
      refine zev_of (fun _ kk => zr_at (pc' := 100) zi_68_97 hb rfl rfl (by decide) rfl rfl kk) ?_
      refine zev_of (fun _ kk => zr_istore (pc' := 102) zi_68_100 (Nat.le_of_ble_eq_true rfl) rfl rfl kk) ?_
      dsimp only [zst1, zst2, zkill, List.set, List.getElem?_cons_succ, List.getElem?_cons_zero]
      refine zev_of (fun _ kk => zr_iinc (pc' := 105) zi_68_102 rfl (by first | exact n_inc _ | rfl) rfl rfl kk) ?_
      dsimp only [zst1, zst2, zkill, List.set, List.getElem?_cons_succ, List.getElem?_cons_zero]
      refine zev_of (fun _ kk => zr_goto zi_68_105 kk) ?_
      exact l_isSamePath hb s z hs hz hz7 _ _ T (i + 1) (by omega)
    · replace h75 := zc_eq_f h75
      refine zev_of (fun _ kk => zr_iconst (v := (nI 0)) (pc' := 79) zi_68_78 rfl rfl kk) ?_
      refine zev_ret (zr_zreturn zi_68_79 rfl (by decide)) ?_
      exact ⟨_, .inl rfl, rfl⟩
termination_by z - i
theorem c_isSamePath (hb : b + 71 ≤ h.length) (s t z : Nat) (hs : s < 70) (ht : t < 70) (hz : F 15 s = nI z) (hz7 : z ≤ 70) : ∃ r, (r = 0 ∨ r = 1) ∧ zcalls zTB 68 [.ref (b + 26), .ref (b + 1), .int (nI s), .int (nI t)] (nput b F g h) (some (.int r), nput b F g h) := by
  refine zQi_out (zev_calls (Nat.le_of_ble_eq_true rfl) ?_)
  show zev 68 0 [some (.ref (b + 26)), some (.ref (b + 1)), some (.int (nI s)), some (.int (nI t)), none, none, none] [] _ _
  refine zev_of (fun _ kk => zr_aload_n (pc' := 1) zi_68_0 rfl rfl kk) ?_
  refine zev_of (fun _ kk => zr_get (pc' := 4) zi_68_1 (nput_at hb (k := 26) rfl) rfl rfl kk) ?_
  refine zev_of (fun _ kk => zr_iload_n (pc' := 5) zi_68_4 rfl rfl kk) ?_
  refine zev_of (fun _ kk => zr_atN (pc' := 8) (by omega) zi_68_5 hb rfl rfl (by decide) rfl rfl kk) ?_
  refine zev_of (fun _ kk => zr_aload_n (pc' := 9) zi_68_8 rfl rfl kk) ?_
  refine zev_of (fun _ kk => zr_get (pc' := 12) zi_68_9 (nput_at hb (k := 26) rfl) rfl rfl kk) ?_
  refine zev_of (fun _ kk => zr_iload_n (pc' := 13) zi_68_12 rfl rfl kk) ?_
  refine zev_of (fun _ kk => zr_atN (pc' := 16) (by omega) zi_68_13 hb rfl rfl (by decide) rfl rfl kk) ?_
  refine zv_icmp (pc' := 19) zi_68_16 rfl (fun h16 => ?_) (fun h16 => ?_)
  · replace h16 := zc_eq_t h16
    refine zev_of (fun _ kk => zr_aload_n (pc' := 22) zi_68_21 rfl rfl kk) ?_
    refine zev_of (fun _ kk => zr_get (pc' := 25) zi_68_22 (nput_at hb (k := 26) rfl) rfl rfl kk) ?_
    refine zev_of (fun _ kk => zr_iload_n (pc' := 26) zi_68_25 rfl rfl kk) ?_
    refine zev_of (fun _ kk => zr_atN (pc' := 29) (by omega) zi_68_26 hb rfl rfl (by decide) rfl rfl kk) ?_
    refine zev_of (fun _ kk => zr_istore (pc' := 31) zi_68_29 (Nat.le_of_ble_eq_true rfl) rfl rfl kk) ?_
    dsimp only [zst1, zst2, zkill, List.set, List.getElem?_cons_succ, List.getElem?_cons_zero]
    refine zev_of (fun _ kk => zr_aload_n (pc' := 32) zi_68_31 rfl rfl kk) ?_
    refine zev_of (fun _ kk => zr_get (pc' := 35) zi_68_32 (nput_at hb (k := 26) rfl) rfl rfl kk) ?_
    refine zev_of (fun _ kk => zr_iload_n (pc' := 36) zi_68_35 rfl rfl kk) ?_
    refine zev_of (fun _ kk => zr_atN (pc' := 39) (by omega) zi_68_36 hb rfl rfl (by decide) rfl rfl kk) ?_
    refine zev_of (fun _ kk => zr_istore (pc' := 41) zi_68_39 (Nat.le_of_ble_eq_true rfl) rfl rfl kk) ?_
    dsimp only [zst1, zst2, zkill, List.set, List.getElem?_cons_succ, List.getElem?_cons_zero]
    refine zev_of (fun _ kk => zr_iconst (v := (nI 0)) (pc' := 42) zi_68_41 rfl rfl kk) ?_
    refine zev_of (fun _ kk => zr_istore (pc' := 44) zi_68_42 (Nat.le_of_ble_eq_true rfl) rfl rfl kk) ?_
    dsimp only [zst1, zst2, zkill, List.set, List.getElem?_cons_succ, List.getElem?_cons_zero]
    exact l_isSamePath hb s z hs hz hz7 _ _ _ 0 (Nat.zero_le _)
  · replace h16 := zc_eq_f h16
    refine zev_of (fun _ kk => zr_iconst (v := (nI 0)) (pc' := 20) zi_68_19 rfl rfl kk) ?_
    refine zev_ret (zr_zreturn zi_68_20 rfl (by decide)) ?_
    exact ⟨_, .inl rfl, rfl⟩
end
section
variable {b : Nat} {h : zH}
/-- the rows of paths alone are changed -/
def zonP (F F' : Nat → Nat → Int32) : Prop := ∀ r, r ≠ 17 → r ≠ 18 → F' r = F r
theorem l_path (hb : b + 71 ≤ h.length) {Q : zR → Prop} {F : Nat → Nat → Int32} {g : Nat → Nat} (s : Nat) (hs : s < 70) (hz : ∀ e, e ≤ s → ∃ z, z ≤ 70 ∧ F 15 e = nI z) (k : ∀ p, p ≤ s → zev 67 40 [some (.ref (b + 26)), some (.ref (b + 1)), some (.int (nI s)), some (.int (nI p))] [] (nput b F g h) Q) (p : Nat) (hp : p ≤ s) : zev 67 19 [some (.ref (b + 26)), some (.ref (b + 1)), some (.int (nI s)), some (.int (nI p))] [] (nput b F g h) Q := by
  refine zev_of (fun _ kk => zr_iload_n (pc' := 20) zi_67_19 rfl rfl kk) ?_
  refine zev_of (fun _ kk => zr_iload_n (pc' := 21) zi_67_20 rfl rfl kk) ?_
  refine zv_icmp (pc' := 24) zi_67_21 rfl (fun h21 => ?_) (fun h21 => ?_)
  · replace h21 := zc_ge_t (by omega) (by omega) h21
    exact k p hp
  · replace h21 := zc_ge_f (by omega) (by omega) h21
    refine zev_of (fun _ kk => zr_aload_n (pc' := 25) zi_67_24 rfl rfl kk) ?_
    refine zev_of (fun _ kk => zr_aload_n (pc' := 26) zi_67_25 rfl rfl kk) ?_
    refine zev_of (fun _ kk => zr_iload_n (pc' := 27) zi_67_26 rfl rfl kk) ?_
    refine zev_of (fun _ kk => zr_iload_n (pc' := 28) zi_67_27 rfl rfl kk) ?_
    obtain ⟨z, hz7, hze⟩ := hz p hp
    obtain ⟨r, hr, hc⟩ := c_isSamePath hb (g := g) p s z (by omega) hs hze hz7
    refine zev_of (fun _ kk => zr_v3 (pc' := 31) zi_67_28 (nput_at hb (k := 26) rfl) rfl hc rfl kk) ?_
    refine zv_if (pc' := 34) zi_67_31 rfl (fun h31 => ?_) (fun h31 => ?_)
    · replace h31 := zc_ne_t h31
      exact k p hp
    · replace h31 := zc_ne_f h31
      refine zev_of (fun _ kk => zr_iinc (pc' := 37) zi_67_34 rfl (by first | exact n_inc _ | rfl) rfl rfl kk) ?_
      dsimp only [zst1, zst2, zkill, List.set, List.getElem?_cons_succ, List.getElem?_cons_zero]
      refine zev_of (fun _ kk => zr_goto zi_67_37 kk) ?_
      exact l_path hb s hs hz k (p + 1) (by omega)
termination_by s - p
theorem l_comparePaths (hb : b + 71 ≤ h.length) (F : Nat → Nat → Int32) (g : Nat → Nat) (hS : g 4 ≤ 70) (hz : ∀ s, s < g 4 → ∃ z, z ≤ 70 ∧ F 15 s = nI z) (s : Nat) (hs : s ≤ g 4) (q : zpth F s) (X : Option Value) : zev 67 9 [some (.ref (b + 26)), some (.ref (b + 1)), some (.int (nI s)), X] [] (nput b F g h) (zQn b h fun F' g' => (zonP F F' ∧ zpth F' (g 4)) ∧ g' = g) := by
  refine zev_of (fun _ kk => zr_iload_n (pc' := 10) zi_67_9 rfl rfl kk) ?_
  refine zev_of (fun _ kk => zr_aload_n (pc' := 11) zi_67_10 rfl rfl kk) ?_
  refine zev_of (fun _ kk => zr_get (pc' := 14) zi_67_11 (nput_at hb (k := 26) rfl) rfl rfl kk) ?_
  refine zv_icmp (pc' := 17) zi_67_14 rfl (fun h14 => ?_) (fun h14 => ?_)
  · replace h14 := zc_ge_t (by omega) (by omega) h14
    refine zev_ret (zr_return zi_67_63 rfl) ?_
    have e : s = g 4 := by omega
    exact ⟨_, _, ⟨⟨fun _ _ _ => rfl, e ▸ q⟩, rfl⟩, rfl⟩
  · replace h14 := zc_ge_f (by omega) (by omega) h14
    refine zev_of (fun _ kk => zr_iconst (v := (nI 0)) (pc' := 18) zi_67_17 rfl rfl kk) ?_
    refine zev_of (fun _ kk => zr_istore_n (pc' := 19) zi_67_18 (Nat.le_of_ble_eq_true rfl) rfl rfl kk) ?_
    dsimp only [zst1, zst2, zkill, List.set, List.getElem?_cons_succ, List.getElem?_cons_zero]
    refine l_path hb s (by omega) (fun e he => hz e (by omega)) (fun p hp => ?_) 0 (Nat.zero_le _)
    refine zev_of (fun _ kk => zr_aload_n (pc' := 41) zi_67_40 rfl rfl kk) ?_
    refine zev_of (fun _ kk => zr_get (pc' := 44) zi_67_41 (nput_at hb (k := 26) rfl) rfl rfl kk) ?_
    refine zev_of (fun _ kk => zr_iload_n (pc' := 45) zi_67_44 rfl rfl kk) ?_
    refine zev_of (fun _ kk => zr_iload_n (pc' := 46) zi_67_45 rfl rfl kk) ?_
    refine zev_of (fun _ kk => zr_rputN (pc' := 49) (rr := 17) (by omega) zi_67_46 hb rfl rfl (fun _ => rfl) (by decide) (by decide) rfl rfl kk) ?_
    refine zev_of (fun _ kk => zr_aload_n (pc' := 50) zi_67_49 rfl rfl kk) ?_
    refine zev_of (fun _ kk => zr_get (pc' := 53) zi_67_50 (nput_at hb (k := 26) rfl) rfl rfl kk) ?_
    refine zev_of (fun _ kk => zr_iload_n (pc' := 54) zi_67_53 rfl rfl kk) ?_
    refine zev_of (fun _ kk => zr_rinc (pc' := 57) (rr := 18) zi_67_54 hb rfl rfl (fun _ => rfl) (by decide) (by decide) rfl rfl kk) ?_
    refine zev_of (fun _ kk => zr_iinc (pc' := 60) zi_67_57 rfl (by first | exact n_inc _ | rfl) rfl rfl kk) ?_
    dsimp only [zst1, zst2, zkill, List.set, List.getElem?_cons_succ, List.getElem?_cons_zero]
    refine zev_of (fun _ kk => zr_goto zi_67_60 kk) ?_
    refine zev_mono (l_comparePaths hb _ g hS (by exact hz) (s + 1) (by omega) ?_ _) ?_
    · refine ⟨fun e he => ?_, fun e he => ?_⟩
      · rcases Nat.lt_or_ge e s with w | w
        · obtain ⟨p', h1, h2⟩ := q.1 e w
          exact ⟨p', h1, (pk_un (by omega)).trans h2⟩
        · refine ⟨p, by omega, ?_⟩
          rw [show e = s by omega]
          exact pk_us
      · show rput 70 (F 18) (nI p) (F 18 (nI p).toNatClampNeg + 1) e = nI (zcnt (fun k => decide (upd (F 17) s (nI p) k = nI e)) (s + 1))
        rw [rput_n (by omega) (by omega), nI_clamp (by omega)]
        have hx : zcnt (fun k => decide (upd (F 17) s (nI p) k = nI e)) s = zcnt (fun k => decide (F 17 k = nI e)) s := zcnt_ext fun j hj => by rw [pk_un (by omega)]
        by_cases w : e = p
        · subst w
          rw [pk_us, zcnt_t (by rw [pk_us]; simp), hx, q.2 e he, nI_1]
        · rw [pk_un w, zcnt_f (by rw [pk_us]; simp only [decide_eq_false_iff_not]; exact fun v => w ((nI_eq (by omega) (by omega)).mp v).symm), hx, q.2 e he]
    · rintro v ⟨F', g', ⟨⟨h1, h2⟩, h3⟩, rfl⟩
      exact ⟨F', g', ⟨⟨fun r h4 h5 => (h1 r h4 h5).trans ((updR_ne h5).trans (updR_ne h4)), h2⟩, h3⟩, rfl⟩
termination_by g 4 - s
theorem c_comparePaths (hb : b + 71 ≤ h.length) (F : Nat → Nat → Int32) (g : Nat → Nat) (hS : g 4 ≤ 70) (hz : ∀ s, s < g 4 → ∃ z, z ≤ 70 ∧ F 15 s = nI z) : ∃ F' g', ((zonP F F' ∧ zpth F' (g 4)) ∧ g' = g) ∧ zcalls zTB 67 [.ref (b + 26), .ref (b + 1)] (nput b F g h) (none, nput b F' g' h) := by
  refine zQn_out (zev_calls (Nat.le_of_ble_eq_true rfl) ?_)
  show zev 67 0 [some (.ref (b + 26)), some (.ref (b + 1)), none, none] [] _ _
  refine zev_of (fun _ kk => zr_aload_n (pc' := 1) zi_67_0 rfl rfl kk) ?_
  refine zev_of (fun _ kk => zr_get (pc' := 4) zi_67_1 (nput_at hb (k := 26) rfl) rfl rfl kk) ?_
  refine zv_rclear (pc' := 7) (rr := 18) zi_67_4 hb rfl rfl (fun _ => rfl) (by decide) (by decide) (by decide) rfl rfl (fun f18 hf18 => ?_)
  refine zev_of (fun _ kk => zr_iconst (v := (nI 0)) (pc' := 8) zi_67_7 rfl rfl kk) ?_
  refine zev_of (fun _ kk => zr_istore_n (pc' := 9) zi_67_8 (Nat.le_of_ble_eq_true rfl) rfl rfl kk) ?_
  dsimp only [zst1, zst2, zkill, List.set, List.getElem?_cons_succ, List.getElem?_cons_zero]
  refine zev_mono (l_comparePaths hb _ g hS (by exact hz) 0 (Nat.zero_le _) ⟨fun e he => absurd he (Nat.not_lt_zero _), fun p hp => hf18 p hp⟩ _) ?_
  rintro v ⟨F', g', ⟨⟨h1, h2⟩, h3⟩, rfl⟩
  exact ⟨F', g', ⟨⟨fun r h4 h5 => (h1 r h4 h5).trans (updR_ne h5), h2⟩, h3⟩, rfl⟩
end


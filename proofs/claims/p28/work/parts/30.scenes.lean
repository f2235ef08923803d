theorem zi_12_0 : zI 12 0 = some (.iload_n 0, []) := by decide +kernel
theorem zi_12_1 : zI 12 1 = some (.bipush 20, []) := by decide +kernel
theorem zi_12_3 : zI 12 3 = some (.imul, []) := by decide +kernel
theorem zi_12_4 : zI 12 4 = some (.iload_n 1, []) := by decide +kernel
theorem zi_12_5 : zI 12 5 = some (.iadd, []) := by decide +kernel
theorem zi_12_6 : zI 12 6 = some (.ireturn, []) := by decide +kernel
theorem zi_20_0 : zI 20 0 = some (.aload_n 0, []) := by decide +kernel
theorem zi_20_1 : zI 20 1 = some (.getfield 35, [2, 6, 121]) := by decide +kernel
theorem zi_20_4 : zI 20 4 = some (.iload_n 1, []) := by decide +kernel
theorem zi_20_5 : zI 20 5 = some (.iload_n 2, []) := by decide +kernel
theorem zi_20_6 : zI 20 6 = some (.invokestatic 74, [12, 1, 2, 0, 124, 0, 67, 123, 0, 122]) := by decide +kernel
theorem zi_20_9 : zI 20 9 = some (.invokevirtual 54, [0, 0, 1, 1, 17, 18, 19, 16, 0, 125]) := by decide +kernel
theorem zi_20_12 : zI 20 12 = some (.ireturn, []) := by decide +kernel
theorem zi_24_0 : zI 24 0 = some (.iload_n 0, []) := by decide +kernel
theorem zi_24_1 : zI 24 1 = some (.ifCond .ge 7, [8]) := by decide +kernel
theorem zi_24_4 : zI 24 4 = some (.iconst 0, []) := by decide +kernel
theorem zi_24_5 : zI 24 5 = some (.goto 6, [11]) := by decide +kernel
theorem zi_24_8 : zI 24 8 = some (.iconst 1, []) := by decide +kernel
theorem zi_24_9 : zI 24 9 = some (.iload_n 0, []) := by decide +kernel
theorem zi_24_10 : zI 24 10 = some (.ishl, []) := by decide +kernel
theorem zi_24_11 : zI 24 11 = some (.ireturn, []) := by decide +kernel
theorem zi_25_0 : zI 25 0 = some (.aload_n 0, []) := by decide +kernel
theorem zi_25_1 : zI 25 1 = some (.getfield 23, [2, 2, 144]) := by decide +kernel
theorem zi_25_4 : zI 25 4 = some (.iload_n 1, []) := by decide +kernel
theorem zi_25_5 : zI 25 5 = some (.iload_n 2, []) := by decide +kernel
theorem zi_25_6 : zI 25 6 = some (.invokestatic 74, [12, 1, 2, 0, 124, 0, 67, 123, 0, 122]) := by decide +kernel
theorem zi_25_9 : zI 25 9 = some (.invokevirtual 54, [0, 0, 1, 1, 17, 18, 19, 16, 0, 125]) := by decide +kernel
theorem zi_25_12 : zI 25 12 = some (.ireturn, []) := by decide +kernel
theorem zi_34_0 : zI 34 0 = some (.aload_n 0, []) := by decide +kernel
theorem zi_34_1 : zI 34 1 = some (.getfield 26, [2, 3, 197]) := by decide +kernel
theorem zi_34_4 : zI 34 4 = some (.iload_n 2, []) := by decide +kernel
theorem zi_34_5 : zI 34 5 = some (.invokevirtual 54, [0, 0, 1, 1, 17, 18, 19, 16, 0, 125]) := by decide +kernel
theorem zi_34_8 : zI 34 8 = some (.aload_n 0, []) := by decide +kernel
theorem zi_34_9 : zI 34 9 = some (.iload_n 1, []) := by decide +kernel
theorem zi_34_10 : zI 34 10 = some (.iload_n 2, []) := by decide +kernel
theorem zi_34_11 : zI 34 11 = some (.invokevirtual 78, [25, 0, 2, 2, 70, 71, 67, 69, 0, 198]) := by decide +kernel
theorem zi_34_14 : zI 34 14 = some (.isub, []) := by decide +kernel
theorem zi_34_15 : zI 34 15 = some (.ireturn, []) := by decide +kernel
theorem zi_35_0 : zI 35 0 = some (.aload_n 0, []) := by decide +kernel
theorem zi_35_1 : zI 35 1 = some (.getfield 32, [2, 5, 199]) := by decide +kernel
theorem zi_35_4 : zI 35 4 = some (.iload_n 1, []) := by decide +kernel
theorem zi_35_5 : zI 35 5 = some (.iload_n 2, []) := by decide +kernel
theorem zi_35_6 : zI 35 6 = some (.invokestatic 74, [12, 1, 2, 0, 124, 0, 67, 123, 0, 122]) := by decide +kernel
theorem zi_35_9 : zI 35 9 = some (.invokevirtual 54, [0, 0, 1, 1, 17, 18, 19, 16, 0, 125]) := by decide +kernel
theorem zi_35_12 : zI 35 12 = some (.ireturn, []) := by decide +kernel
theorem zi_57_0 : zI 57 0 = some (.iconst 0, []) := by decide +kernel
theorem zi_57_1 : zI 57 1 = some (.istore_n 3, []) := by decide +kernel
theorem zi_57_2 : zI 57 2 = some (.iload_n 3, []) := by decide +kernel
theorem zi_57_3 : zI 57 3 = some (.aload_n 1, []) := by decide +kernel
theorem zi_57_4 : zI 57 4 = some (.getfield 41, [0, 7, 297]) := by decide +kernel
theorem zi_57_7 : zI 57 7 = some (.if_icmp .ge 81, [88]) := by decide +kernel
theorem zi_57_10 : zI 57 10 = some (.iconst 0, []) := by decide +kernel
theorem zi_57_11 : zI 57 11 = some (.istore 4, []) := by decide +kernel
theorem zi_57_13 : zI 57 13 = some (.iconst 0, []) := by decide +kernel
theorem zi_57_14 : zI 57 14 = some (.istore 5, []) := by decide +kernel
theorem zi_57_16 : zI 57 16 = some (.iconst 0, []) := by decide +kernel
theorem zi_57_17 : zI 57 17 = some (.istore 6, []) := by decide +kernel
theorem zi_57_19 : zI 57 19 = some (.iload 6, []) := by decide +kernel
theorem zi_57_21 : zI 57 21 = some (.iload_n 3, []) := by decide +kernel
theorem zi_57_22 : zI 57 22 = some (.if_icmp .ge 40, [62]) := by decide +kernel
theorem zi_57_25 : zI 57 25 = some (.aload_n 1, []) := by decide +kernel
theorem zi_57_26 : zI 57 26 = some (.iload 6, []) := by decide +kernel
theorem zi_57_28 : zI 57 28 = some (.iload_n 3, []) := by decide +kernel
theorem zi_57_29 : zI 57 29 = some (.iload_n 2, []) := by decide +kernel
theorem zi_57_30 : zI 57 30 = some (.invokevirtual 47, [33, 0, 3, 0, 300, 301, 91, 299, 0, 298]) := by decide +kernel
theorem zi_57_33 : zI 57 33 = some (.ifCond .eq 23, [56]) := by decide +kernel
theorem zi_57_36 : zI 57 36 = some (.iinc 4 1, []) := by decide +kernel
theorem zi_57_39 : zI 57 39 = some (.iload 5, []) := by decide +kernel
theorem zi_57_41 : zI 57 41 = some (.aload_n 1, []) := by decide +kernel
theorem zi_57_42 : zI 57 42 = some (.getfield 51, [0, 5, 302]) := by decide +kernel
theorem zi_57_45 : zI 57 45 = some (.iload 6, []) := by decide +kernel
theorem zi_57_47 : zI 57 47 = some (.invokevirtual 54, [0, 0, 1, 1, 17, 18, 19, 16, 0, 125]) := by decide +kernel
theorem zi_57_50 : zI 57 50 = some (.invokestatic 58, [24, 1, 1, 0, 305, 0, 67, 304, 0, 303]) := by decide +kernel
theorem zi_57_53 : zI 57 53 = some (.ior, []) := by decide +kernel
theorem zi_57_54 : zI 57 54 = some (.istore 5, []) := by decide +kernel
theorem zi_57_56 : zI 57 56 = some (.iinc 6 1, []) := by decide +kernel
theorem zi_57_59 : zI 57 59 = some (.goto (-40), [19]) := by decide +kernel
theorem zi_57_62 : zI 57 62 = some (.aload_n 0, []) := by decide +kernel
theorem zi_57_63 : zI 57 63 = some (.getfield 14, [2, 0, 293]) := by decide +kernel
theorem zi_57_66 : zI 57 66 = some (.iload_n 3, []) := by decide +kernel
theorem zi_57_67 : zI 57 67 = some (.iload 4, []) := by decide +kernel
theorem zi_57_69 : zI 57 69 = some (.invokevirtual 61, [1, 0, 2, 1, 282, 283, 19, 281, 0, 306]) := by decide +kernel
theorem zi_57_72 : zI 57 72 = some (.aload_n 0, []) := by decide +kernel
theorem zi_57_73 : zI 57 73 = some (.getfield 20, [2, 1, 294]) := by decide +kernel
theorem zi_57_76 : zI 57 76 = some (.iload_n 3, []) := by decide +kernel
theorem zi_57_77 : zI 57 77 = some (.iload 5, []) := by decide +kernel
theorem zi_57_79 : zI 57 79 = some (.invokevirtual 61, [1, 0, 2, 1, 282, 283, 19, 281, 0, 306]) := by decide +kernel
theorem zi_57_82 : zI 57 82 = some (.iinc 3 1, []) := by decide +kernel
theorem zi_57_85 : zI 57 85 = some (.goto (-83), [2]) := by decide +kernel
theorem zi_57_88 : zI 57 88 = some (.return_, []) := by decide +kernel
theorem zi_61_0 : zI 61 0 = some (.aload_n 1, []) := by decide +kernel
theorem zi_61_1 : zI 61 1 = some (.getfield 51, [0, 5, 302]) := by decide +kernel
theorem zi_61_4 : zI 61 4 = some (.iload_n 2, []) := by decide +kernel
theorem zi_61_5 : zI 61 5 = some (.invokevirtual 54, [0, 0, 1, 1, 17, 18, 19, 16, 0, 125]) := by decide +kernel
theorem zi_61_8 : zI 61 8 = some (.istore 4, []) := by decide +kernel
theorem zi_61_10 : zI 61 10 = some (.iconst 0, []) := by decide +kernel
theorem zi_61_11 : zI 61 11 = some (.istore 5, []) := by decide +kernel
theorem zi_61_13 : zI 61 13 = some (.iload 5, []) := by decide +kernel
theorem zi_61_15 : zI 61 15 = some (.aload_n 0, []) := by decide +kernel
theorem zi_61_16 : zI 61 16 = some (.getfield 38, [2, 7, 296]) := by decide +kernel
theorem zi_61_19 : zI 61 19 = some (.iload 4, []) := by decide +kernel
theorem zi_61_21 : zI 61 21 = some (.invokevirtual 54, [0, 0, 1, 1, 17, 18, 19, 16, 0, 125]) := by decide +kernel
theorem zi_61_24 : zI 61 24 = some (.if_icmp .ge 45, [69]) := by decide +kernel
theorem zi_61_27 : zI 61 27 = some (.aload_n 0, []) := by decide +kernel
theorem zi_61_28 : zI 61 28 = some (.iload 4, []) := by decide +kernel
theorem zi_61_30 : zI 61 30 = some (.iload 5, []) := by decide +kernel
theorem zi_61_32 : zI 61 32 = some (.invokevirtual 91, [20, 0, 2, 2, 65, 66, 67, 64, 0, 321]) := by decide +kernel
theorem zi_61_35 : zI 61 35 = some (.istore 6, []) := by decide +kernel
theorem zi_61_37 : zI 61 37 = some (.aload_n 0, []) := by decide +kernel
theorem zi_61_38 : zI 61 38 = some (.getfield 20, [2, 1, 294]) := by decide +kernel
theorem zi_61_41 : zI 61 41 = some (.iload_n 2, []) := by decide +kernel
theorem zi_61_42 : zI 61 42 = some (.invokevirtual 54, [0, 0, 1, 1, 17, 18, 19, 16, 0, 125]) := by decide +kernel
theorem zi_61_45 : zI 61 45 = some (.iload 6, []) := by decide +kernel
theorem zi_61_47 : zI 61 47 = some (.invokestatic 58, [24, 1, 1, 0, 305, 0, 67, 304, 0, 303]) := by decide +kernel
theorem zi_61_50 : zI 61 50 = some (.iand, []) := by decide +kernel
theorem zi_61_51 : zI 61 51 = some (.ifCond .eq 12, [63]) := by decide +kernel
theorem zi_61_54 : zI 61 54 = some (.aload_n 1, []) := by decide +kernel
theorem zi_61_55 : zI 61 55 = some (.iload_n 2, []) := by decide +kernel
theorem zi_61_56 : zI 61 56 = some (.iload 6, []) := by decide +kernel
theorem zi_61_58 : zI 61 58 = some (.iload_n 3, []) := by decide +kernel
theorem zi_61_59 : zI 61 59 = some (.invokestatic 97, [62, 1, 4, 0, 325, 0, 67, 324, 0, 323]) := by decide +kernel
theorem zi_61_62 : zI 61 62 = some (.ireturn, []) := by decide +kernel
theorem zi_61_63 : zI 61 63 = some (.iinc 5 1, []) := by decide +kernel
theorem zi_61_66 : zI 61 66 = some (.goto (-53), [13]) := by decide +kernel
theorem zi_61_69 : zI 61 69 = some (.iconst (-1), []) := by decide +kernel
theorem zi_61_70 : zI 61 70 = some (.ireturn, []) := by decide +kernel
theorem zi_62_0 : zI 62 0 = some (.iload_n 1, []) := by decide +kernel
theorem zi_62_1 : zI 62 1 = some (.iconst 1, []) := by decide +kernel
theorem zi_62_2 : zI 62 2 = some (.isub, []) := by decide +kernel
theorem zi_62_3 : zI 62 3 = some (.istore 4, []) := by decide +kernel
theorem zi_62_5 : zI 62 5 = some (.iload 4, []) := by decide +kernel
theorem zi_62_7 : zI 62 7 = some (.ifCond .lt 36, [43]) := by decide +kernel
theorem zi_62_10 : zI 62 10 = some (.aload_n 0, []) := by decide +kernel
theorem zi_62_11 : zI 62 11 = some (.getfield 51, [0, 5, 302]) := by decide +kernel
theorem zi_62_14 : zI 62 14 = some (.iload 4, []) := by decide +kernel
theorem zi_62_16 : zI 62 16 = some (.invokevirtual 54, [0, 0, 1, 1, 17, 18, 19, 16, 0, 125]) := by decide +kernel
theorem zi_62_19 : zI 62 19 = some (.iload_n 2, []) := by decide +kernel
theorem zi_62_20 : zI 62 20 = some (.if_icmp .ne 17, [37]) := by decide +kernel
theorem zi_62_23 : zI 62 23 = some (.aload_n 0, []) := by decide +kernel
theorem zi_62_24 : zI 62 24 = some (.iload 4, []) := by decide +kernel
theorem zi_62_26 : zI 62 26 = some (.iload_n 1, []) := by decide +kernel
theorem zi_62_27 : zI 62 27 = some (.iload_n 3, []) := by decide +kernel
theorem zi_62_28 : zI 62 28 = some (.invokevirtual 47, [33, 0, 3, 0, 300, 301, 91, 299, 0, 298]) := by decide +kernel
theorem zi_62_31 : zI 62 31 = some (.ifCond .eq 6, [37]) := by decide +kernel
theorem zi_62_34 : zI 62 34 = some (.iload 4, []) := by decide +kernel
theorem zi_62_36 : zI 62 36 = some (.ireturn, []) := by decide +kernel
theorem zi_62_37 : zI 62 37 = some (.iinc 4 (-1), []) := by decide +kernel
theorem zi_62_40 : zI 62 40 = some (.goto (-35), [5]) := by decide +kernel
theorem zi_62_43 : zI 62 43 = some (.iconst (-1), []) := by decide +kernel
theorem zi_62_44 : zI 62 44 = some (.ireturn, []) := by decide +kernel
/-! scenes: what is in them, and what is asked -/
def zbit (x : Int32) : Int32 := if x < 0 then 0 else nI 1 <<< (x &&& 31)
theorem c_bitOf {H : zH} (x : Int32) : zcalls zTB 24 [.int x] H (some (.int (zbit x)), H) := by
  refine zcalls_of (Nat.le_of_ble_eq_true rfl) ?_
  show zruns zTB 24 0 [some (.int x)] [] _ _
  refine zr_iload_n (pc' := 1) zi_24_0 rfl rfl ?_
  refine zr_if (pc' := 4) zi_24_1 rfl (fun h1 => ?_) (fun h1 => ?_)
  · replace h1 := zx_ge_t h1
    refine zr_iconst (v := (nI 1)) (pc' := 9) zi_24_8 rfl rfl ?_
    refine zr_iload_n (pc' := 10) zi_24_9 rfl rfl ?_
    refine zr_ishl (pc' := 11) zi_24_10 rfl rfl ?_
    rw [zbit, if_neg (Int32.not_lt.mpr h1)]
    exact zr_ireturn zi_24_11 rfl
  · replace h1 := zx_ge_f h1
    refine zr_iconst (v := (nI 0)) (pc' := 5) zi_24_4 rfl rfl ?_
    refine zr_goto zi_24_5 ?_
    rw [zbit, if_pos (Int32.not_le.mp h1)]
    exact zr_ireturn zi_24_11 rfl
theorem c_pair {H : zH} (x y : Int32) : zcalls zTB 12 [.int x, .int y] H (some (.int (x * nI 20 + y)), H) := by
  refine zcalls_of (Nat.le_of_ble_eq_true rfl) ?_
  show zruns zTB 12 0 [some (.int x), some (.int y)] [] _ _
  refine zr_iload_n (pc' := 1) zi_12_0 rfl rfl ?_
  refine zr_bipush (v := (nI 20)) (pc' := 3) zi_12_1 rfl rfl ?_
  refine zr_imul (pc' := 4) zi_12_3 rfl rfl ?_
  refine zr_iload_n (pc' := 5) zi_12_4 rfl rfl ?_
  refine zr_iadd (pc' := 6) zi_12_5 rfl rfl ?_
  exact zr_ireturn zi_12_6 rfl
theorem c_pairN {H : zH} (t c : Nat) : zcalls zTB 12 [.int (nI t), .int (nI c)] H (some (.int (nI (t * 20 + c))), H) := by
  have h := c_pair (H := H) (nI t) (nI c)
  rw [pk_mul, nI_add] at h
  exact h
section
variable {b : Nat} {F : Nat → Nat → Int32} {g : Nat → Nat} {h : zH}
theorem c_causeOf (hb : b + 71 ≤ h.length) (t p : Nat) (ht : t * 20 + p < 400) : zcalls zTB 20 [.ref (b + 52), .int (nI t), .int (nI p)] (nput b F g h) (some (.int (F 29 (t * 20 + p))), nput b F g h) := by
  refine zcalls_of (Nat.le_of_ble_eq_true rfl) ?_
  show zruns zTB 20 0 [some (.ref (b + 52)), some (.int (nI t)), some (.int (nI p))] [] _ _
  refine zr_aload_n (pc' := 1) zi_20_0 rfl rfl ?_
  refine zr_get (pc' := 4) zi_20_1 (nput_at hb (k := 52) rfl) rfl rfl ?_
  refine zr_iload_n (pc' := 5) zi_20_4 rfl rfl ?_
  refine zr_iload_n (pc' := 6) zi_20_5 rfl rfl ?_
  refine zr_s2 (pc' := 9) zi_20_6 rfl (c_pairN _ _) rfl ?_
  refine zr_atN (pc' := 12) (by omega) zi_20_9 hb rfl rfl (by decide) rfl rfl ?_
  exact zr_ireturn zi_20_12 rfl
theorem c_hits (hb : b + 71 ≤ h.length) (t p : Nat) (ht : t * 20 + p < 400) : zcalls zTB 25 [.ref (b + 52), .int (nI t), .int (nI p)] (nput b F g h) (some (.int (F 25 (t * 20 + p))), nput b F g h) := by
  refine zcalls_of (Nat.le_of_ble_eq_true rfl) ?_
  show zruns zTB 25 0 [some (.ref (b + 52)), some (.int (nI t)), some (.int (nI p))] [] _ _
  refine zr_aload_n (pc' := 1) zi_25_0 rfl rfl ?_
  refine zr_get (pc' := 4) zi_25_1 (nput_at hb (k := 52) rfl) rfl rfl ?_
  refine zr_iload_n (pc' := 5) zi_25_4 rfl rfl ?_
  refine zr_iload_n (pc' := 6) zi_25_5 rfl rfl ?_
  refine zr_s2 (pc' := 9) zi_25_6 rfl (c_pairN _ _) rfl ?_
  refine zr_atN (pc' := 12) (by omega) zi_25_9 hb rfl rfl (by decide) rfl rfl ?_
  exact zr_ireturn zi_25_12 rfl
theorem c_score (hb : b + 71 ≤ h.length) (t p : Nat) (ht : t * 20 + p < 400) : zcalls zTB 35 [.ref (b + 52), .int (nI t), .int (nI p)] (nput b F g h) (some (.int (F 28 (t * 20 + p))), nput b F g h) := by
  refine zcalls_of (Nat.le_of_ble_eq_true rfl) ?_
  show zruns zTB 35 0 [some (.ref (b + 52)), some (.int (nI t)), some (.int (nI p))] [] _ _
  refine zr_aload_n (pc' := 1) zi_35_0 rfl rfl ?_
  refine zr_get (pc' := 4) zi_35_1 (nput_at hb (k := 52) rfl) rfl rfl ?_
  refine zr_iload_n (pc' := 5) zi_35_4 rfl rfl ?_
  refine zr_iload_n (pc' := 6) zi_35_5 rfl rfl ?_
  refine zr_s2 (pc' := 9) zi_35_6 rfl (c_pairN _ _) rfl ?_
  refine zr_atN (pc' := 12) (by omega) zi_35_9 hb rfl rfl (by decide) rfl rfl ?_
  exact zr_ireturn zi_35_12 rfl
theorem c_rest (hb : b + 71 ≤ h.length) (t p : Nat) (hp : p < 20) (ht : t * 20 + p < 400) : zcalls zTB 34 [.ref (b + 52), .int (nI t), .int (nI p)] (nput b F g h) (some (.int (F 26 p - F 25 (t * 20 + p))), nput b F g h) := by
  refine zcalls_of (Nat.le_of_ble_eq_true rfl) ?_
  show zruns zTB 34 0 [some (.ref (b + 52)), some (.int (nI t)), some (.int (nI p))] [] _ _
  refine zr_aload_n (pc' := 1) zi_34_0 rfl rfl ?_
  refine zr_get (pc' := 4) zi_34_1 (nput_at hb (k := 52) rfl) rfl rfl ?_
  refine zr_iload_n (pc' := 5) zi_34_4 rfl rfl ?_
  refine zr_atN (pc' := 8) (by omega) zi_34_5 hb rfl rfl (by decide) rfl rfl ?_
  refine zr_aload_n (pc' := 9) zi_34_8 rfl rfl ?_
  refine zr_iload_n (pc' := 10) zi_34_9 rfl rfl ?_
  refine zr_iload_n (pc' := 11) zi_34_10 rfl rfl ?_
  refine zr_v2 (pc' := 14) zi_34_11 (nput_at hb (k := 52) rfl) rfl (c_hits hb _ _ ht) rfl ?_
  refine zr_isub (pc' := 15) zi_34_14 (by first | exact pk_sub (by omega) | rfl) rfl ?_
  exact zr_ireturn zi_34_15 rfl
theorem l_lastInScene (hb : b + 71 ≤ h.length) (l : Nat) (t back : Int32) (hl : l < 70) (hn : g 1 ≤ 70) : ∀ j, j ≤ l → zev 62 5 [some (.ref (b + 1)), some (.int (nI l)), some (.int t), some (.int back), some (.int (nI j - 1))] [] (nput b F g h) (zQi (nput b F g h) fun r => r = -1 ∨ ∃ k, k < l ∧ r = nI k ∧ k < g 1 ∧ F 5 k = t ∧ F 0 l - back ≤ F 0 k)
  | 0, hj => by
    refine zev_of (fun _ kk => zr_iload (pc' := 7) zi_62_5 rfl rfl kk) ?_
    refine zv_if (pc' := 10) zi_62_7 rfl (fun h7 => ?_) (fun h7 => ?_)
    · replace h7 := zx_lt_t h7
      refine zev_of (fun _ kk => zr_iconst (v := (-1)) (pc' := 44) zi_62_43 rfl rfl kk) ?_
      refine zev_ret (zr_ireturn zi_62_44 rfl) ?_
      exact ⟨_, .inl rfl, rfl⟩
    · replace h7 := zx_lt_f h7
      exact absurd (by decide : nI 0 - 1 < 0) h7
  | j + 1, hj => by
    rw [nI_pred]
    refine zev_of (fun _ kk => zr_iload (pc' := 7) zi_62_5 rfl rfl kk) ?_
    refine zv_if (pc' := 10) zi_62_7 rfl (fun h7 => ?_) (fun h7 => ?_)
    · replace h7 := zx_lt_t h7
      exact absurd h7 (nI_pos (by omega))
    · replace h7 := zx_lt_f h7
      refine zev_of (fun _ kk => zr_aload_n (pc' := 11) zi_62_10 rfl rfl kk) ?_
      refine zev_of (fun _ kk => zr_get (pc' := 14) zi_62_11 (nput_at hb (k := 1) rfl) rfl rfl kk) ?_
      refine zev_of (fun _ kk => zr_iload (pc' := 16) zi_62_14 rfl rfl kk) ?_
      refine zev_of (fun _ kk => zr_atN (pc' := 19) (by omega) zi_62_16 hb rfl rfl (by decide) rfl rfl kk) ?_
      refine zev_of (fun _ kk => zr_iload_n (pc' := 20) zi_62_19 rfl rfl kk) ?_
      refine zv_icmp (pc' := 23) zi_62_20 rfl (fun h20 => ?_) (fun h20 => ?_)
      · replace h20 := zc_ne_t h20
        refine zev_of (fun _ kk => zr_iinc (pc' := 40) zi_62_37 rfl (n_dec _) rfl rfl kk) ?_
        dsimp only [zst1, zst2, zkill, List.set, List.getElem?_cons_succ, List.getElem?_cons_zero]
        refine zev_of (fun _ kk => zr_goto zi_62_40 kk) ?_
        exact l_lastInScene hb l t back hl hn j (by omega)
      · replace h20 := zc_ne_f h20
        refine zev_of (fun _ kk => zr_aload_n (pc' := 24) zi_62_23 rfl rfl kk) ?_
        refine zev_of (fun _ kk => zr_iload (pc' := 26) zi_62_24 rfl rfl kk) ?_
        refine zev_of (fun _ kk => zr_iload_n (pc' := 27) zi_62_26 rfl rfl kk) ?_
        refine zev_of (fun _ kk => zr_iload_n (pc' := 28) zi_62_27 rfl rfl kk) ?_
        obtain ⟨r, ⟨hr, hin⟩, hc⟩ := c_isInScene hb (F := F) (g := g) j l back (by omega) hl hn
        refine zev_of (fun _ kk => zr_v3 (pc' := 31) zi_62_28 (nput_at hb (k := 1) rfl) rfl hc rfl kk) ?_
        refine zv_if (pc' := 34) zi_62_31 rfl (fun h31 => ?_) (fun h31 => ?_)
        · replace h31 := zc_eq_t h31
          refine zev_of (fun _ kk => zr_iinc (pc' := 40) zi_62_37 rfl (n_dec _) rfl rfl kk) ?_
          dsimp only [zst1, zst2, zkill, List.set, List.getElem?_cons_succ, List.getElem?_cons_zero]
          refine zev_of (fun _ kk => zr_goto zi_62_40 kk) ?_
          exact l_lastInScene hb l t back hl hn j (by omega)
        · replace h31 := zc_eq_f h31
          refine zev_of (fun _ kk => zr_iload (pc' := 36) zi_62_34 rfl rfl kk) ?_
          refine zev_ret (zr_ireturn zi_62_36 rfl) ?_
          obtain ⟨k1, k2, k3⟩ := hin h31
          exact ⟨_, .inr ⟨j, k1, rfl, k2, h20, k3⟩, rfl⟩
theorem c_lastInScene (hb : b + 71 ≤ h.length) (l : Nat) (t back : Int32) (hl : l < 70) (hn : g 1 ≤ 70) : ∃ r, (r = -1 ∨ ∃ k, k < l ∧ r = nI k ∧ k < g 1 ∧ F 5 k = t ∧ F 0 l - back ≤ F 0 k) ∧ zcalls zTB 62 [.ref (b + 1), .int (nI l), .int t, .int back] (nput b F g h) (some (.int r), nput b F g h) := by
  refine zQi_out (zev_calls (Nat.le_of_ble_eq_true rfl) ?_)
  show zev 62 0 [some (.ref (b + 1)), some (.int (nI l)), some (.int t), some (.int back), none] [] _ _
  refine zev_of (fun _ kk => zr_iload_n (pc' := 1) zi_62_0 rfl rfl kk) ?_
  refine zev_of (fun _ kk => zr_iconst (v := (nI 1)) (pc' := 2) zi_62_1 rfl rfl kk) ?_
  refine zev_of (fun _ kk => zr_isub (pc' := 3) zi_62_2 rfl rfl kk) ?_
  refine zev_of (fun _ kk => zr_istore (pc' := 5) zi_62_3 (Nat.le_of_ble_eq_true rfl) rfl rfl kk) ?_
  dsimp only [zst1, zst2, zkill, List.set, List.getElem?_cons_succ, List.getElem?_cons_zero]
  exact l_lastInScene hb l t back hl hn l (Nat.le_refl _)
/-- the line behind a line -/
def zbeh (F : Nat → Nat → Int32) (g : Nat → Nat) (l : Nat) (back r : Int32) : Prop := r = -1 ∨ ∃ j t N, j < l ∧ r = nI j ∧ j < g 1 ∧ F 5 l = nI t ∧ t < 20 ∧ F 5 j ≠ nI t ∧ F 0 l - back ≤ F 0 j ∧ 0 < N ∧ N ≤ 20 ∧ F 30 t = nI N
theorem l_lineBehind (hb : b + 71 ≤ h.length) (l t N : Nat) (back : Int32) (hl : l < 70) (hn : g 1 ≤ 70) (ht : t < 20) (hlt : F 5 l = nI t) (hN : N ≤ 20) (hc : F 30 t = nI N) (hr : ∀ p, p < N → ∃ c, c < 20 ∧ c ≠ t ∧ F 29 (t * 20 + p) = nI c) (p : Nat) (hp : p ≤ N) (X : Option Value) : zev 61 13 [some (.ref (b + 52)), some (.ref (b + 1)), some (.int (nI l)), some (.int back), some (.int (nI t)), some (.int (nI p)), X] [] (nput b F g h) (zQi (nput b F g h) (zbeh F g l back)) := by
  refine zev_of (fun _ kk => zr_iload (pc' := 15) zi_61_13 rfl rfl kk) ?_
  refine zev_of (fun _ kk => zr_aload_n (pc' := 16) zi_61_15 rfl rfl kk) ?_
  refine zev_of (fun _ kk => zr_get (pc' := 19) zi_61_16 (nput_at hb (k := 52) rfl) rfl rfl kk) ?_
  refine zev_of (fun _ kk => zr_iload (pc' := 21) zi_61_19 rfl rfl kk) ?_
  refine zev_of (fun _ kk => zr_atN (pc' := 24) (by omega) zi_61_21 hb rfl rfl (by decide) rfl rfl kk) ?_
  rw [hc]
  refine zv_icmp (pc' := 27) zi_61_24 rfl (fun h24 => ?_) (fun h24 => ?_)
  · replace h24 := zc_ge_t (by omega) (by omega) h24
    refine zev_of (fun _ kk => zr_iconst (v := (-1)) (pc' := 70) zi_61_69 rfl rfl kk) ?_
    refine zev_ret (zr_ireturn zi_61_70 rfl) ?_
    exact ⟨_, .inl rfl, rfl⟩
  · replace h24 := zc_ge_f (by omega) (by omega) h24
    obtain ⟨c, hc20, hct, hce⟩ := hr p (by omega)
    refine zev_of (fun _ kk => zr_aload_n (pc' := 28) zi_61_27 rfl rfl kk) ?_
    refine zev_of (fun _ kk => zr_iload (pc' := 30) zi_61_28 rfl rfl kk) ?_
    refine zev_of (fun _ kk => zr_iload (pc' := 32) zi_61_30 rfl rfl kk) ?_
    refine zev_of (fun _ kk => zr_v2 (pc' := 35) zi_61_32 (nput_at hb (k := 52) rfl) rfl (c_causeOf hb _ _ (by omega)) rfl kk) ?_
    refine zev_of (fun _ kk => zr_istore (pc' := 37) zi_61_35 (Nat.le_of_ble_eq_true rfl) rfl rfl kk) ?_
    dsimp only [zst1, zst2, zkill, List.set, List.getElem?_cons_succ, List.getElem?_cons_zero]
    refine zev_of (fun _ kk => zr_aload_n (pc' := 38) zi_61_37 rfl rfl kk) ?_
    refine zev_of (fun _ kk => zr_get (pc' := 41) zi_61_38 (nput_at hb (k := 52) rfl) rfl rfl kk) ?_
    refine zev_of (fun _ kk => zr_iload_n (pc' := 42) zi_61_41 rfl rfl kk) ?_
    refine zev_of (fun _ kk => zr_atN (pc' := 45) (by omega) zi_61_42 hb rfl rfl (by decide) rfl rfl kk) ?_
    refine zev_of (fun _ kk => zr_iload (pc' := 47) zi_61_45 rfl rfl kk) ?_
    refine zev_of (fun _ kk => zr_s1 (pc' := 50) zi_61_47 rfl (c_bitOf _) rfl kk) ?_
    refine zev_of (fun _ kk => zr_iand (pc' := 51) zi_61_50 rfl rfl kk) ?_
    refine zv_if (pc' := 54) zi_61_51 rfl (fun h51 => ?_) (fun h51 => ?_)
    · replace h51 := zc_eq_t h51
      refine zev_of (fun _ kk => zr_iinc (pc' := 66) zi_61_63 rfl (by first | exact n_inc _ | rfl) rfl rfl kk) ?_
      dsimp only [zst1, zst2, zkill, List.set, List.getElem?_cons_succ, List.getElem?_cons_zero]
      refine zev_of (fun _ kk => zr_goto zi_61_66 kk) ?_
      exact l_lineBehind hb l t N back hl hn ht hlt hN hc hr (p + 1) (by omega) _
    · replace h51 := zc_eq_f h51
      refine zev_of (fun _ kk => zr_aload_n (pc' := 55) zi_61_54 rfl rfl kk) ?_
      refine zev_of (fun _ kk => zr_iload_n (pc' := 56) zi_61_55 rfl rfl kk) ?_
      refine zev_of (fun _ kk => zr_iload (pc' := 58) zi_61_56 rfl rfl kk) ?_
      refine zev_of (fun _ kk => zr_iload_n (pc' := 59) zi_61_58 rfl rfl kk) ?_
      obtain ⟨r, hr2, hcl⟩ := c_lastInScene hb (F := F) (g := g) l (F 29 (t * 20 + p)) back hl hn
      refine zev_of (fun _ kk => zr_s4 (pc' := 62) zi_61_59 rfl hcl rfl kk) ?_
      refine zev_ret (zr_ireturn zi_61_62 rfl) ?_
      refine ⟨_, ?_, rfl⟩
      rcases hr2 with e | ⟨k, k1, k2, k3, k4, k5⟩
      · exact .inl e
      · refine .inr ⟨k, t, N, k1, k2, k3, hlt, ht, ?_, k5, by omega, hN, hc⟩
        rw [k4, hce]
        exact fun e => hct ((nI_eq (by omega) (by omega)).mp e)
termination_by N - p
theorem c_lineBehind (hb : b + 71 ≤ h.length) (l : Nat) (back : Int32) (hl : l < 70) (hn : g 1 ≤ 70) (ho : F 5 l = -1 ∨ ∃ t N, t < 20 ∧ F 5 l = nI t ∧ N ≤ 20 ∧ F 30 t = nI N ∧ ∀ p, p < N → ∃ c, c < 20 ∧ c ≠ t ∧ F 29 (t * 20 + p) = nI c) : ∃ r, zbeh F g l back r ∧ zcalls zTB 61 [.ref (b + 52), .ref (b + 1), .int (nI l), .int back] (nput b F g h) (some (.int r), nput b F g h) := by
  refine zQi_out (zev_calls (Nat.le_of_ble_eq_true rfl) ?_)
  show zev 61 0 [some (.ref (b + 52)), some (.ref (b + 1)), some (.int (nI l)), some (.int back), none, none, none] [] _ _
  refine zev_of (fun _ kk => zr_aload_n (pc' := 1) zi_61_0 rfl rfl kk) ?_
  refine zev_of (fun _ kk => zr_get (pc' := 4) zi_61_1 (nput_at hb (k := 1) rfl) rfl rfl kk) ?_
  refine zev_of (fun _ kk => zr_iload_n (pc' := 5) zi_61_4 rfl rfl kk) ?_
  refine zev_of (fun _ kk => zr_atN (pc' := 8) (by omega) zi_61_5 hb rfl rfl (by decide) rfl rfl kk) ?_
  refine zev_of (fun _ kk => zr_istore (pc' := 10) zi_61_8 (Nat.le_of_ble_eq_true rfl) rfl rfl kk) ?_
  dsimp only [zst1, zst2, zkill, List.set, List.getElem?_cons_succ, List.getElem?_cons_zero]
  refine zev_of (fun _ kk => zr_iconst (v := (nI 0)) (pc' := 11) zi_61_10 rfl rfl kk) ?_
  refine zev_of (fun _ kk => zr_istore (pc' := 13) zi_61_11 (Nat.le_of_ble_eq_true rfl) rfl rfl kk) ?_
  dsimp only [zst1, zst2, zkill, List.set, List.getElem?_cons_succ, List.getElem?_cons_zero]
  rcases ho with e | ⟨t, N, h1, h2, h3, h4, h5⟩
  · rw [e]
    refine zev_of (fun _ kk => zr_iload (pc' := 15) zi_61_13 rfl rfl kk) ?_
    refine zev_of (fun _ kk => zr_aload_n (pc' := 16) zi_61_15 rfl rfl kk) ?_
    refine zev_of (fun _ kk => zr_get (pc' := 19) zi_61_16 (nput_at hb (k := 52) rfl) rfl rfl kk) ?_
    refine zev_of (fun _ kk => zr_iload (pc' := 21) zi_61_19 rfl rfl kk) ?_
    refine zev_of (fun _ kk => zr_at (pc' := 24) zi_61_21 hb rfl rfl (by decide) rfl rfl kk) ?_
    rw [rat_neg]
    refine zv_icmp (pc' := 27) zi_61_24 rfl (fun h24 => ?_) (fun h24 => ?_)
    · replace h24 := zx_ge_t h24
      refine zev_of (fun _ kk => zr_iconst (v := (-1)) (pc' := 70) zi_61_69 rfl rfl kk) ?_
      refine zev_ret (zr_ireturn zi_61_70 rfl) ?_
      exact ⟨_, .inl rfl, rfl⟩
    · replace h24 := zx_ge_f h24
      exact absurd h24 (by decide)
  · rw [h2]
    exact l_lineBehind hb l t N back hl hn h1 h2 h3 h4 h5 0 (Nat.zero_le _) none
end
section
variable {b : Nat} {h : zH}
theorem l_lookIn (hb : b + 71 ≤ h.length) {F : Nat → Nat → Int32} {g : Nat → Nat} {Q : zR → Prop} (back : Int32) (hn : g 0 ≤ 70) (hm : g 1 ≤ 70) (i : Nat) (hi : i < g 0) (k : ∀ c (M : Int32) X, c ≤ i → zev 57 62 [some (.ref (b + 52)), some (.ref (b + 1)), some (.int back), some (.int (nI i)), some (.int (nI c)), some (.int M), X] [] (nput b F g h) Q) (j c : Nat) (M : Int32) (hj : j ≤ i) (hc : c ≤ j) : zev 57 19 [some (.ref (b + 52)), some (.ref (b + 1)), some (.int back), some (.int (nI i)), some (.int (nI c)), some (.int M), some (.int (nI j))] [] (nput b F g h) Q := by
  refine zev_of (fun _ kk => zr_iload (pc' := 21) zi_57_19 rfl rfl kk) ?_
  refine zev_of (fun _ kk => zr_iload_n (pc' := 22) zi_57_21 rfl rfl kk) ?_
  refine zv_icmp (pc' := 25) zi_57_22 rfl (fun h22 => ?_) (fun h22 => ?_)
  · replace h22 := zc_ge_t (by omega) (by omega) h22
    exact k c M _ (by omega)
  · replace h22 := zc_ge_f (by omega) (by omega) h22
    refine zev_of (fun _ kk => zr_aload_n (pc' := 26) zi_57_25 rfl rfl kk) ?_
    refine zev_of (fun _ kk => zr_iload (pc' := 28) zi_57_26 rfl rfl kk) ?_
    refine zev_of (fun _ kk => zr_iload_n (pc' := 29) zi_57_28 rfl rfl kk) ?_
    refine zev_of (fun _ kk => zr_iload_n (pc' := 30) zi_57_29 rfl rfl kk) ?_
    obtain ⟨r, ⟨hr, hin⟩, hcl⟩ := c_isInScene hb (F := F) (g := g) j i back (by omega) (by omega) hm
    refine zev_of (fun _ kk => zr_v3 (pc' := 33) zi_57_30 (nput_at hb (k := 1) rfl) rfl hcl rfl kk) ?_
    refine zv_if (pc' := 36) zi_57_33 rfl (fun h33 => ?_) (fun h33 => ?_)
    · replace h33 := zc_eq_t h33
      refine zev_of (fun _ kk => zr_iinc (pc' := 59) zi_57_56 rfl (by first | exact n_inc _ | rfl) rfl rfl kk) ?_
      dsimp only [zst1, zst2, zkill, List.set, List.getElem?_cons_succ, List.getElem?_cons_zero]
      refine zev_of (fun _ kk => zr_goto zi_57_59 kk) ?_
      exact l_lookIn hb back hn hm i hi k (j + 1) c M (by omega) (by omega)
    · replace h33 := zc_eq_f h33
      refine zev_of (fun _ kk => zr_iinc (pc' := 39) zi_57_36 rfl (by first | exact n_inc _ | rfl) rfl rfl kk) ?_
      dsimp only [zst1, zst2, zkill, List.set, List.getElem?_cons_succ, List.getElem?_cons_zero]
      refine zev_of (fun _ kk => zr_iload (pc' := 41) zi_57_39 rfl rfl kk) ?_
      refine zev_of (fun _ kk => zr_aload_n (pc' := 42) zi_57_41 rfl rfl kk) ?_
      refine zev_of (fun _ kk => zr_get (pc' := 45) zi_57_42 (nput_at hb (k := 1) rfl) rfl rfl kk) ?_
      refine zev_of (fun _ kk => zr_iload (pc' := 47) zi_57_45 rfl rfl kk) ?_
      refine zev_of (fun _ kk => zr_atN (pc' := 50) (by omega) zi_57_47 hb rfl rfl (by decide) rfl rfl kk) ?_
      refine zev_of (fun _ kk => zr_s1 (pc' := 53) zi_57_50 rfl (c_bitOf _) rfl kk) ?_
      refine zev_of (fun _ kk => zr_ior (pc' := 54) zi_57_53 rfl rfl kk) ?_
      refine zev_of (fun _ kk => zr_istore (pc' := 56) zi_57_54 (Nat.le_of_ble_eq_true rfl) rfl rfl kk) ?_
      dsimp only [zst1, zst2, zkill, List.set, List.getElem?_cons_succ, List.getElem?_cons_zero]
      refine zev_of (fun _ kk => zr_iinc (pc' := 59) zi_57_56 rfl (by first | exact n_inc _ | rfl) rfl rfl kk) ?_
      dsimp only [zst1, zst2, zkill, List.set, List.getElem?_cons_succ, List.getElem?_cons_zero]
      refine zev_of (fun _ kk => zr_goto zi_57_59 kk) ?_
      exact l_lookIn hb back hn hm i hi k (j + 1) (c + 1) _ (by omega) (by omega)
termination_by i - j
def zonL (F F' : Nat → Nat → Int32) : Prop := ∀ r, r ≠ 23 → r ≠ 24 → F' r = F r
theorem l_look (hb : b + 71 ≤ h.length) (F : Nat → Nat → Int32) (g : Nat → Nat) (back : Int32) (hn : g 0 ≤ 70) (hm : g 1 ≤ 70) (i : Nat) (hi : i ≤ g 0) (hz : ∀ l, l < i → ∃ c, c ≤ l ∧ F 23 l = nI c) (X Y Z : Option Value) : zev 57 2 [some (.ref (b + 52)), some (.ref (b + 1)), some (.int back), some (.int (nI i)), X, Y, Z] [] (nput b F g h) (zQn b h fun F' g' => (zonL F F' ∧ ∀ l, l < g 0 → ∃ c, c ≤ l ∧ F' 23 l = nI c) ∧ g' = g) := by
  refine zev_of (fun _ kk => zr_iload_n (pc' := 3) zi_57_2 rfl rfl kk) ?_
  refine zev_of (fun _ kk => zr_aload_n (pc' := 4) zi_57_3 rfl rfl kk) ?_
  refine zev_of (fun _ kk => zr_get (pc' := 7) zi_57_4 (nput_at hb (k := 1) rfl) rfl rfl kk) ?_
  refine zv_icmp (pc' := 10) zi_57_7 rfl (fun h7 => ?_) (fun h7 => ?_)
  · replace h7 := zc_ge_t (by omega) (by omega) h7
    refine zev_ret (zr_return zi_57_88 rfl) ?_
    have e : i = g 0 := by omega
    exact ⟨_, _, ⟨⟨fun _ _ _ => rfl, e ▸ hz⟩, rfl⟩, rfl⟩
  · replace h7 := zc_ge_f (by omega) (by omega) h7
    refine zev_of (fun _ kk => zr_iconst (v := (nI 0)) (pc' := 11) zi_57_10 rfl rfl kk) ?_
    refine zev_of (fun _ kk => zr_istore (pc' := 13) zi_57_11 (Nat.le_of_ble_eq_true rfl) rfl rfl kk) ?_
    dsimp only [zst1, zst2, zkill, List.set, List.getElem?_cons_succ, List.getElem?_cons_zero]
    refine zev_of (fun _ kk => zr_iconst (v := (nI 0)) (pc' := 14) zi_57_13 rfl rfl kk) ?_
    refine zev_of (fun _ kk => zr_istore (pc' := 16) zi_57_14 (Nat.le_of_ble_eq_true rfl) rfl rfl kk) ?_
    dsimp only [zst1, zst2, zkill, List.set, List.getElem?_cons_succ, List.getElem?_cons_zero]
    refine zev_of (fun _ kk => zr_iconst (v := (nI 0)) (pc' := 17) zi_57_16 rfl rfl kk) ?_
    refine zev_of (fun _ kk => zr_istore (pc' := 19) zi_57_17 (Nat.le_of_ble_eq_true rfl) rfl rfl kk) ?_
    dsimp only [zst1, zst2, zkill, List.set, List.getElem?_cons_succ, List.getElem?_cons_zero]
    refine l_lookIn hb back hn hm i (by omega) (fun c M X hc => ?_) 0 0 _ (Nat.zero_le _) (Nat.zero_le _)
    refine zev_of (fun _ kk => zr_aload_n (pc' := 63) zi_57_62 rfl rfl kk) ?_
    refine zev_of (fun _ kk => zr_get (pc' := 66) zi_57_63 (nput_at hb (k := 52) rfl) rfl rfl kk) ?_
    refine zev_of (fun _ kk => zr_iload_n (pc' := 67) zi_57_66 rfl rfl kk) ?_
    refine zev_of (fun _ kk => zr_iload (pc' := 69) zi_57_67 rfl rfl kk) ?_
    refine zev_of (fun _ kk => zr_rputN (pc' := 72) (rr := 23) (by omega) zi_57_69 hb rfl rfl (fun _ => rfl) (by decide) (by decide) rfl rfl kk) ?_
    refine zev_of (fun _ kk => zr_aload_n (pc' := 73) zi_57_72 rfl rfl kk) ?_
    refine zev_of (fun _ kk => zr_get (pc' := 76) zi_57_73 (nput_at hb (k := 52) rfl) rfl rfl kk) ?_
    refine zev_of (fun _ kk => zr_iload_n (pc' := 77) zi_57_76 rfl rfl kk) ?_
    refine zev_of (fun _ kk => zr_iload (pc' := 79) zi_57_77 rfl rfl kk) ?_
    refine zev_of (fun _ kk => zr_rputN (pc' := 82) (rr := 24) (by omega) zi_57_79 hb rfl rfl (fun _ => rfl) (by decide) (by decide) rfl rfl kk) ?_
    refine zev_of (fun _ kk => zr_iinc (pc' := 85) zi_57_82 rfl (by first | exact n_inc _ | rfl) rfl rfl kk) ?_
    dsimp only [zst1, zst2, zkill, List.set, List.getElem?_cons_succ, List.getElem?_cons_zero]
    refine zev_of (fun _ kk => zr_goto zi_57_85 kk) ?_
    refine zev_mono (l_look hb (updR (updR F 23 (upd (F 23) i (nI c))) 24 (upd (F 24) i M)) g back hn hm (i + 1) (by omega) (fun l hl => ?_) _ _ _) ?_
    · show ∃ d, d ≤ l ∧ upd (F 23) i (nI c) l = nI d
      rcases Nat.lt_or_ge l i with w | w
      · rw [pk_un (by omega)]
        exact hz l w
      · rw [show l = i by omega, pk_us]
        exact ⟨c, hc, rfl⟩
    · rintro q ⟨F', g', ⟨⟨h1, h2⟩, h3⟩, rfl⟩
      exact ⟨F', g', ⟨⟨fun r h4 h5 => (h1 r h4 h5).trans ((updR_ne h5).trans (updR_ne h4)), h2⟩, h3⟩, rfl⟩
termination_by g 0 - i
theorem c_look (hb : b + 71 ≤ h.length) (F : Nat → Nat → Int32) (g : Nat → Nat) (back : Int32) (hn : g 0 ≤ 70) (hm : g 1 ≤ 70) : ∃ F' g', ((zonL F F' ∧ ∀ l, l < g 0 → ∃ c, c ≤ l ∧ F' 23 l = nI c) ∧ g' = g) ∧ zcalls zTB 57 [.ref (b + 52), .ref (b + 1), .int back] (nput b F g h) (none, nput b F' g' h) := by
  refine zQn_out (zev_calls (Nat.le_of_ble_eq_true rfl) ?_)
  show zev 57 0 [some (.ref (b + 52)), some (.ref (b + 1)), some (.int back), none, none, none, none] [] _ _
  refine zev_of (fun _ kk => zr_iconst (v := (nI 0)) (pc' := 1) zi_57_0 rfl rfl kk) ?_
  refine zev_of (fun _ kk => zr_istore_n (pc' := 2) zi_57_1 (Nat.le_of_ble_eq_true rfl) rfl rfl kk) ?_
  dsimp only [zst1, zst2, zkill, List.set, List.getElem?_cons_succ, List.getElem?_cons_zero]
  exact l_look hb F g back hn hm 0 (Nat.zero_le _) (fun l hl => absurd hl (Nat.not_lt_zero _)) none none none
end


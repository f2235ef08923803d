theorem zi_6_0 : zI 6 0 = some (.iload_n 0, []) := by decide +kernel
theorem zi_6_1 : zI 6 1 = some (.ifCond .lt 12, [13]) := by decide +kernel
theorem zi_6_4 : zI 6 4 = some (.iload_n 0, []) := by decide +kernel
theorem zi_6_5 : zI 6 5 = some (.iload_n 1, []) := by decide +kernel
theorem zi_6_6 : zI 6 6 = some (.if_icmp .gt 7, [13]) := by decide +kernel
theorem zi_6_9 : zI 6 9 = some (.iconst 1, []) := by decide +kernel
theorem zi_6_10 : zI 6 10 = some (.goto 4, [14]) := by decide +kernel
theorem zi_6_13 : zI 6 13 = some (.iconst 0, []) := by decide +kernel
theorem zi_6_14 : zI 6 14 = some (.ireturn, []) := by decide +kernel
theorem zi_11_0 : zI 11 0 = some (.aload_n 0, []) := by decide +kernel
theorem zi_11_1 : zI 11 1 = some (.getfield 29, [0, 4, 100]) := by decide +kernel
theorem zi_11_4 : zI 11 4 = some (.iload_n 1, []) := by decide +kernel
theorem zi_11_5 : zI 11 5 = some (.bipush 8, []) := by decide +kernel
theorem zi_11_7 : zI 11 7 = some (.imul, []) := by decide +kernel
theorem zi_11_8 : zI 11 8 = some (.iload_n 2, []) := by decide +kernel
theorem zi_11_9 : zI 11 9 = some (.iadd, []) := by decide +kernel
theorem zi_11_10 : zI 11 10 = some (.invokevirtual 46, [0, 0, 1, 1, 17, 18, 19, 16, 0, 101]) := by decide +kernel
theorem zi_11_13 : zI 11 13 = some (.ireturn, []) := by decide +kernel
theorem zi_17_0 : zI 17 0 = some (.iload_n 1, []) := by decide +kernel
theorem zi_17_1 : zI 17 1 = some (.ifCond .ne 7, [8]) := by decide +kernel
theorem zi_17_4 : zI 17 4 = some (.iconst 0, []) := by decide +kernel
theorem zi_17_5 : zI 17 5 = some (.goto 6, [11]) := by decide +kernel
theorem zi_17_8 : zI 17 8 = some (.iload_n 0, []) := by decide +kernel
theorem zi_17_9 : zI 17 9 = some (.iload_n 1, []) := by decide +kernel
theorem zi_17_10 : zI 17 10 = some (.idiv, []) := by decide +kernel
theorem zi_17_11 : zI 17 11 = some (.ireturn, []) := by decide +kernel
theorem zi_51_0 : zI 51 0 = some (.iconst 0, []) := by decide +kernel
theorem zi_51_1 : zI 51 1 = some (.istore_n 2, []) := by decide +kernel
theorem zi_51_2 : zI 51 2 = some (.iconst 0, []) := by decide +kernel
theorem zi_51_3 : zI 51 3 = some (.istore_n 3, []) := by decide +kernel
theorem zi_51_4 : zI 51 4 = some (.iload_n 3, []) := by decide +kernel
theorem zi_51_5 : zI 51 5 = some (.aload_n 0, []) := by decide +kernel
theorem zi_51_6 : zI 51 6 = some (.getfield 50, [0, 8, 192]) := by decide +kernel
theorem zi_51_9 : zI 51 9 = some (.if_icmp .ge 24, [33]) := by decide +kernel
theorem zi_51_12 : zI 51 12 = some (.aload_n 0, []) := by decide +kernel
theorem zi_51_13 : zI 51 13 = some (.getfield 32, [0, 5, 194]) := by decide +kernel
theorem zi_51_16 : zI 51 16 = some (.iload_n 3, []) := by decide +kernel
theorem zi_51_17 : zI 51 17 = some (.invokevirtual 46, [0, 0, 1, 1, 17, 18, 19, 16, 0, 101]) := by decide +kernel
theorem zi_51_20 : zI 51 20 = some (.iload_n 1, []) := by decide +kernel
theorem zi_51_21 : zI 51 21 = some (.if_icmp .ne 6, [27]) := by decide +kernel
theorem zi_51_24 : zI 51 24 = some (.iinc 2 1, []) := by decide +kernel
theorem zi_51_27 : zI 51 27 = some (.iinc 3 1, []) := by decide +kernel
theorem zi_51_30 : zI 51 30 = some (.goto (-26), [4]) := by decide +kernel
theorem zi_51_33 : zI 51 33 = some (.iload_n 2, []) := by decide +kernel
theorem zi_51_34 : zI 51 34 = some (.ireturn, []) := by decide +kernel
/-! plain facts -/
theorem n_inc (a : Nat) : nI a + Int32.ofInt 1 = nI (a + 1) := nI_1 a
theorem n_dec (x : Int32) : x + Int32.ofInt (-1) = x - 1 := by
  rw [Int32.sub_eq_add_neg]
  rfl
theorem zc_ge_t {a b : Nat} (ha : a < 2 ^ 31) (hb : b < 2 ^ 31) (h : zcnd .ge (nI a) (nI b) = true) : b ≤ a := (nI_leI hb ha).mp (by simpa [zcnd] using h)
theorem zc_ge_f {a b : Nat} (ha : a < 2 ^ 31) (hb : b < 2 ^ 31) (h : zcnd .ge (nI a) (nI b) = false) : a < b := Nat.lt_of_not_le fun q => by
  have := (nI_leI hb ha).mpr q
  simp only [zcnd, decide_eq_false_iff_not] at h
  exact h this
theorem zc_lt_t {a b : Nat} (ha : a < 2 ^ 31) (hb : b < 2 ^ 31) (h : zcnd .lt (nI a) (nI b) = true) : a < b := (nI_ltI ha hb).mp (by simpa [zcnd] using h)
theorem zc_lt_f {a b : Nat} (ha : a < 2 ^ 31) (hb : b < 2 ^ 31) (h : zcnd .lt (nI a) (nI b) = false) : b ≤ a := Nat.le_of_not_lt fun q => by
  have := (nI_ltI ha hb).mpr q
  simp only [zcnd, decide_eq_false_iff_not] at h
  exact h this
theorem zc_gt_t {a b : Nat} (ha : a < 2 ^ 31) (hb : b < 2 ^ 31) (h : zcnd .gt (nI a) (nI b) = true) : b < a := (nI_ltI hb ha).mp (by simpa [zcnd] using h)
theorem zc_gt_f {a b : Nat} (ha : a < 2 ^ 31) (hb : b < 2 ^ 31) (h : zcnd .gt (nI a) (nI b) = false) : a ≤ b := Nat.le_of_not_lt fun q => by
  have := (nI_ltI hb ha).mpr q
  simp only [zcnd, decide_eq_false_iff_not] at h
  exact h this
theorem zc_le_t {a b : Nat} (ha : a < 2 ^ 31) (hb : b < 2 ^ 31) (h : zcnd .le (nI a) (nI b) = true) : a ≤ b := (nI_leI ha hb).mp (by simpa [zcnd] using h)
theorem zc_le_f {a b : Nat} (ha : a < 2 ^ 31) (hb : b < 2 ^ 31) (h : zcnd .le (nI a) (nI b) = false) : b < a := Nat.lt_of_not_le fun q => by
  have := (nI_leI ha hb).mpr q
  simp only [zcnd, decide_eq_false_iff_not] at h
  exact h this
theorem zc_eq_t {x y : Int32} (h : zcnd .eq x y = true) : x = y := by simpa [zcnd] using h
theorem zc_eq_f {x y : Int32} (h : zcnd .eq x y = false) : x ≠ y := by simpa [zcnd] using h
theorem zc_ne_t {x y : Int32} (h : zcnd .ne x y = true) : x ≠ y := by simpa [zcnd] using h
theorem zc_ne_f {x y : Int32} (h : zcnd .ne x y = false) : x = y := by simpa [zcnd] using h
theorem zx_lt_t {x y : Int32} (h : zcnd .lt x y = true) : x < y := by simpa [zcnd] using h
theorem zx_lt_f {x y : Int32} (h : zcnd .lt x y = false) : ¬ x < y := by simpa only [zcnd, decide_eq_false_iff_not] using h
theorem zx_ge_t {x y : Int32} (h : zcnd .ge x y = true) : y ≤ x := by simpa [zcnd] using h
theorem zx_ge_f {x y : Int32} (h : zcnd .ge x y = false) : ¬ y ≤ x := by simpa only [zcnd, decide_eq_false_iff_not] using h
theorem zx_gt_t {x y : Int32} (h : zcnd .gt x y = true) : y < x := by simpa [zcnd] using h
theorem zx_gt_f {x y : Int32} (h : zcnd .gt x y = false) : ¬ y < x := by simpa only [zcnd, decide_eq_false_iff_not] using h
theorem zx_le_t {x y : Int32} (h : zcnd .le x y = true) : x ≤ y := by simpa [zcnd] using h
theorem zx_le_f {x y : Int32} (h : zcnd .le x y = false) : ¬ x ≤ y := by simpa only [zcnd, decide_eq_false_iff_not] using h
/-- how many of the first n -/
def zcnt (p : Nat → Bool) : Nat → Nat
  | 0 => 0
  | n + 1 => zcnt p n + (if p n then 1 else 0)
theorem zcnt_t {p : Nat → Bool} {n : Nat} (h : p n = true) : zcnt p (n + 1) = zcnt p n + 1 := by simp [zcnt, h]
theorem zcnt_f {p : Nat → Bool} {n : Nat} (h : p n = false) : zcnt p (n + 1) = zcnt p n := by simp [zcnt, h]
theorem zcnt_le (p : Nat → Bool) : ∀ n, zcnt p n ≤ n
  | 0 => Nat.le_refl _
  | n + 1 => by
    have := zcnt_le p n
    simp only [zcnt]
    split <;> omega
/-! lines: reads -/
section
variable {b : Nat} {F : Nat → Nat → Int32} {g : Nat → Nat} {h : zH}
theorem c_wordIn (hb : b + 71 ≤ h.length) (l k : Nat) (hl : l * 8 + k < 560) : zcalls zTB 11 [.ref (b + 1), .int (nI l), .int (nI k)] (nput b F g h) (some (.int (F 4 (l * 8 + k))), nput b F g h) := by
  refine zcalls_of (Nat.le_of_ble_eq_true rfl) ?_
  show zruns zTB 11 0 [some (.ref (b + 1)), some (.int (nI l)), some (.int (nI k))] [] _ _
  refine zr_aload_n (pc' := 1) zi_11_0 rfl rfl ?_
  refine zr_get (pc' := 4) zi_11_1 (nput_at hb (k := 1) rfl) rfl rfl ?_
  refine zr_iload_n (pc' := 5) zi_11_4 rfl rfl ?_
  refine zr_bipush (v := (nI 8)) (pc' := 7) zi_11_5 rfl rfl ?_
  refine zr_imul (pc' := 8) zi_11_7 (by first | exact pk_mul _ _ | rfl) rfl ?_
  refine zr_iload_n (pc' := 9) zi_11_8 rfl rfl ?_
  refine zr_iadd (pc' := 10) zi_11_9 (by first | exact nI_add _ _ | rfl) rfl ?_
  refine zr_atN (pc' := 13) (by omega) zi_11_10 hb rfl rfl (by decide) rfl rfl ?_
  exact zr_ireturn zi_11_13 rfl
theorem l_howManyOf (hb : b + 71 ≤ h.length) (t : Int32) (hn : g 1 ≤ 70) : ∀ k i, i + k = g 1 → zruns zTB 51 4 [some (.ref (b + 1)), some (.int t), some (.int (nI (zcnt (fun j => decide (F 5 j = t)) i))), some (.int (nI i))] [] (nput b F g h) (some (.int (nI (zcnt (fun j => decide (F 5 j = t)) (g 1)))), nput b F g h)
  | 0, i, hk => by
    refine zr_iload_n (pc' := 5) zi_51_4 rfl rfl ?_
    refine zr_aload_n (pc' := 6) zi_51_5 rfl rfl ?_
    refine zr_get (pc' := 9) zi_51_6 (nput_at hb (k := 1) rfl) rfl rfl ?_
    refine zr_icmp (pc' := 12) zi_51_9 rfl (fun hc => ?_) (fun hc => ?_)
    · have e : i = g 1 := by omega
      subst e
      refine zr_iload_n (pc' := 34) zi_51_33 rfl rfl ?_
      exact zr_ireturn zi_51_34 rfl
    · have := zc_ge_f (by omega) (by omega) hc
      omega
  | k + 1, i, hk => by
    have ih := l_howManyOf hb t hn k (i + 1) (by omega)
    refine zr_iload_n (pc' := 5) zi_51_4 rfl rfl ?_
    refine zr_aload_n (pc' := 6) zi_51_5 rfl rfl ?_
    refine zr_get (pc' := 9) zi_51_6 (nput_at hb (k := 1) rfl) rfl rfl ?_
    refine zr_icmp (pc' := 12) zi_51_9 rfl (fun hc => ?_) (fun hc => ?_)
    · have := zc_ge_t (by omega) (by omega) hc
      omega
    refine zr_aload_n (pc' := 13) zi_51_12 rfl rfl ?_
    refine zr_get (pc' := 16) zi_51_13 (nput_at hb (k := 1) rfl) rfl rfl ?_
    refine zr_iload_n (pc' := 17) zi_51_16 rfl rfl ?_
    refine zr_atN (pc' := 20) (by omega) zi_51_17 hb rfl rfl (by decide) rfl rfl ?_
    refine zr_iload_n (pc' := 21) zi_51_20 rfl rfl ?_
    refine zr_icmp (pc' := 24) zi_51_21 rfl (fun hd => ?_) (fun hd => ?_)
    · rw [zcnt_f (by simpa using zc_ne_t hd)] at ih
      refine zr_iinc (pc' := 30) zi_51_27 rfl (by first | exact n_inc _ | rfl) rfl rfl ?_
      dsimp only [zst1, zst2, zkill, List.set, List.getElem?_cons_succ, List.getElem?_cons_zero]
      refine zr_goto zi_51_30 ?_
      exact ih
    · rw [zcnt_t (by simpa using zc_ne_f hd)] at ih
      refine zr_iinc (pc' := 27) zi_51_24 rfl (by first | exact n_inc _ | rfl) rfl rfl ?_
      dsimp only [zst1, zst2, zkill, List.set, List.getElem?_cons_succ, List.getElem?_cons_zero]
      refine zr_iinc (pc' := 30) zi_51_27 rfl (by first | exact n_inc _ | rfl) rfl rfl ?_
      dsimp only [zst1, zst2, zkill, List.set, List.getElem?_cons_succ, List.getElem?_cons_zero]
      refine zr_goto zi_51_30 ?_
      exact ih
theorem c_howManyOf (hb : b + 71 ≤ h.length) (t : Int32) (hn : g 1 ≤ 70) : zcalls zTB 51 [.ref (b + 1), .int t] (nput b F g h) (some (.int (nI (zcnt (fun j => decide (F 5 j = t)) (g 1)))), nput b F g h) := by
  refine zcalls_of (Nat.le_of_ble_eq_true rfl) ?_
  show zruns zTB 51 0 [some (.ref (b + 1)), some (.int t), none, none] [] _ _
  refine zr_iconst (v := (nI 0)) (pc' := 1) zi_51_0 rfl rfl ?_
  refine zr_istore_n (pc' := 2) zi_51_1 (Nat.le_of_ble_eq_true rfl) rfl rfl ?_
  dsimp only [zst1, zst2, zkill, List.set, List.getElem?_cons_succ, List.getElem?_cons_zero]
  refine zr_iconst (v := (nI 0)) (pc' := 3) zi_51_2 rfl rfl ?_
  refine zr_istore_n (pc' := 4) zi_51_3 (Nat.le_of_ble_eq_true rfl) rfl rfl ?_
  dsimp only [zst1, zst2, zkill, List.set, List.getElem?_cons_succ, List.getElem?_cons_zero]
  exact l_howManyOf hb t hn (g 1) 0 (by omega)
theorem c_quotient {H : zH} (x z : Int32) : zcalls zTB 17 [.int x, .int z] H (some (.int (if z = 0 then 0 else x / z)), H) := by
  refine zcalls_of (Nat.le_of_ble_eq_true rfl) ?_
  show zruns zTB 17 0 [some (.int x), some (.int z)] [] _ _
  refine zr_iload_n (pc' := 1) zi_17_0 rfl rfl ?_
  refine zr_if (pc' := 4) zi_17_1 rfl (fun hc => ?_) (fun hc => ?_)
  · rw [if_neg (zc_ne_t hc)]
    refine zr_iload_n (pc' := 9) zi_17_8 rfl rfl ?_
    refine zr_iload_n (pc' := 10) zi_17_9 rfl rfl ?_
    refine zr_idiv (pc' := 11) zi_17_10 (zc_ne_t hc) rfl rfl ?_
    exact zr_ireturn zi_17_11 rfl
  · rw [if_pos (zc_ne_f hc)]
    refine zr_iconst (v := (nI 0)) (pc' := 5) zi_17_4 rfl rfl ?_
    refine zr_goto zi_17_5 ?_
    exact zr_ireturn zi_17_11 rfl
theorem c_isWithin {H : zH} (x z : Int32) : zcalls zTB 6 [.int x, .int z] H (some (.int (if 0 ≤ x ∧ x ≤ z then 1 else 0)), H) := by
  refine zcalls_of (Nat.le_of_ble_eq_true rfl) ?_
  show zruns zTB 6 0 [some (.int x), some (.int z)] [] _ _
  refine zr_iload_n (pc' := 1) zi_6_0 rfl rfl ?_
  refine zr_if (pc' := 4) zi_6_1 rfl (fun hc => ?_) (fun hc => ?_)
  · have := zx_lt_t hc
    rw [if_neg (fun q => absurd q.1 (Int32.not_le.mpr this))]
    refine zr_iconst (v := (nI 0)) (pc' := 14) zi_6_13 rfl rfl ?_
    exact zr_zreturn zi_6_14 rfl (by decide)
  have h0 := Int32.not_lt.mp (zx_lt_f hc)
  refine zr_iload_n (pc' := 5) zi_6_4 rfl rfl ?_
  refine zr_iload_n (pc' := 6) zi_6_5 rfl rfl ?_
  refine zr_icmp (pc' := 9) zi_6_6 rfl (fun hd => ?_) (fun hd => ?_)
  · have := zx_gt_t hd
    rw [if_neg (fun q => absurd q.2 (Int32.not_le.mpr this))]
    refine zr_iconst (v := (nI 0)) (pc' := 14) zi_6_13 rfl rfl ?_
    exact zr_zreturn zi_6_14 rfl (by decide)
  · have := Int32.not_lt.mp (zx_gt_f hd)
    rw [if_pos ⟨h0, this⟩]
    refine zr_iconst (v := (nI 1)) (pc' := 10) zi_6_9 rfl rfl ?_
    refine zr_goto zi_6_10 ?_
    exact zr_zreturn zi_6_14 rfl (by decide)
end


theorem zi_16_0 : zI 16 0 = some (.aload_n 0, []) := by decide +kernel
theorem zi_16_1 : zI 16 1 = some (.getfield 20, [5, 1, 32]) := by decide +kernel
theorem zi_16_4 : zI 16 4 = some (.iload_n 1, []) := by decide +kernel
theorem zi_16_5 : zI 16 5 = some (.bipush 8, []) := by decide +kernel
theorem zi_16_7 : zI 16 7 = some (.imul, []) := by decide +kernel
theorem zi_16_8 : zI 16 8 = some (.iload_n 2, []) := by decide +kernel
theorem zi_16_9 : zI 16 9 = some (.iadd, []) := by decide +kernel
theorem zi_16_10 : zI 16 10 = some (.invokevirtual 23, [0, 0, 1, 1, 10, 11, 12, 9, 0, 33]) := by decide +kernel
theorem zi_16_13 : zI 16 13 = some (.ireturn, []) := by decide +kernel
theorem zi_39_0 : zI 39 0 = some (.iconst 0, []) := by decide +kernel
theorem zi_39_1 : zI 39 1 = some (.istore_n 2, []) := by decide +kernel
theorem zi_39_2 : zI 39 2 = some (.iconst 0, []) := by decide +kernel
theorem zi_39_3 : zI 39 3 = some (.istore_n 3, []) := by decide +kernel
theorem zi_39_4 : zI 39 4 = some (.iload_n 3, []) := by decide +kernel
theorem zi_39_5 : zI 39 5 = some (.aload_n 0, []) := by decide +kernel
theorem zi_39_6 : zI 39 6 = some (.getfield 14, [5, 0, 134]) := by decide +kernel
theorem zi_39_9 : zI 39 9 = some (.iload_n 1, []) := by decide +kernel
theorem zi_39_10 : zI 39 10 = some (.invokevirtual 23, [0, 0, 1, 1, 10, 11, 12, 9, 0, 33]) := by decide +kernel
theorem zi_39_13 : zI 39 13 = some (.if_icmp .ge 22, [35]) := by decide +kernel
theorem zi_39_16 : zI 39 16 = some (.aload_n 0, []) := by decide +kernel
theorem zi_39_17 : zI 39 17 = some (.iload_n 1, []) := by decide +kernel
theorem zi_39_18 : zI 39 18 = some (.iload_n 3, []) := by decide +kernel
theorem zi_39_19 : zI 39 19 = some (.invokevirtual 27, [16, 0, 2, 5, 137, 138, 139, 136, 0, 135]) := by decide +kernel
theorem zi_39_22 : zI 39 22 = some (.iconst (-1), []) := by decide +kernel
theorem zi_39_23 : zI 39 23 = some (.if_icmp .ne 6, [29]) := by decide +kernel
theorem zi_39_26 : zI 39 26 = some (.iinc 2 1, []) := by decide +kernel
theorem zi_39_29 : zI 39 29 = some (.iinc 3 1, []) := by decide +kernel
theorem zi_39_32 : zI 39 32 = some (.goto (-28), [4]) := by decide +kernel
theorem zi_39_35 : zI 39 35 = some (.iload_n 2, []) := by decide +kernel
theorem zi_39_36 : zI 39 36 = some (.ireturn, []) := by decide +kernel
theorem zi_40_0 : zI 40 0 = some (.iconst 0, []) := by decide +kernel
theorem zi_40_1 : zI 40 1 = some (.istore_n 3, []) := by decide +kernel
theorem zi_40_2 : zI 40 2 = some (.iconst 0, []) := by decide +kernel
theorem zi_40_3 : zI 40 3 = some (.istore 4, []) := by decide +kernel
theorem zi_40_5 : zI 40 5 = some (.iload 4, []) := by decide +kernel
theorem zi_40_7 : zI 40 7 = some (.aload_n 0, []) := by decide +kernel
theorem zi_40_8 : zI 40 8 = some (.getfield 14, [5, 0, 134]) := by decide +kernel
theorem zi_40_11 : zI 40 11 = some (.iload_n 1, []) := by decide +kernel
theorem zi_40_12 : zI 40 12 = some (.invokevirtual 23, [0, 0, 1, 1, 10, 11, 12, 9, 0, 33]) := by decide +kernel
theorem zi_40_15 : zI 40 15 = some (.if_icmp .ge 31, [46]) := by decide +kernel
theorem zi_40_18 : zI 40 18 = some (.aload_n 0, []) := by decide +kernel
theorem zi_40_19 : zI 40 19 = some (.iload_n 1, []) := by decide +kernel
theorem zi_40_20 : zI 40 20 = some (.iload 4, []) := by decide +kernel
theorem zi_40_22 : zI 40 22 = some (.invokevirtual 27, [16, 0, 2, 5, 137, 138, 139, 136, 0, 135]) := by decide +kernel
theorem zi_40_25 : zI 40 25 = some (.iconst (-1), []) := by decide +kernel
theorem zi_40_26 : zI 40 26 = some (.if_icmp .ne 14, [40]) := by decide +kernel
theorem zi_40_29 : zI 40 29 = some (.iload_n 3, []) := by decide +kernel
theorem zi_40_30 : zI 40 30 = some (.iload_n 2, []) := by decide +kernel
theorem zi_40_31 : zI 40 31 = some (.if_icmp .ne 6, [37]) := by decide +kernel
theorem zi_40_34 : zI 40 34 = some (.iload 4, []) := by decide +kernel
theorem zi_40_36 : zI 40 36 = some (.ireturn, []) := by decide +kernel
theorem zi_40_37 : zI 40 37 = some (.iinc 3 1, []) := by decide +kernel
theorem zi_40_40 : zI 40 40 = some (.iinc 4 1, []) := by decide +kernel
theorem zi_40_43 : zI 40 43 = some (.goto (-38), [5]) := by decide +kernel
theorem zi_40_46 : zI 40 46 = some (.iconst (-1), []) := by decide +kernel
theorem zi_40_47 : zI 40 47 = some (.ireturn, []) := by decide +kernel
theorem zi_41_0 : zI 41 0 = some (.aload_n 0, []) := by decide +kernel
theorem zi_41_1 : zI 41 1 = some (.getfield 14, [5, 0, 134]) := by decide +kernel
theorem zi_41_4 : zI 41 4 = some (.iload_n 3, []) := by decide +kernel
theorem zi_41_5 : zI 41 5 = some (.invokevirtual 23, [0, 0, 1, 1, 10, 11, 12, 9, 0, 33]) := by decide +kernel
theorem zi_41_8 : zI 41 8 = some (.istore 4, []) := by decide +kernel
theorem zi_41_10 : zI 41 10 = some (.aload_n 1, []) := by decide +kernel
theorem zi_41_11 : zI 41 11 = some (.getfield 31, [0, 3, 140]) := by decide +kernel
theorem zi_41_14 : zI 41 14 = some (.iload_n 2, []) := by decide +kernel
theorem zi_41_15 : zI 41 15 = some (.invokevirtual 23, [0, 0, 1, 1, 10, 11, 12, 9, 0, 33]) := by decide +kernel
theorem zi_41_18 : zI 41 18 = some (.iload 4, []) := by decide +kernel
theorem zi_41_20 : zI 41 20 = some (.if_icmp .eq 5, [25]) := by decide +kernel
theorem zi_41_23 : zI 41 23 = some (.iconst (-1), []) := by decide +kernel
theorem zi_41_24 : zI 41 24 = some (.ireturn, []) := by decide +kernel
theorem zi_41_25 : zI 41 25 = some (.iconst 0, []) := by decide +kernel
theorem zi_41_26 : zI 41 26 = some (.istore 5, []) := by decide +kernel
theorem zi_41_28 : zI 41 28 = some (.iconst 0, []) := by decide +kernel
theorem zi_41_29 : zI 41 29 = some (.istore 6, []) := by decide +kernel
theorem zi_41_31 : zI 41 31 = some (.iload 6, []) := by decide +kernel
theorem zi_41_33 : zI 41 33 = some (.iload 4, []) := by decide +kernel
theorem zi_41_35 : zI 41 35 = some (.if_icmp .ge 29, [64]) := by decide +kernel
theorem zi_41_38 : zI 41 38 = some (.aload_n 1, []) := by decide +kernel
theorem zi_41_39 : zI 41 39 = some (.iload_n 2, []) := by decide +kernel
theorem zi_41_40 : zI 41 40 = some (.iload 6, []) := by decide +kernel
theorem zi_41_42 : zI 41 42 = some (.invokevirtual 34, [8, 0, 2, 0, 143, 144, 53, 142, 0, 141]) := by decide +kernel
theorem zi_41_45 : zI 41 45 = some (.aload_n 0, []) := by decide +kernel
theorem zi_41_46 : zI 41 46 = some (.iload_n 3, []) := by decide +kernel
theorem zi_41_47 : zI 41 47 = some (.iload 6, []) := by decide +kernel
theorem zi_41_49 : zI 41 49 = some (.invokevirtual 27, [16, 0, 2, 5, 137, 138, 139, 136, 0, 135]) := by decide +kernel
theorem zi_41_52 : zI 41 52 = some (.if_icmp .ne 6, [58]) := by decide +kernel
theorem zi_41_55 : zI 41 55 = some (.iinc 5 1, []) := by decide +kernel
theorem zi_41_58 : zI 41 58 = some (.iinc 6 1, []) := by decide +kernel
theorem zi_41_61 : zI 41 61 = some (.goto (-30), [31]) := by decide +kernel
theorem zi_41_64 : zI 41 64 = some (.iload 5, []) := by decide +kernel
theorem zi_41_66 : zI 41 66 = some (.ireturn, []) := by decide +kernel
/-! templates -/
theorem zcnt_zero {p : Nat → Bool} : ∀ {n : Nat}, zcnt p n = 0 → ∀ j, j < n → p j = false
  | 0, _, j, hj => absurd hj (by omega)
  | n + 1, h, j, hj => by
    cases hp : p n with
    | true => rw [zcnt_t hp] at h; omega
    | false =>
      rw [zcnt_f hp] at h
      rcases Nat.lt_or_ge j n with q | q
      · exact zcnt_zero h j q
      · exact (show j = n by omega) ▸ hp
theorem zcnt_ext {p q : Nat → Bool} : ∀ {n : Nat}, (∀ j, j < n → p j = q j) → zcnt p n = zcnt q n
  | 0, _ => rfl
  | n + 1, h => by
    simp only [zcnt]
    rw [zcnt_ext (n := n) fun j hj => h j (by omega), h n (by omega)]
theorem zcnt_mono {p : Nat → Bool} {m : Nat} : ∀ {n : Nat}, m ≤ n → zcnt p m ≤ zcnt p n
  | 0, h => by rw [show m = 0 by omega]; exact Nat.le_refl _
  | n + 1, h => by
    rcases Nat.lt_or_ge n m with q | q
    · rw [show m = n + 1 by omega]; exact Nat.le_refl _
    · refine Nat.le_trans (zcnt_mono (n := n) q) ?_
      simp only [zcnt]
      omega
theorem zcnt_imp {p q : Nat → Bool} : ∀ {n : Nat}, (∀ j, j < n → p j = true → q j = true) → zcnt p n ≤ zcnt q n
  | 0, _ => Nat.le_refl _
  | n + 1, h => by
    have ih := zcnt_imp (n := n) fun j hj => h j (by omega)
    cases hp : p n with
    | true => rw [zcnt_t hp, zcnt_t (h n (by omega) hp)]; omega
    | false => rw [zcnt_f hp]; simp only [zcnt]; omega
theorem nI_neg {a : Nat} (ha : a < 2 ^ 31) : nI a ≠ -1 := fun q => nI_pos ha (by rw [q]; decide)
theorem nI_n1 {a : Nat} (ha : a < 2 ^ 31) : -1 < nI a := Int32.lt_of_lt_of_le (by decide : (-1 : Int32) < 0) (nI_pos' ha)
theorem rat_neg {n : Nat} {f : Nat → Int32} : rat n f (-1) = -1 := by
  unfold rat
  rw [if_pos (.inl (by decide))]
theorem nI_m1 {a c : Nat} (ha : a < 1000) (hc : c < 1000) : nI a - 1 ≤ nI c - 1 ↔ a ≤ c := by
  have h1 := pk_sub_toInt (a := a) (b := 1) (by omega) (by omega)
  have h2 := pk_sub_toInt (a := c) (b := 1) (by omega) (by omega)
  rw [Int32.le_iff_toInt_le]
  rw [show nI a - 1 = nI a - nI 1 from rfl, show nI c - 1 = nI c - nI 1 from rfl, h1, h2]
  omega
theorem updR_ne {F : Nat → Nat → Int32} {r q : Nat} {f : Nat → Int32} (h : q ≠ r) : updR F r f q = F q := if_neg h
theorem updR_eq {F : Nat → Nat → Int32} {r : Nat} {f : Nat → Int32} : updR F r f r = f := if_pos rfl
section
variable {b : Nat} {F : Nat → Nat → Int32} {g : Nat → Nat} {h : zH}
theorem c_slotIn (hb : b + 71 ≤ h.length) (t p : Nat) (ht : t * 8 + p < 160) : zcalls zTB 16 [.ref (b + 16), .int (nI t), .int (nI p)] (nput b F g h) (some (.int (F 8 (t * 8 + p))), nput b F g h) := by
  refine zcalls_of (Nat.le_of_ble_eq_true rfl) ?_
  show zruns zTB 16 0 [some (.ref (b + 16)), some (.int (nI t)), some (.int (nI p))] [] _ _
  refine zr_aload_n (pc' := 1) zi_16_0 rfl rfl ?_
  refine zr_get (pc' := 4) zi_16_1 (nput_at hb (k := 16) rfl) rfl rfl ?_
  refine zr_iload_n (pc' := 5) zi_16_4 rfl rfl ?_
  refine zr_bipush (v := (nI 8)) (pc' := 7) zi_16_5 rfl rfl ?_
  refine zr_imul (pc' := 8) zi_16_7 (by first | exact pk_mul _ _ | rfl) rfl ?_
  refine zr_iload_n (pc' := 9) zi_16_8 rfl rfl ?_
  refine zr_iadd (pc' := 10) zi_16_9 (by first | exact nI_add _ _ | rfl) rfl ?_
  refine zr_atN (pc' := 13) (by omega) zi_16_10 hb rfl rfl (by decide) rfl rfl ?_
  exact zr_ireturn zi_16_13 rfl
/-- the holes of a template ahead of a place -/
def zhol (F : Nat → Nat → Int32) (t : Nat) : Nat → Nat := zcnt fun p => decide (F 8 (t * 8 + p) = -1)
theorem zhol_t {t p : Nat} (e : F 8 (t * 8 + p) = -1) : zhol F t (p + 1) = zhol F t p + 1 := zcnt_t (by simpa using e)
theorem zhol_f {t p : Nat} (e : F 8 (t * 8 + p) ≠ -1) : zhol F t (p + 1) = zhol F t p := zcnt_f (by simpa using e)
theorem l_howManyHoles (hb : b + 71 ≤ h.length) (t a : Nat) (ht : t < 20) (hs : F 7 t = nI a) (ha : a ≤ 8) (p : Nat) (hp : p ≤ a) : zruns zTB 39 4 [some (.ref (b + 16)), some (.int (nI t)), some (.int (nI (zhol F t p))), some (.int (nI p))] [] (nput b F g h) (some (.int (nI (zhol F t a))), nput b F g h) := by
  refine zr_iload_n (pc' := 5) zi_39_4 rfl rfl ?_
  refine zr_aload_n (pc' := 6) zi_39_5 rfl rfl ?_
  refine zr_get (pc' := 9) zi_39_6 (nput_at hb (k := 16) rfl) rfl rfl ?_
  refine zr_iload_n (pc' := 10) zi_39_9 rfl rfl ?_
  refine zr_atN (pc' := 13) (by omega) zi_39_10 hb rfl rfl (by decide) rfl rfl ?_
  rw [hs]
  refine zr_icmp (pc' := 16) zi_39_13 rfl (fun h13 => ?_) (fun h13 => ?_)
  · replace h13 := zc_ge_t (by omega) (by omega) h13
    refine zr_iload_n (pc' := 36) zi_39_35 rfl rfl ?_
    rw [show a = p by omega]
    exact zr_ireturn zi_39_36 rfl
  · replace h13 := zc_ge_f (by omega) (by omega) h13
    refine zr_aload_n (pc' := 17) zi_39_16 rfl rfl ?_
    refine zr_iload_n (pc' := 18) zi_39_17 rfl rfl ?_
    refine zr_iload_n (pc' := 19) zi_39_18 rfl rfl ?_
    refine zr_v2 (pc' := 22) zi_39_19 (nput_at hb (k := 16) rfl) rfl (c_slotIn hb _ _ (by omega)) rfl ?_
    refine zr_iconst (v := (-1)) (pc' := 23) zi_39_22 rfl rfl ?_
    refine zr_icmp (pc' := 26) zi_39_23 rfl (fun h23 => ?_) (fun h23 => ?_)
    · replace h23 := zc_ne_t h23
      refine zr_iinc (pc' := 32) zi_39_29 rfl (by first | exact n_inc _ | rfl) rfl rfl ?_
      dsimp only [zst1, zst2, zkill, List.set, List.getElem?_cons_succ, List.getElem?_cons_zero]
      refine zr_goto zi_39_32 ?_
      have ih := l_howManyHoles hb t a ht hs ha (p + 1) (by omega)
      rw [zhol_f h23] at ih
      exact ih
    · replace h23 := zc_ne_f h23
      refine zr_iinc (pc' := 29) zi_39_26 rfl (by first | exact n_inc _ | rfl) rfl rfl ?_
      dsimp only [zst1, zst2, zkill, List.set, List.getElem?_cons_succ, List.getElem?_cons_zero]
      refine zr_iinc (pc' := 32) zi_39_29 rfl (by first | exact n_inc _ | rfl) rfl rfl ?_
      dsimp only [zst1, zst2, zkill, List.set, List.getElem?_cons_succ, List.getElem?_cons_zero]
      refine zr_goto zi_39_32 ?_
      have ih := l_howManyHoles hb t a ht hs ha (p + 1) (by omega)
      rw [zhol_t h23] at ih
      exact ih
termination_by a - p
theorem c_howManyHoles (hb : b + 71 ≤ h.length) (t a : Nat) (ht : t < 20) (hs : F 7 t = nI a) (ha : a ≤ 8) : zcalls zTB 39 [.ref (b + 16), .int (nI t)] (nput b F g h) (some (.int (nI (zhol F t a))), nput b F g h) := by
  refine zcalls_of (Nat.le_of_ble_eq_true rfl) ?_
  show zruns zTB 39 0 [some (.ref (b + 16)), some (.int (nI t)), none, none] [] _ _
  refine zr_iconst (v := (nI 0)) (pc' := 1) zi_39_0 rfl rfl ?_
  refine zr_istore_n (pc' := 2) zi_39_1 (Nat.le_of_ble_eq_true rfl) rfl rfl ?_
  dsimp only [zst1, zst2, zkill, List.set, List.getElem?_cons_succ, List.getElem?_cons_zero]
  refine zr_iconst (v := (nI 0)) (pc' := 3) zi_39_2 rfl rfl ?_
  refine zr_istore_n (pc' := 4) zi_39_3 (Nat.le_of_ble_eq_true rfl) rfl rfl ?_
  dsimp only [zst1, zst2, zkill, List.set, List.getElem?_cons_succ, List.getElem?_cons_zero]
  exact l_howManyHoles hb t a ht hs ha 0 (by omega)
/-- the place of hole q -/
def zpla (F : Nat → Nat → Int32) (t a q : Nat) (r : Int32) : Prop := (r = -1 ∧ zhol F t a ≤ q) ∨ ∃ p, p < a ∧ r = nI p ∧ F 8 (t * 8 + p) = -1 ∧ zhol F t p = q
theorem l_placeOfHole (hb : b + 71 ≤ h.length) (t a q : Nat) (ht : t < 20) (hs : F 7 t = nI a) (ha : a ≤ 8) (hq : q < 1000) (p : Nat) (hp : p ≤ a) (hpq : zhol F t p ≤ q) : zev 40 5 [some (.ref (b + 16)), some (.int (nI t)), some (.int (nI q)), some (.int (nI (zhol F t p))), some (.int (nI p))] [] (nput b F g h) (zQi (nput b F g h) (zpla F t a q)) := by
  refine zev_of (fun _ kk => zr_iload (pc' := 7) zi_40_5 rfl rfl kk) ?_
  refine zev_of (fun _ kk => zr_aload_n (pc' := 8) zi_40_7 rfl rfl kk) ?_
  refine zev_of (fun _ kk => zr_get (pc' := 11) zi_40_8 (nput_at hb (k := 16) rfl) rfl rfl kk) ?_
  refine zev_of (fun _ kk => zr_iload_n (pc' := 12) zi_40_11 rfl rfl kk) ?_
  refine zev_of (fun _ kk => zr_atN (pc' := 15) (by omega) zi_40_12 hb rfl rfl (by decide) rfl rfl kk) ?_
  rw [hs]
  refine zv_icmp (pc' := 18) zi_40_15 rfl (fun h15 => ?_) (fun h15 => ?_)
  · replace h15 := zc_ge_t (by omega) (by omega) h15
    refine zev_of (fun _ kk => zr_iconst (v := (-1)) (pc' := 47) zi_40_46 rfl rfl kk) ?_
    refine zev_ret (zr_ireturn zi_40_47 rfl) ?_
    refine ⟨_, .inl ⟨rfl, ?_⟩, rfl⟩
    rw [show a = p by omega]
    exact hpq
  · replace h15 := zc_ge_f (by omega) (by omega) h15
    refine zev_of (fun _ kk => zr_aload_n (pc' := 19) zi_40_18 rfl rfl kk) ?_
    refine zev_of (fun _ kk => zr_iload_n (pc' := 20) zi_40_19 rfl rfl kk) ?_
    refine zev_of (fun _ kk => zr_iload (pc' := 22) zi_40_20 rfl rfl kk) ?_
    refine zev_of (fun _ kk => zr_v2 (pc' := 25) zi_40_22 (nput_at hb (k := 16) rfl) rfl (c_slotIn hb _ _ (by omega)) rfl kk) ?_
    refine zev_of (fun _ kk => zr_iconst (v := (-1)) (pc' := 26) zi_40_25 rfl rfl kk) ?_
    refine zv_icmp (pc' := 29) zi_40_26 rfl (fun h26 => ?_) (fun h26 => ?_)
    · replace h26 := zc_ne_t h26
      refine zev_of (fun _ kk => zr_iinc (pc' := 43) zi_40_40 rfl (by first | exact n_inc _ | rfl) rfl rfl kk) ?_
      dsimp only [zst1, zst2, zkill, List.set, List.getElem?_cons_succ, List.getElem?_cons_zero]
      refine zev_of (fun _ kk => zr_goto zi_40_43 kk) ?_
      have ih := l_placeOfHole hb t a q ht hs ha hq (p + 1) (by omega)
      rw [zhol_f h26] at ih
      exact ih hpq
    · replace h26 := zc_ne_f h26
      refine zev_of (fun _ kk => zr_iload_n (pc' := 30) zi_40_29 rfl rfl kk) ?_
      refine zev_of (fun _ kk => zr_iload_n (pc' := 31) zi_40_30 rfl rfl kk) ?_
      refine zv_icmp (pc' := 34) zi_40_31 rfl (fun h31 => ?_) (fun h31 => ?_)
      · replace h31 := zc_ne_t h31
        refine zev_of (fun _ kk => zr_iinc (pc' := 40) zi_40_37 rfl (by first | exact n_inc _ | rfl) rfl rfl kk) ?_
        dsimp only [zst1, zst2, zkill, List.set, List.getElem?_cons_succ, List.getElem?_cons_zero]
        refine zev_of (fun _ kk => zr_iinc (pc' := 43) zi_40_40 rfl (by first | exact n_inc _ | rfl) rfl rfl kk) ?_
        dsimp only [zst1, zst2, zkill, List.set, List.getElem?_cons_succ, List.getElem?_cons_zero]
        refine zev_of (fun _ kk => zr_goto zi_40_43 kk) ?_
        have ih := l_placeOfHole hb t a q ht hs ha hq (p + 1) (by omega)
        rw [zhol_t h26] at ih
        have hz : zhol F t p ≤ p := zcnt_le _ _
        have : zhol F t p ≠ q := fun e => h31 (by rw [e])
        exact ih (by omega)
      · replace h31 := zc_ne_f h31
        refine zev_of (fun _ kk => zr_iload (pc' := 36) zi_40_34 rfl rfl kk) ?_
        refine zev_ret (zr_ireturn zi_40_36 rfl) ?_
        have hz : zhol F t p ≤ p := zcnt_le _ _
        exact ⟨_, .inr ⟨p, by omega, rfl, h26, (nI_eq (by omega) (by omega)).mp h31⟩, rfl⟩
termination_by a - p
theorem c_placeOfHole (hb : b + 71 ≤ h.length) (t a q : Nat) (ht : t < 20) (hs : F 7 t = nI a) (ha : a ≤ 8) (hq : q < 1000) : ∃ r, zpla F t a q r ∧ zcalls zTB 40 [.ref (b + 16), .int (nI t), .int (nI q)] (nput b F g h) (some (.int r), nput b F g h) := by
  refine zQi_out (zev_calls (Nat.le_of_ble_eq_true rfl) ?_)
  show zev 40 0 [some (.ref (b + 16)), some (.int (nI t)), some (.int (nI q)), none, none] [] _ _
  refine zev_of (fun _ kk => zr_iconst (v := (nI 0)) (pc' := 1) zi_40_0 rfl rfl kk) ?_
  refine zev_of (fun _ kk => zr_istore_n (pc' := 2) zi_40_1 (Nat.le_of_ble_eq_true rfl) rfl rfl kk) ?_
  dsimp only [zst1, zst2, zkill, List.set, List.getElem?_cons_succ, List.getElem?_cons_zero]
  refine zev_of (fun _ kk => zr_iconst (v := (nI 0)) (pc' := 3) zi_40_2 rfl rfl kk) ?_
  refine zev_of (fun _ kk => zr_istore (pc' := 5) zi_40_3 (Nat.le_of_ble_eq_true rfl) rfl rfl kk) ?_
  dsimp only [zst1, zst2, zkill, List.set, List.getElem?_cons_succ, List.getElem?_cons_zero]
  exact l_placeOfHole hb t a q ht hs ha hq 0 (by omega) (by exact Nat.zero_le _)
theorem c_placeOfNone (hb : b + 71 ≤ h.length) (q : Int32) : zcalls zTB 40 [.ref (b + 16), .int (-1), .int q] (nput b F g h) (some (.int (-1)), nput b F g h) := by
  refine zcalls_of (Nat.le_of_ble_eq_true rfl) ?_
  show zruns zTB 40 0 [some (.ref (b + 16)), some (.int (-1)), some (.int q), none, none] [] _ _
  refine zr_iconst (v := (nI 0)) (pc' := 1) zi_40_0 rfl rfl ?_
  refine zr_istore_n (pc' := 2) zi_40_1 (Nat.le_of_ble_eq_true rfl) rfl rfl ?_
  dsimp only [zst1, zst2, zkill, List.set, List.getElem?_cons_succ, List.getElem?_cons_zero]
  refine zr_iconst (v := (nI 0)) (pc' := 3) zi_40_2 rfl rfl ?_
  refine zr_istore (pc' := 5) zi_40_3 (Nat.le_of_ble_eq_true rfl) rfl rfl ?_
  dsimp only [zst1, zst2, zkill, List.set, List.getElem?_cons_succ, List.getElem?_cons_zero]
  refine zr_iload (pc' := 7) zi_40_5 rfl rfl ?_
  refine zr_aload_n (pc' := 8) zi_40_7 rfl rfl ?_
  refine zr_get (pc' := 11) zi_40_8 (nput_at hb (k := 16) rfl) rfl rfl ?_
  refine zr_iload_n (pc' := 12) zi_40_11 rfl rfl ?_
  refine zr_at (pc' := 15) zi_40_12 hb rfl rfl (by decide) rfl rfl ?_
  rw [rat_neg]
  refine zr_icmp (pc' := 18) zi_40_15 rfl (fun h15 => ?_) (fun h15 => ?_)
  · replace h15 := zx_ge_t h15
    refine zr_iconst (v := (-1)) (pc' := 47) zi_40_46 rfl rfl ?_
    exact zr_ireturn zi_40_47 rfl
  · replace h15 := zx_ge_f h15
    exact absurd h15 (by decide)
/-- at how many places a line has the word of a template -/
def zsm (F : Nat → Nat → Int32) (l t : Nat) : Nat → Nat := zcnt fun p => decide (F 4 (l * 8 + p) = F 8 (t * 8 + p))
theorem zsm_t {l t p : Nat} (e : F 4 (l * 8 + p) = F 8 (t * 8 + p)) : zsm F l t (p + 1) = zsm F l t p + 1 := zcnt_t (by simpa using e)
theorem zsm_f {l t p : Nat} (e : F 4 (l * 8 + p) ≠ F 8 (t * 8 + p)) : zsm F l t (p + 1) = zsm F l t p := zcnt_f (by simpa using e)
/-- likeness and 1 -/
def zak (F : Nat → Nat → Int32) (l t : Nat) : Nat := if F 3 l = F 7 t then zsm F l t (F 7 t).toNatClampNeg + 1 else 0
theorem l_likeness (hb : b + 71 ≤ h.length) (l t a : Nat) (hl : l < 70) (ht : t < 20) (ha : a ≤ 8) (p : Nat) (hp : p ≤ a) : zruns zTB 41 31 [some (.ref (b + 16)), some (.ref (b + 1)), some (.int (nI l)), some (.int (nI t)), some (.int (nI a)), some (.int (nI (zsm F l t p))), some (.int (nI p))] [] (nput b F g h) (some (.int (nI (zsm F l t a))), nput b F g h) := by
  refine zr_iload (pc' := 33) zi_41_31 rfl rfl ?_
  refine zr_iload (pc' := 35) zi_41_33 rfl rfl ?_
  refine zr_icmp (pc' := 38) zi_41_35 rfl (fun h35 => ?_) (fun h35 => ?_)
  · replace h35 := zc_ge_t (by omega) (by omega) h35
    refine zr_iload (pc' := 66) zi_41_64 rfl rfl ?_
    rw [show a = p by omega]
    exact zr_ireturn zi_41_66 rfl
  · replace h35 := zc_ge_f (by omega) (by omega) h35
    refine zr_aload_n (pc' := 39) zi_41_38 rfl rfl ?_
    refine zr_iload_n (pc' := 40) zi_41_39 rfl rfl ?_
    refine zr_iload (pc' := 42) zi_41_40 rfl rfl ?_
    refine zr_v2 (pc' := 45) zi_41_42 (nput_at hb (k := 1) rfl) rfl (c_wordIn hb _ _ (by omega)) rfl ?_
    refine zr_aload_n (pc' := 46) zi_41_45 rfl rfl ?_
    refine zr_iload_n (pc' := 47) zi_41_46 rfl rfl ?_
    refine zr_iload (pc' := 49) zi_41_47 rfl rfl ?_
    refine zr_v2 (pc' := 52) zi_41_49 (nput_at hb (k := 16) rfl) rfl (c_slotIn hb _ _ (by omega)) rfl ?_
    refine zr_icmp (pc' := 55) zi_41_52 rfl (fun h52 => ?_) (fun h52 => ?_)
    · replace h52 := zc_ne_t h52
      refine zr_iinc (pc' := 61) zi_41_58 rfl (by first | exact n_inc _ | rfl) rfl rfl ?_
      dsimp only [zst1, zst2, zkill, List.set, List.getElem?_cons_succ, List.getElem?_cons_zero]
      refine zr_goto zi_41_61 ?_
      have ih := l_likeness hb l t a hl ht ha (p + 1) (by omega)
      rw [zsm_f h52] at ih
      exact ih
    · replace h52 := zc_ne_f h52
      refine zr_iinc (pc' := 58) zi_41_55 rfl (by first | exact n_inc _ | rfl) rfl rfl ?_
      dsimp only [zst1, zst2, zkill, List.set, List.getElem?_cons_succ, List.getElem?_cons_zero]
      refine zr_iinc (pc' := 61) zi_41_58 rfl (by first | exact n_inc _ | rfl) rfl rfl ?_
      dsimp only [zst1, zst2, zkill, List.set, List.getElem?_cons_succ, List.getElem?_cons_zero]
      refine zr_goto zi_41_61 ?_
      have ih := l_likeness hb l t a hl ht ha (p + 1) (by omega)
      rw [zsm_t h52] at ih
      exact ih
termination_by a - p
theorem c_likeness (hb : b + 71 ≤ h.length) (l t a : Nat) (hl : l < 70) (ht : t < 20) (hs : F 7 t = nI a) (ha : a ≤ 8) : zcalls zTB 41 [.ref (b + 16), .ref (b + 1), .int (nI l), .int (nI t)] (nput b F g h) (some (.int (nI (zak F l t) - 1)), nput b F g h) := by
  refine zcalls_of (Nat.le_of_ble_eq_true rfl) ?_
  show zruns zTB 41 0 [some (.ref (b + 16)), some (.ref (b + 1)), some (.int (nI l)), some (.int (nI t)), none, none, none] [] _ _
  refine zr_aload_n (pc' := 1) zi_41_0 rfl rfl ?_
  refine zr_get (pc' := 4) zi_41_1 (nput_at hb (k := 16) rfl) rfl rfl ?_
  refine zr_iload_n (pc' := 5) zi_41_4 rfl rfl ?_
  refine zr_atN (pc' := 8) (by omega) zi_41_5 hb rfl rfl (by decide) rfl rfl ?_
  refine zr_istore (pc' := 10) zi_41_8 (Nat.le_of_ble_eq_true rfl) rfl rfl ?_
  dsimp only [zst1, zst2, zkill, List.set, List.getElem?_cons_succ, List.getElem?_cons_zero]
  refine zr_aload_n (pc' := 11) zi_41_10 rfl rfl ?_
  refine zr_get (pc' := 14) zi_41_11 (nput_at hb (k := 1) rfl) rfl rfl ?_
  refine zr_iload_n (pc' := 15) zi_41_14 rfl rfl ?_
  refine zr_atN (pc' := 18) (by omega) zi_41_15 hb rfl rfl (by decide) rfl rfl ?_
  refine zr_iload (pc' := 20) zi_41_18 rfl rfl ?_
  refine zr_icmp (pc' := 23) zi_41_20 rfl (fun h20 => ?_) (fun h20 => ?_)
  · replace h20 := zc_eq_t h20
    refine zr_iconst (v := (nI 0)) (pc' := 26) zi_41_25 rfl rfl ?_
    refine zr_istore (pc' := 28) zi_41_26 (Nat.le_of_ble_eq_true rfl) rfl rfl ?_
    dsimp only [zst1, zst2, zkill, List.set, List.getElem?_cons_succ, List.getElem?_cons_zero]
    refine zr_iconst (v := (nI 0)) (pc' := 29) zi_41_28 rfl rfl ?_
    refine zr_istore (pc' := 31) zi_41_29 (Nat.le_of_ble_eq_true rfl) rfl rfl ?_
    dsimp only [zst1, zst2, zkill, List.set, List.getElem?_cons_succ, List.getElem?_cons_zero]
    rw [zak, if_pos h20, hs, nI_clamp (by omega), nI_pred]
    exact l_likeness hb l t a hl ht ha 0 (by omega)
  · replace h20 := zc_eq_f h20
    refine zr_iconst (v := (-1)) (pc' := 24) zi_41_23 rfl rfl ?_
    rw [zak, if_neg h20]
    rw [show nI 0 - 1 = (-1 : Int32) from rfl]
    exact zr_ireturn zi_41_24 rfl
end


theorem zi_19_0 : zI 19 0 = some (.aload_n 0, []) := by decide +kernel
theorem zi_19_1 : zI 19 1 = some (.getfield 20, [5, 1, 119]) := by decide +kernel
theorem zi_19_4 : zI 19 4 = some (.iload_n 1, []) := by decide +kernel
theorem zi_19_5 : zI 19 5 = some (.bipush 8, []) := by decide +kernel
theorem zi_19_7 : zI 19 7 = some (.imul, []) := by decide +kernel
theorem zi_19_8 : zI 19 8 = some (.iload_n 2, []) := by decide +kernel
theorem zi_19_9 : zI 19 9 = some (.iadd, []) := by decide +kernel
theorem zi_19_10 : zI 19 10 = some (.invokevirtual 23, [0, 0, 1, 1, 17, 18, 19, 16, 0, 120]) := by decide +kernel
theorem zi_19_13 : zI 19 13 = some (.ireturn, []) := by decide +kernel
theorem zi_37_0 : zI 37 0 = some (.iconst 0, []) := by decide +kernel
theorem zi_37_1 : zI 37 1 = some (.istore_n 2, []) := by decide +kernel
theorem zi_37_2 : zI 37 2 = some (.iconst 0, []) := by decide +kernel
theorem zi_37_3 : zI 37 3 = some (.istore_n 3, []) := by decide +kernel
theorem zi_37_4 : zI 37 4 = some (.iload_n 3, []) := by decide +kernel
theorem zi_37_5 : zI 37 5 = some (.aload_n 0, []) := by decide +kernel
theorem zi_37_6 : zI 37 6 = some (.getfield 14, [5, 0, 206]) := by decide +kernel
theorem zi_37_9 : zI 37 9 = some (.iload_n 1, []) := by decide +kernel
theorem zi_37_10 : zI 37 10 = some (.invokevirtual 23, [0, 0, 1, 1, 17, 18, 19, 16, 0, 120]) := by decide +kernel
theorem zi_37_13 : zI 37 13 = some (.if_icmp .ge 22, [35]) := by decide +kernel
theorem zi_37_16 : zI 37 16 = some (.aload_n 0, []) := by decide +kernel
theorem zi_37_17 : zI 37 17 = some (.iload_n 1, []) := by decide +kernel
theorem zi_37_18 : zI 37 18 = some (.iload_n 3, []) := by decide +kernel
theorem zi_37_19 : zI 37 19 = some (.invokevirtual 27, [19, 0, 2, 5, 209, 210, 86, 208, 0, 207]) := by decide +kernel
theorem zi_37_22 : zI 37 22 = some (.iconst (-1), []) := by decide +kernel
theorem zi_37_23 : zI 37 23 = some (.if_icmp .ne 6, [29]) := by decide +kernel
theorem zi_37_26 : zI 37 26 = some (.iinc 2 1, []) := by decide +kernel
theorem zi_37_29 : zI 37 29 = some (.iinc 3 1, []) := by decide +kernel
theorem zi_37_32 : zI 37 32 = some (.goto (-28), [4]) := by decide +kernel
theorem zi_37_35 : zI 37 35 = some (.iload_n 2, []) := by decide +kernel
theorem zi_37_36 : zI 37 36 = some (.ireturn, []) := by decide +kernel
theorem zi_38_0 : zI 38 0 = some (.iconst 0, []) := by decide +kernel
theorem zi_38_1 : zI 38 1 = some (.istore_n 3, []) := by decide +kernel
theorem zi_38_2 : zI 38 2 = some (.iconst 0, []) := by decide +kernel
theorem zi_38_3 : zI 38 3 = some (.istore 4, []) := by decide +kernel
theorem zi_38_5 : zI 38 5 = some (.iload 4, []) := by decide +kernel
theorem zi_38_7 : zI 38 7 = some (.aload_n 0, []) := by decide +kernel
theorem zi_38_8 : zI 38 8 = some (.getfield 14, [5, 0, 206]) := by decide +kernel
theorem zi_38_11 : zI 38 11 = some (.iload_n 1, []) := by decide +kernel
theorem zi_38_12 : zI 38 12 = some (.invokevirtual 23, [0, 0, 1, 1, 17, 18, 19, 16, 0, 120]) := by decide +kernel
theorem zi_38_15 : zI 38 15 = some (.if_icmp .ge 31, [46]) := by decide +kernel
theorem zi_38_18 : zI 38 18 = some (.aload_n 0, []) := by decide +kernel
theorem zi_38_19 : zI 38 19 = some (.iload_n 1, []) := by decide +kernel
theorem zi_38_20 : zI 38 20 = some (.iload 4, []) := by decide +kernel
theorem zi_38_22 : zI 38 22 = some (.invokevirtual 27, [19, 0, 2, 5, 209, 210, 86, 208, 0, 207]) := by decide +kernel
theorem zi_38_25 : zI 38 25 = some (.iconst (-1), []) := by decide +kernel
theorem zi_38_26 : zI 38 26 = some (.if_icmp .ne 14, [40]) := by decide +kernel
theorem zi_38_29 : zI 38 29 = some (.iload_n 3, []) := by decide +kernel
theorem zi_38_30 : zI 38 30 = some (.iload_n 2, []) := by decide +kernel
theorem zi_38_31 : zI 38 31 = some (.if_icmp .ne 6, [37]) := by decide +kernel
theorem zi_38_34 : zI 38 34 = some (.iload 4, []) := by decide +kernel
theorem zi_38_36 : zI 38 36 = some (.ireturn, []) := by decide +kernel
theorem zi_38_37 : zI 38 37 = some (.iinc 3 1, []) := by decide +kernel
theorem zi_38_40 : zI 38 40 = some (.iinc 4 1, []) := by decide +kernel
theorem zi_38_43 : zI 38 43 = some (.goto (-38), [5]) := by decide +kernel
theorem zi_38_46 : zI 38 46 = some (.iconst (-1), []) := by decide +kernel
theorem zi_38_47 : zI 38 47 = some (.ireturn, []) := by decide +kernel
theorem zi_39_0 : zI 39 0 = some (.aload_n 0, []) := by decide +kernel
theorem zi_39_1 : zI 39 1 = some (.getfield 14, [5, 0, 206]) := by decide +kernel
theorem zi_39_4 : zI 39 4 = some (.iload_n 3, []) := by decide +kernel
theorem zi_39_5 : zI 39 5 = some (.invokevirtual 23, [0, 0, 1, 1, 17, 18, 19, 16, 0, 120]) := by decide +kernel
theorem zi_39_8 : zI 39 8 = some (.istore 4, []) := by decide +kernel
theorem zi_39_10 : zI 39 10 = some (.aload_n 1, []) := by decide +kernel
theorem zi_39_11 : zI 39 11 = some (.getfield 31, [0, 3, 211]) := by decide +kernel
theorem zi_39_14 : zI 39 14 = some (.iload_n 2, []) := by decide +kernel
theorem zi_39_15 : zI 39 15 = some (.invokevirtual 23, [0, 0, 1, 1, 17, 18, 19, 16, 0, 120]) := by decide +kernel
theorem zi_39_18 : zI 39 18 = some (.iload 4, []) := by decide +kernel
theorem zi_39_20 : zI 39 20 = some (.if_icmp .eq 5, [25]) := by decide +kernel
theorem zi_39_23 : zI 39 23 = some (.iconst (-1), []) := by decide +kernel
theorem zi_39_24 : zI 39 24 = some (.ireturn, []) := by decide +kernel
theorem zi_39_25 : zI 39 25 = some (.iconst 0, []) := by decide +kernel
theorem zi_39_26 : zI 39 26 = some (.istore 5, []) := by decide +kernel
theorem zi_39_28 : zI 39 28 = some (.iconst 0, []) := by decide +kernel
theorem zi_39_29 : zI 39 29 = some (.istore 6, []) := by decide +kernel
theorem zi_39_31 : zI 39 31 = some (.iload 6, []) := by decide +kernel
theorem zi_39_33 : zI 39 33 = some (.iload 4, []) := by decide +kernel
theorem zi_39_35 : zI 39 35 = some (.if_icmp .ge 29, [64]) := by decide +kernel
theorem zi_39_38 : zI 39 38 = some (.aload_n 1, []) := by decide +kernel
theorem zi_39_39 : zI 39 39 = some (.iload_n 2, []) := by decide +kernel
theorem zi_39_40 : zI 39 40 = some (.iload 6, []) := by decide +kernel
theorem zi_39_42 : zI 39 42 = some (.invokevirtual 34, [11, 0, 2, 0, 214, 215, 91, 213, 0, 212]) := by decide +kernel
theorem zi_39_45 : zI 39 45 = some (.aload_n 0, []) := by decide +kernel
theorem zi_39_46 : zI 39 46 = some (.iload_n 3, []) := by decide +kernel
theorem zi_39_47 : zI 39 47 = some (.iload 6, []) := by decide +kernel
theorem zi_39_49 : zI 39 49 = some (.invokevirtual 27, [19, 0, 2, 5, 209, 210, 86, 208, 0, 207]) := by decide +kernel
theorem zi_39_52 : zI 39 52 = some (.if_icmp .ne 6, [58]) := by decide +kernel
theorem zi_39_55 : zI 39 55 = some (.iinc 5 1, []) := by decide +kernel
theorem zi_39_58 : zI 39 58 = some (.iinc 6 1, []) := by decide +kernel
theorem zi_39_61 : zI 39 61 = some (.goto (-30), [31]) := by decide +kernel
theorem zi_39_64 : zI 39 64 = some (.iload 5, []) := by decide +kernel
theorem zi_39_66 : zI 39 66 = some (.ireturn, []) := by decide +kernel
/-! templates -/
theorem zcnt_zero {p : Nat → Bool} : ∀ {n : Nat}, zcnt p n = 0 → ∀ j, j < n → p j = false
  | 0, _, j, hj => absurd hj (by omega)
  | n + 1, h, j, hj => by
    cases hp : p n with
    | true => rw [zcnt_t hp] at h; omega
    | false =>
      rw [zcnt_f hp] at h
      rcases Nat.lt_or_ge j n with q | q
      · exact zcnt_zero h j q
      · exact (show j = n by omega) ▸ hp
theorem zcnt_ext {p q : Nat → Bool} : ∀ {n : Nat}, (∀ j, j < n → p j = q j) → zcnt p n = zcnt q n
  | 0, _ => rfl
  | n + 1, h => by
    simp only [zcnt]
    rw [zcnt_ext (n := n) fun j hj => h j (by omega), h n (by omega)]
theorem zcnt_mono {p : Nat → Bool} {m : Nat} : ∀ {n : Nat}, m ≤ n → zcnt p m ≤ zcnt p n
  | 0, h => by rw [show m = 0 by omega]; exact Nat.le_refl _
  | n + 1, h => by
    rcases Nat.lt_or_ge n m with q | q
    · rw [show m = n + 1 by omega]; exact Nat.le_refl _
    · refine Nat.le_trans (zcnt_mono (n := n) q) ?_
      simp only [zcnt]
      omega
theorem zcnt_imp {p q : Nat → Bool} : ∀ {n : Nat}, (∀ j, j < n → p j = true → q j = true) → zcnt p n ≤ zcnt q n
  | 0, _ => Nat.le_refl _
  | n + 1, h => by
    have ih := zcnt_imp (n := n) fun j hj => h j (by omega)
    cases hp : p n with
    | true => rw [zcnt_t hp, zcnt_t (h n (by omega) hp)]; omega
    | false => rw [zcnt_f hp]; simp only [zcnt]; omega
theorem nI_neg {a : Nat} (ha : a < 2 ^ 31) : nI a ≠ -1 := fun q => nI_pos ha (by rw [q]; decide)
theorem nI_n1 {a : Nat} (ha : a < 2 ^ 31) : -1 < nI a := Int32.lt_of_lt_of_le (by decide : (-1 : Int32) < 0) (nI_pos' ha)
theorem rat_neg {n : Nat} {f : Nat → Int32} : rat n f (-1) = -1 := by
  unfold rat
  rw [if_pos (.inl (by decide))]
theorem nI_m1 {a c : Nat} (ha : a < 1000) (hc : c < 1000) : nI a - 1 ≤ nI c - 1 ↔ a ≤ c := by
  have h1 := pk_sub_toInt (a := a) (b := 1) (by omega) (by omega)
  have h2 := pk_sub_toInt (a := c) (b := 1) (by omega) (by omega)
  rw [Int32.le_iff_toInt_le]
  rw [show nI a - 1 = nI a - nI 1 from rfl, show nI c - 1 = nI c - nI 1 from rfl, h1, h2]
  omega
theorem updR_ne {F : Nat → Nat → Int32} {r q : Nat} {f : Nat → Int32} (h : q ≠ r) : updR F r f q = F q := if_neg h
theorem updR_eq {F : Nat → Nat → Int32} {r : Nat} {f : Nat → Int32} : updR F r f r = f := if_pos rfl
section
variable {b : Nat} {F : Nat → Nat → Int32} {g : Nat → Nat} {h : zH}
theorem c_slotIn (hb : b + 71 ≤ h.length) (t p : Nat) (ht : t * 8 + p < 160) : zcalls zTB 19 [.ref (b + 16), .int (nI t), .int (nI p)] (nput b F g h) (some (.int (F 8 (t * 8 + p))), nput b F g h) := by
  refine zcalls_of (Nat.le_of_ble_eq_true rfl) ?_
  show zruns zTB 19 0 [some (.ref (b + 16)), some (.int (nI t)), some (.int (nI p))] [] _ _
  refine zr_aload_n (pc' := 1) zi_19_0 rfl rfl ?_
  refine zr_get (pc' := 4) zi_19_1 (nput_at hb (k := 16) rfl) rfl rfl ?_
  refine zr_iload_n (pc' := 5) zi_19_4 rfl rfl ?_
  refine zr_bipush (v := (nI 8)) (pc' := 7) zi_19_5 rfl rfl ?_
  refine zr_imul (pc' := 8) zi_19_7 (by first | exact pk_mul _ _ | rfl) rfl ?_
  refine zr_iload_n (pc' := 9) zi_19_8 rfl rfl ?_
  refine zr_iadd (pc' := 10) zi_19_9 (by first | exact nI_add _ _ | rfl) rfl ?_
  refine zr_atN (pc' := 13) (by omega) zi_19_10 hb rfl rfl (by decide) rfl rfl ?_
  exact zr_ireturn zi_19_13 rfl
/-- the holes of a template ahead of a place -/
def zhol (F : Nat → Nat → Int32) (t : Nat) : Nat → Nat := zcnt fun p => decide (F 8 (t * 8 + p) = -1)
theorem zhol_t {t p : Nat} (e : F 8 (t * 8 + p) = -1) : zhol F t (p + 1) = zhol F t p + 1 := zcnt_t (by simpa using e)
theorem zhol_f {t p : Nat} (e : F 8 (t * 8 + p) ≠ -1) : zhol F t (p + 1) = zhol F t p := zcnt_f (by simpa using e)
theorem l_howManyHoles (hb : b + 71 ≤ h.length) (t a : Nat) (ht : t < 20) (hs : F 7 t = nI a) (ha : a ≤ 8) (p : Nat) (hp : p ≤ a) : zruns zTB 37 4 [some (.ref (b + 16)), some (.int (nI t)), some (.int (nI (zhol F t p))), some (.int (nI p))] [] (nput b F g h) (some (.int (nI (zhol F t a))), nput b F g h) := by
  refine zr_iload_n (pc' := 5) zi_37_4 rfl rfl ?_
  refine zr_aload_n (pc' := 6) zi_37_5 rfl rfl ?_
  refine zr_get (pc' := 9) zi_37_6 (nput_at hb (k := 16) rfl) rfl rfl ?_
  refine zr_iload_n (pc' := 10) zi_37_9 rfl rfl ?_
  refine zr_atN (pc' := 13) (by omega) zi_37_10 hb rfl rfl (by decide) rfl rfl ?_
  rw [hs]
  refine zr_icmp (pc' := 16) zi_37_13 rfl (fun h13 => ?_) (fun h13 => ?_)
  · replace h13 := zc_ge_t (by omega) (by omega) h13
    refine zr_iload_n (pc' := 36) zi_37_35 rfl rfl ?_
    rw [show a = p by omega]
    exact zr_ireturn zi_37_36 rfl
  · replace h13 := zc_ge_f (by omega) (by omega) h13
    refine zr_aload_n (pc' := 17) zi_37_16 rfl rfl ?_
    refine zr_iload_n (pc' := 18) zi_37_17 rfl rfl ?_
    refine zr_iload_n (pc' := 19) zi_37_18 rfl rfl ?_
    refine zr_v2 (pc' := 22) zi_37_19 (nput_at hb (k := 16) rfl) rfl (c_slotIn hb _ _ (by omega)) rfl ?_
    refine zr_iconst (v := (-1)) (pc' := 23) zi_37_22 rfl rfl ?_
    refine zr_icmp (pc' := 26) zi_37_23 rfl (fun h23 => ?_) (fun h23 => ?_)
    · replace h23 := zc_ne_t h23
      refine zr_iinc (pc' := 32) zi_37_29 rfl (by first | exact n_inc _ | rfl) rfl rfl ?_
      dsimp only [zst1, zst2, zkill, List.set, List.getElem?_cons_succ, List.getElem?_cons_zero]
      refine zr_goto zi_37_32 ?_
      have ih := l_howManyHoles hb t a ht hs ha (p + 1) (by omega)
      rw [zhol_f h23] at ih
      exact ih
    · replace h23 := zc_ne_f h23
      refine zr_iinc (pc' := 29) zi_37_26 rfl (by first | exact n_inc _ | rfl) rfl rfl ?_
      dsimp only [zst1, zst2, zkill, List.set, List.getElem?_cons_succ, List.getElem?_cons_zero]
      refine zr_iinc (pc' := 32) zi_37_29 rfl (by first | exact n_inc _ | rfl) rfl rfl ?_
      dsimp only [zst1, zst2, zkill, List.set, List.getElem?_cons_succ, List.getElem?_cons_zero]
      refine zr_goto zi_37_32 ?_
      have ih := l_howManyHoles hb t a ht hs ha (p + 1) (by omega)
      rw [zhol_t h23] at ih
      exact ih
termination_by a - p
theorem c_howManyHoles (hb : b + 71 ≤ h.length) (t a : Nat) (ht : t < 20) (hs : F 7 t = nI a) (ha : a ≤ 8) : zcalls zTB 37 [.ref (b + 16), .int (nI t)] (nput b F g h) (some (.int (nI (zhol F t a))), nput b F g h) := by
  refine zcalls_of (Nat.le_of_ble_eq_true rfl) ?_
  show zruns zTB 37 0 [some (.ref (b + 16)), some (.int (nI t)), none, none] [] _ _
  refine zr_iconst (v := (nI 0)) (pc' := 1) zi_37_0 rfl rfl ?_
  refine zr_istore_n (pc' := 2) zi_37_1 (Nat.le_of_ble_eq_true rfl) rfl rfl ?_
  dsimp only [zst1, zst2, zkill, List.set, List.getElem?_cons_succ, List.getElem?_cons_zero]
  refine zr_iconst (v := (nI 0)) (pc' := 3) zi_37_2 rfl rfl ?_
  refine zr_istore_n (pc' := 4) zi_37_3 (Nat.le_of_ble_eq_true rfl) rfl rfl ?_
  dsimp only [zst1, zst2, zkill, List.set, List.getElem?_cons_succ, List.getElem?_cons_zero]
  exact l_howManyHoles hb t a ht hs ha 0 (by omega)
/-- the place of hole q -/
def zpla (F : Nat → Nat → Int32) (t a q : Nat) (r : Int32) : Prop := (r = -1 ∧ zhol F t a ≤ q) ∨ ∃ p, p < a ∧ r = nI p ∧ F 8 (t * 8 + p) = -1 ∧ zhol F t p = q
theorem l_placeOfHole (hb : b + 71 ≤ h.length) (t a q : Nat) (ht : t < 20) (hs : F 7 t = nI a) (ha : a ≤ 8) (hq : q < 1000) (p : Nat) (hp : p ≤ a) (hpq : zhol F t p ≤ q) : zev 38 5 [some (.ref (b + 16)), some (.int (nI t)), some (.int (nI q)), some (.int (nI (zhol F t p))), some (.int (nI p))] [] (nput b F g h) (zQi (nput b F g h) (zpla F t a q)) := by
  refine zev_of (fun _ kk => zr_iload (pc' := 7) zi_38_5 rfl rfl kk) ?_
  refine zev_of (fun _ kk => zr_aload_n (pc' := 8) zi_38_7 rfl rfl kk) ?_
  refine zev_of (fun _ kk => zr_get (pc' := 11) zi_38_8 (nput_at hb (k := 16) rfl) rfl rfl kk) ?_
  refine zev_of (fun _ kk => zr_iload_n (pc' := 12) zi_38_11 rfl rfl kk) ?_
  refine zev_of (fun _ kk => zr_atN (pc' := 15) (by omega) zi_38_12 hb rfl rfl (by decide) rfl rfl kk) ?_
  rw [hs]
  refine zv_icmp (pc' := 18) zi_38_15 rfl (fun h15 => ?_) (fun h15 => ?_)
  · replace h15 := zc_ge_t (by omega) (by omega) h15
    refine zev_of (fun _ kk => zr_iconst (v := (-1)) (pc' := 47) zi_38_46 rfl rfl kk) ?_
    refine zev_ret (zr_ireturn zi_38_47 rfl) ?_
    refine ⟨_, .inl ⟨rfl, ?_⟩, rfl⟩
    rw [show a = p by omega]
    exact hpq
  · replace h15 := zc_ge_f (by omega) (by omega) h15
    refine zev_of (fun _ kk => zr_aload_n (pc' := 19) zi_38_18 rfl rfl kk) ?_
    refine zev_of (fun _ kk => zr_iload_n (pc' := 20) zi_38_19 rfl rfl kk) ?_
    refine zev_of (fun _ kk => zr_iload (pc' := 22) zi_38_20 rfl rfl kk) ?_
    refine zev_of (fun _ kk => zr_v2 (pc' := 25) zi_38_22 (nput_at hb (k := 16) rfl) rfl (c_slotIn hb _ _ (by omega)) rfl kk) ?_
    refine zev_of (fun _ kk => zr_iconst (v := (-1)) (pc' := 26) zi_38_25 rfl rfl kk) ?_
    refine zv_icmp (pc' := 29) zi_38_26 rfl (fun h26 => ?_) (fun h26 => ?_)
    · replace h26 := zc_ne_t h26
      refine zev_of (fun _ kk => zr_iinc (pc' := 43) zi_38_40 rfl (by first | exact n_inc _ | rfl) rfl rfl kk) ?_
      dsimp only [zst1, zst2, zkill, List.set, List.getElem?_cons_succ, List.getElem?_cons_zero]
      refine zev_of (fun _ kk => zr_goto zi_38_43 kk) ?_
      have ih := l_placeOfHole hb t a q ht hs ha hq (p + 1) (by omega)
      rw [zhol_f h26] at ih
      exact ih hpq
    · replace h26 := zc_ne_f h26
      refine zev_of (fun _ kk => zr_iload_n (pc' := 30) zi_38_29 rfl rfl kk) ?_
      refine zev_of (fun _ kk => zr_iload_n (pc' := 31) zi_38_30 rfl rfl kk) ?_
      refine zv_icmp (pc' := 34) zi_38_31 rfl (fun h31 => ?_) (fun h31 => ?_)
      · replace h31 := zc_ne_t h31
        refine zev_of (fun _ kk => zr_iinc (pc' := 40) zi_38_37 rfl (by first | exact n_inc _ | rfl) rfl rfl kk) ?_
        dsimp only [zst1, zst2, zkill, List.set, List.getElem?_cons_succ, List.getElem?_cons_zero]
        refine zev_of (fun _ kk => zr_iinc (pc' := 43) zi_38_40 rfl (by first | exact n_inc _ | rfl) rfl rfl kk) ?_
        dsimp only [zst1, zst2, zkill, List.set, List.getElem?_cons_succ, List.getElem?_cons_zero]
        refine zev_of (fun _ kk => zr_goto zi_38_43 kk) ?_
        have ih := l_placeOfHole hb t a q ht hs ha hq (p + 1) (by omega)
        rw [zhol_t h26] at ih
        have hz : zhol F t p ≤ p := zcnt_le _ _
        have : zhol F t p ≠ q := fun e => h31 (by rw [e])
        exact ih (by omega)
      · replace h31 := zc_ne_f h31
        refine zev_of (fun _ kk => zr_iload (pc' := 36) zi_38_34 rfl rfl kk) ?_
        refine zev_ret (zr_ireturn zi_38_36 rfl) ?_
        have hz : zhol F t p ≤ p := zcnt_le _ _
        exact ⟨_, .inr ⟨p, by omega, rfl, h26, (nI_eq (by omega) (by omega)).mp h31⟩, rfl⟩
termination_by a - p
theorem c_placeOfHole (hb : b + 71 ≤ h.length) (t a q : Nat) (ht : t < 20) (hs : F 7 t = nI a) (ha : a ≤ 8) (hq : q < 1000) : ∃ r, zpla F t a q r ∧ zcalls zTB 38 [.ref (b + 16), .int (nI t), .int (nI q)] (nput b F g h) (some (.int r), nput b F g h) := by
  refine zQi_out (zev_calls (Nat.le_of_ble_eq_true rfl) ?_)
  show zev 38 0 [some (.ref (b + 16)), some (.int (nI t)), some (.int (nI q)), none, none] [] _ _
  refine zev_of (fun _ kk => zr_iconst (v := (nI 0)) (pc' := 1) zi_38_0 rfl rfl kk) ?_
  refine zev_of (fun _ kk => zr_istore_n (pc' := 2) zi_38_1 (Nat.le_of_ble_eq_true rfl) rfl rfl kk) ?_
  dsimp only [zst1, zst2, zkill, List.set, List.getElem?_cons_succ, List.getElem?_cons_zero]
  refine zev_of (fun _ kk => zr_iconst (v := (nI 0)) (pc' := 3) zi_38_2 rfl rfl kk) ?_
  refine zev_of (fun _ kk => zr_istore (pc' := 5) zi_38_3 (Nat.le_of_ble_eq_true rfl) rfl rfl kk) ?_
  dsimp only [zst1, zst2, zkill, List.set, List.getElem?_cons_succ, List.getElem?_cons_zero]
  exact l_placeOfHole hb t a q ht hs ha hq 0 (by omega) (by exact Nat.zero_le _)
theorem c_placeOfNone (hb : b + 71 ≤ h.length) (q : Int32) : zcalls zTB 38 [.ref (b + 16), .int (-1), .int q] (nput b F g h) (some (.int (-1)), nput b F g h) := by
  refine zcalls_of (Nat.le_of_ble_eq_true rfl) ?_
  show zruns zTB 38 0 [some (.ref (b + 16)), some (.int (-1)), some (.int q), none, none] [] _ _
  refine zr_iconst (v := (nI 0)) (pc' := 1) zi_38_0 rfl rfl ?_
  refine zr_istore_n (pc' := 2) zi_38_1 (Nat.le_of_ble_eq_true rfl) rfl rfl ?_
  dsimp only [zst1, zst2, zkill, List.set, List.getElem?_cons_succ, List.getElem?_cons_zero]
  refine zr_iconst (v := (nI 0)) (pc' := 3) zi_38_2 rfl rfl ?_
  refine zr_istore (pc' := 5) zi_38_3 (Nat.le_of_ble_eq_true rfl) rfl rfl ?_
  dsimp only [zst1, zst2, zkill, List.set, List.getElem?_cons_succ, List.getElem?_cons_zero]
  refine zr_iload (pc' := 7) zi_38_5 rfl rfl ?_
  refine zr_aload_n (pc' := 8) zi_38_7 rfl rfl ?_
  refine zr_get (pc' := 11) zi_38_8 (nput_at hb (k := 16) rfl) rfl rfl ?_
  refine zr_iload_n (pc' := 12) zi_38_11 rfl rfl ?_
  refine zr_at (pc' := 15) zi_38_12 hb rfl rfl (by decide) rfl rfl ?_
  rw [rat_neg]
  refine zr_icmp (pc' := 18) zi_38_15 rfl (fun h15 => ?_) (fun h15 => ?_)
  · replace h15 := zx_ge_t h15
    refine zr_iconst (v := (-1)) (pc' := 47) zi_38_46 rfl rfl ?_
    exact zr_ireturn zi_38_47 rfl
  · replace h15 := zx_ge_f h15
    exact absurd h15 (by decide)
/-- at how many places a line has the word of a template -/
def zsm (F : Nat → Nat → Int32) (l t : Nat) : Nat → Nat := zcnt fun p => decide (F 4 (l * 8 + p) = F 8 (t * 8 + p))
theorem zsm_t {l t p : Nat} (e : F 4 (l * 8 + p) = F 8 (t * 8 + p)) : zsm F l t (p + 1) = zsm F l t p + 1 := zcnt_t (by simpa using e)
theorem zsm_f {l t p : Nat} (e : F 4 (l * 8 + p) ≠ F 8 (t * 8 + p)) : zsm F l t (p + 1) = zsm F l t p := zcnt_f (by simpa using e)
/-- likeness and 1 -/
def zak (F : Nat → Nat → Int32) (l t : Nat) : Nat := if F 3 l = F 7 t then zsm F l t (F 7 t).toNatClampNeg + 1 else 0
theorem l_likeness (hb : b + 71 ≤ h.length) (l t a : Nat) (hl : l < 70) (ht : t < 20) (ha : a ≤ 8) (p : Nat) (hp : p ≤ a) : zruns zTB 39 31 [some (.ref (b + 16)), some (.ref (b + 1)), some (.int (nI l)), some (.int (nI t)), some (.int (nI a)), some (.int (nI (zsm F l t p))), some (.int (nI p))] [] (nput b F g h) (some (.int (nI (zsm F l t a))), nput b F g h) := by
  refine zr_iload (pc' := 33) zi_39_31 rfl rfl ?_
  refine zr_iload (pc' := 35) zi_39_33 rfl rfl ?_
  refine zr_icmp (pc' := 38) zi_39_35 rfl (fun h35 => ?_) (fun h35 => ?_)
  · replace h35 := zc_ge_t (by omega) (by omega) h35
    refine zr_iload (pc' := 66) zi_39_64 rfl rfl ?_
    rw [show a = p by omega]
    exact zr_ireturn zi_39_66 rfl
  · replace h35 := zc_ge_f (by omega) (by omega) h35
    refine zr_aload_n (pc' := 39) zi_39_38 rfl rfl ?_
    refine zr_iload_n (pc' := 40) zi_39_39 rfl rfl ?_
    refine zr_iload (pc' := 42) zi_39_40 rfl rfl ?_
    refine zr_v2 (pc' := 45) zi_39_42 (nput_at hb (k := 1) rfl) rfl (c_wordIn hb _ _ (by omega)) rfl ?_
    refine zr_aload_n (pc' := 46) zi_39_45 rfl rfl ?_
    refine zr_iload_n (pc' := 47) zi_39_46 rfl rfl ?_
    refine zr_iload (pc' := 49) zi_39_47 rfl rfl ?_
    refine zr_v2 (pc' := 52) zi_39_49 (nput_at hb (k := 16) rfl) rfl (c_slotIn hb _ _ (by omega)) rfl ?_
    refine zr_icmp (pc' := 55) zi_39_52 rfl (fun h52 => ?_) (fun h52 => ?_)
    · replace h52 := zc_ne_t h52
      refine zr_iinc (pc' := 61) zi_39_58 rfl (by first | exact n_inc _ | rfl) rfl rfl ?_
      dsimp only [zst1, zst2, zkill, List.set, List.getElem?_cons_succ, List.getElem?_cons_zero]
      refine zr_goto zi_39_61 ?_
      have ih := l_likeness hb l t a hl ht ha (p + 1) (by omega)
      rw [zsm_f h52] at ih
      exact ih
    · replace h52 := zc_ne_f h52
      refine zr_iinc (pc' := 58) zi_39_55 rfl (by first | exact n_inc _ | rfl) rfl rfl ?_
      dsimp only [zst1, zst2, zkill, List.set, List.getElem?_cons_succ, List.getElem?_cons_zero]
      refine zr_iinc (pc' := 61) zi_39_58 rfl (by first | exact n_inc _ | rfl) rfl rfl ?_
      dsimp only [zst1, zst2, zkill, List.set, List.getElem?_cons_succ, List.getElem?_cons_zero]
      refine zr_goto zi_39_61 ?_
      have ih := l_likeness hb l t a hl ht ha (p + 1) (by omega)
      rw [zsm_t h52] at ih
      exact ih
termination_by a - p
theorem c_likeness (hb : b + 71 ≤ h.length) (l t a : Nat) (hl : l < 70) (ht : t < 20) (hs : F 7 t = nI a) (ha : a ≤ 8) : zcalls zTB 39 [.ref (b + 16), .ref (b + 1), .int (nI l), .int (nI t)] (nput b F g h) (some (.int (nI (zak F l t) - 1)), nput b F g h) := by
  refine zcalls_of (Nat.le_of_ble_eq_true rfl) ?_
  show zruns zTB 39 0 [some (.ref (b + 16)), some (.ref (b + 1)), some (.int (nI l)), some (.int (nI t)), none, none, none] [] _ _
  refine zr_aload_n (pc' := 1) zi_39_0 rfl rfl ?_
  refine zr_get (pc' := 4) zi_39_1 (nput_at hb (k := 16) rfl) rfl rfl ?_
  refine zr_iload_n (pc' := 5) zi_39_4 rfl rfl ?_
  refine zr_atN (pc' := 8) (by omega) zi_39_5 hb rfl rfl (by decide) rfl rfl ?_
  refine zr_istore (pc' := 10) zi_39_8 (Nat.le_of_ble_eq_true rfl) rfl rfl ?_
  dsimp only [zst1, zst2, zkill, List.set, List.getElem?_cons_succ, List.getElem?_cons_zero]
  refine zr_aload_n (pc' := 11) zi_39_10 rfl rfl ?_
  refine zr_get (pc' := 14) zi_39_11 (nput_at hb (k := 1) rfl) rfl rfl ?_
  refine zr_iload_n (pc' := 15) zi_39_14 rfl rfl ?_
  refine zr_atN (pc' := 18) (by omega) zi_39_15 hb rfl rfl (by decide) rfl rfl ?_
  refine zr_iload (pc' := 20) zi_39_18 rfl rfl ?_
  refine zr_icmp (pc' := 23) zi_39_20 rfl (fun h20 => ?_) (fun h20 => ?_)
  · replace h20 := zc_eq_t h20
    refine zr_iconst (v := (nI 0)) (pc' := 26) zi_39_25 rfl rfl ?_
    refine zr_istore (pc' := 28) zi_39_26 (Nat.le_of_ble_eq_true rfl) rfl rfl ?_
    dsimp only [zst1, zst2, zkill, List.set, List.getElem?_cons_succ, List.getElem?_cons_zero]
    refine zr_iconst (v := (nI 0)) (pc' := 29) zi_39_28 rfl rfl ?_
    refine zr_istore (pc' := 31) zi_39_29 (Nat.le_of_ble_eq_true rfl) rfl rfl ?_
    dsimp only [zst1, zst2, zkill, List.set, List.getElem?_cons_succ, List.getElem?_cons_zero]
    rw [zak, if_pos h20, hs, nI_clamp (by omega), nI_pred]
    exact l_likeness hb l t a hl ht ha 0 (by omega)
  · replace h20 := zc_eq_f h20
    refine zr_iconst (v := (-1)) (pc' := 24) zi_39_23 rfl rfl ?_
    rw [zak, if_neg h20]
    rw [show nI 0 - 1 = (-1 : Int32) from rfl]
    exact zr_ireturn zi_39_24 rfl
end


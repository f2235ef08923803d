theorem zi_78_0 : zI 78 0 = some (.iconst (-1), []) := by decide +kernel
theorem zi_78_1 : zI 78 1 = some (.istore 4, []) := by decide +kernel
theorem zi_78_3 : zI 78 3 = some (.iconst (-1), []) := by decide +kernel
theorem zi_78_4 : zI 78 4 = some (.istore 5, []) := by decide +kernel
theorem zi_78_6 : zI 78 6 = some (.iconst 0, []) := by decide +kernel
theorem zi_78_7 : zI 78 7 = some (.istore 6, []) := by decide +kernel
theorem zi_78_9 : zI 78 9 = some (.iload 6, []) := by decide +kernel
theorem zi_78_11 : zI 78 11 = some (.aload_n 0, []) := by decide +kernel
theorem zi_78_12 : zI 78 12 = some (.getfield 37, [5, 2, 391]) := by decide +kernel
theorem zi_78_15 : zI 78 15 = some (.if_icmp .ge 34, [49]) := by decide +kernel
theorem zi_78_18 : zI 78 18 = some (.aload_n 0, []) := by decide +kernel
theorem zi_78_19 : zI 78 19 = some (.aload_n 1, []) := by decide +kernel
theorem zi_78_20 : zI 78 20 = some (.iload_n 2, []) := by decide +kernel
theorem zi_78_21 : zI 78 21 = some (.iload 6, []) := by decide +kernel
theorem zi_78_23 : zI 78 23 = some (.invokevirtual 41, [39, 0, 3, 5, 394, 395, 86, 393, 0, 392]) := by decide +kernel
theorem zi_78_26 : zI 78 26 = some (.istore 7, []) := by decide +kernel
theorem zi_78_28 : zI 78 28 = some (.iload 7, []) := by decide +kernel
theorem zi_78_30 : zI 78 30 = some (.iload 5, []) := by decide +kernel
theorem zi_78_32 : zI 78 32 = some (.if_icmp .le 11, [43]) := by decide +kernel
theorem zi_78_35 : zI 78 35 = some (.iload 7, []) := by decide +kernel
theorem zi_78_37 : zI 78 37 = some (.istore 5, []) := by decide +kernel
theorem zi_78_39 : zI 78 39 = some (.iload 6, []) := by decide +kernel
theorem zi_78_41 : zI 78 41 = some (.istore 4, []) := by decide +kernel
theorem zi_78_43 : zI 78 43 = some (.iinc 6 1, []) := by decide +kernel
theorem zi_78_46 : zI 78 46 = some (.goto (-37), [9]) := by decide +kernel
theorem zi_78_49 : zI 78 49 = some (.aload_n 1, []) := by decide +kernel
theorem zi_78_50 : zI 78 50 = some (.getfield 31, [0, 3, 211]) := by decide +kernel
theorem zi_78_53 : zI 78 53 = some (.iload_n 2, []) := by decide +kernel
theorem zi_78_54 : zI 78 54 = some (.invokevirtual 23, [0, 0, 1, 1, 17, 18, 19, 16, 0, 120]) := by decide +kernel
theorem zi_78_57 : zI 78 57 = some (.iload_n 3, []) := by decide +kernel
theorem zi_78_58 : zI 78 58 = some (.imul, []) := by decide +kernel
theorem zi_78_59 : zI 78 59 = some (.bipush 99, []) := by decide +kernel
theorem zi_78_61 : zI 78 61 = some (.iadd, []) := by decide +kernel
theorem zi_78_62 : zI 78 62 = some (.bipush 100, []) := by decide +kernel
theorem zi_78_64 : zI 78 64 = some (.idiv, []) := by decide +kernel
theorem zi_78_65 : zI 78 65 = some (.istore 6, []) := by decide +kernel
theorem zi_78_67 : zI 78 67 = some (.iload 4, []) := by decide +kernel
theorem zi_78_69 : zI 78 69 = some (.iconst (-1), []) := by decide +kernel
theorem zi_78_70 : zI 78 70 = some (.if_icmp .eq 13, [83]) := by decide +kernel
theorem zi_78_73 : zI 78 73 = some (.iload 5, []) := by decide +kernel
theorem zi_78_75 : zI 78 75 = some (.iload 6, []) := by decide +kernel
theorem zi_78_77 : zI 78 77 = some (.if_icmp .lt 6, [83]) := by decide +kernel
theorem zi_78_80 : zI 78 80 = some (.iload 4, []) := by decide +kernel
theorem zi_78_82 : zI 78 82 = some (.ireturn, []) := by decide +kernel
theorem zi_78_83 : zI 78 83 = some (.aload_n 0, []) := by decide +kernel
theorem zi_78_84 : zI 78 84 = some (.getfield 37, [5, 2, 391]) := by decide +kernel
theorem zi_78_87 : zI 78 87 = some (.bipush 20, []) := by decide +kernel
theorem zi_78_89 : zI 78 89 = some (.if_icmp .ge 10, [99]) := by decide +kernel
theorem zi_78_92 : zI 78 92 = some (.aload_n 0, []) := by decide +kernel
theorem zi_78_93 : zI 78 93 = some (.getfield 37, [5, 2, 391]) := by decide +kernel
theorem zi_78_96 : zI 78 96 = some (.goto 4, [100]) := by decide +kernel
theorem zi_78_99 : zI 78 99 = some (.iconst (-1), []) := by decide +kernel
theorem zi_78_100 : zI 78 100 = some (.ireturn, []) := by decide +kernel
/-! learning a line -/
section
variable {b : Nat} {F : Nat → Nat → Int32} {g : Nat → Nat} {h : zH}
theorem zak_le {l t a : Nat} (hs : F 7 t = nI a) (ha : a ≤ 8) : zak F l t ≤ 9 := by
  unfold zak
  split
  · rw [hs, nI_clamp (by omega)]
    have : zsm F l t a ≤ a := zcnt_le _ _
    omega
  · omega
/-- what is chosen for a line of c words -/
def zcho (F : Nat → Nat → Int32) (T l c s : Nat) (r : Int32) : Prop :=
  (∃ t, t < T ∧ r = nI t ∧ 0 < zak F l t ∧ c * s ≤ 100 * (zak F l t - 1) ∧ (∀ u, u < T → zak F l u ≤ zak F l t) ∧ ∀ u, u < t → zak F l u < zak F l t) ∨
  ((∀ t, t < T → zak F l t = 0 ∨ 100 * (zak F l t - 1) < c * s) ∧ r = if T < 20 then nI T else -1)
/-- the best of the first i, and its likeness and 1 -/
def zbst (F : Nat → Nat → Int32) (l i B M : Nat) : Prop := (∀ t, t < i → zak F l t ≤ M) ∧ (M = 0 → B = 0) ∧ (0 < M → ∃ t, t < i ∧ B = t + 1 ∧ zak F l t = M ∧ ∀ u, u < t → zak F l u < M)
theorem zbst_none {l i B M : Nat} (hB : zbst F l i B M) (h20 : B ≤ 20) (e : nI B - 1 = -1) : M = 0 := by
  rcases Nat.eq_zero_or_pos M with q | q
  · exact q
  · obtain ⟨t, h1, h2, _⟩ := hB.2.2 q
    rw [h2, nI_pred] at e
    exact absurd e (nI_neg (by omega))
theorem zbst_lt {M c s : Nat} (hM : M ≤ 9) (hcs : c * s ≤ 800) (e : nI M - 1 < nI ((c * s + 99) / 100)) : M = 0 ∨ 100 * (M - 1) < c * s := by
  cases M with
  | zero => exact .inl rfl
  | succ M =>
    rw [nI_pred] at e
    have := (nI_ltI (by omega) (by omega)).mp e
    omega
theorem zbst_ge {M c s : Nat} (hM : M ≤ 9) (hcs : c * s ≤ 800) (h0 : 0 < M) (e : ¬ nI M - 1 < nI ((c * s + 99) / 100)) : c * s ≤ 100 * (M - 1) := by
  cases M with
  | zero => omega
  | succ M =>
    rw [nI_pred] at e
    have := Nat.le_of_not_lt fun q => e ((nI_ltI (by omega) (by omega)).mpr q)
    rw [Nat.add_sub_cancel]
    omega
theorem l_choose (hb : b + 71 ≤ h.length) (l c s : Nat) (hl : l < 70) (hc : F 3 l = nI c) (hc8 : c ≤ 8) (hs1 : s ≤ 100) (hT : g 2 ≤ 20) (hsz : ∀ t, t < g 2 → ∃ a, a ≤ 8 ∧ F 7 t = nI a) (i B M : Nat) (hi : i ≤ g 2) (hM : M ≤ 9) (hB : zbst F l i B M) (X : Option Value) : zev 78 9 [some (.ref (b + 16)), some (.ref (b + 1)), some (.int (nI l)), some (.int (nI s)), some (.int (nI B - 1)), some (.int (nI M - 1)), some (.int (nI i)), X] [] (nput b F g h) (zQi (nput b F g h) (zcho F (g 2) l c s)) := by
  have hB20 : B ≤ 20 := by
    rcases Nat.eq_zero_or_pos M with q | q
    · rw [hB.2.1 q]; omega
    · obtain ⟨t, h1, h2, _⟩ := hB.2.2 q
      omega
  refine zev_of (fun _ kk => zr_iload (pc' := 11) zi_78_9 rfl rfl kk) ?_
  refine zev_of (fun _ kk => zr_aload_n (pc' := 12) zi_78_11 rfl rfl kk) ?_
  refine zev_of (fun _ kk => zr_get (pc' := 15) zi_78_12 (nput_at hb (k := 16) rfl) rfl rfl kk) ?_
  refine zv_icmp (pc' := 18) zi_78_15 rfl (fun h15 => ?_) (fun h15 => ?_)
  · replace h15 := zc_ge_t (by omega) (by omega) h15
    refine zev_of (fun _ kk => zr_aload_n (pc' := 50) zi_78_49 rfl rfl kk) ?_
    refine zev_of (fun _ kk => zr_get (pc' := 53) zi_78_50 (nput_at hb (k := 1) rfl) rfl rfl kk) ?_
    refine zev_of (fun _ kk => zr_iload_n (pc' := 54) zi_78_53 rfl rfl kk) ?_
    refine zev_of (fun _ kk => zr_atN (pc' := 57) (by omega) zi_78_54 hb rfl rfl (by decide) rfl rfl kk) ?_
    rw [hc]
    refine zev_of (fun _ kk => zr_iload_n (pc' := 58) zi_78_57 rfl rfl kk) ?_
    refine zev_of (fun _ kk => zr_imul (pc' := 59) zi_78_58 (by first | exact pk_mul _ _ | rfl) rfl kk) ?_
    refine zev_of (fun _ kk => zr_bipush (v := (nI 99)) (pc' := 61) zi_78_59 rfl rfl kk) ?_
    refine zev_of (fun _ kk => zr_iadd (pc' := 62) zi_78_61 (by first | exact nI_add _ _ | rfl) rfl kk) ?_
    refine zev_of (fun _ kk => zr_bipush (v := (nI 100)) (pc' := 64) zi_78_62 rfl rfl kk) ?_
    have hdv : nI (c * s + 99) / nI 100 = nI ((c * s + 99) / 100) := pk_div (by have := Nat.mul_le_mul hc8 hs1; omega) (by omega) (by omega)
    refine zev_of (fun _ kk => zr_idiv (pc' := 65) zi_78_64 (by decide) hdv rfl kk) ?_
    refine zev_of (fun _ kk => zr_istore (pc' := 67) zi_78_65 (Nat.le_of_ble_eq_true rfl) rfl rfl kk) ?_
    dsimp only [zst1, zst2, zkill, List.set, List.getElem?_cons_succ, List.getElem?_cons_zero]
    refine zev_of (fun _ kk => zr_iload (pc' := 69) zi_78_67 rfl rfl kk) ?_
    refine zev_of (fun _ kk => zr_iconst (v := (-1)) (pc' := 70) zi_78_69 rfl rfl kk) ?_
    refine zv_icmp (pc' := 73) zi_78_70 rfl (fun h70 => ?_) (fun h70 => ?_)
    · replace h70 := zc_eq_t h70
      refine zev_of (fun _ kk => zr_aload_n (pc' := 84) zi_78_83 rfl rfl kk) ?_
      refine zev_of (fun _ kk => zr_get (pc' := 87) zi_78_84 (nput_at hb (k := 16) rfl) rfl rfl kk) ?_
      refine zev_of (fun _ kk => zr_bipush (v := (nI 20)) (pc' := 89) zi_78_87 rfl rfl kk) ?_
      refine zv_icmp (pc' := 92) zi_78_89 rfl (fun h89 => ?_) (fun h89 => ?_)
      · replace h89 := zc_ge_t (by omega) (by omega) h89
        refine zev_of (fun _ kk => zr_iconst (v := (-1)) (pc' := 100) zi_78_99 rfl rfl kk) ?_
        refine zev_ret (zr_ireturn zi_78_100 rfl) ?_
        exact ⟨_, .inr ⟨fun t ht => .inl (by have := hB.1 t (by omega); have := zbst_none hB (by omega) h70; omega), by rw [if_neg (by omega)]⟩, rfl⟩
      · replace h89 := zc_ge_f (by omega) (by omega) h89
        refine zev_of (fun _ kk => zr_aload_n (pc' := 93) zi_78_92 rfl rfl kk) ?_
        refine zev_of (fun _ kk => zr_get (pc' := 96) zi_78_93 (nput_at hb (k := 16) rfl) rfl rfl kk) ?_
        refine zev_of (fun _ kk => zr_goto zi_78_96 kk) ?_
        refine zev_ret (zr_ireturn zi_78_100 rfl) ?_
        exact ⟨_, .inr ⟨fun t ht => .inl (by have := hB.1 t (by omega); have := zbst_none hB (by omega) h70; omega), by rw [if_pos (by omega)]⟩, rfl⟩
    · replace h70 := zc_eq_f h70
      refine zev_of (fun _ kk => zr_iload (pc' := 75) zi_78_73 rfl rfl kk) ?_
      refine zev_of (fun _ kk => zr_iload (pc' := 77) zi_78_75 rfl rfl kk) ?_
      refine zv_icmp (pc' := 80) zi_78_77 rfl (fun h77 => ?_) (fun h77 => ?_)
      · replace h77 := zx_lt_t h77
        refine zev_of (fun _ kk => zr_aload_n (pc' := 84) zi_78_83 rfl rfl kk) ?_
        refine zev_of (fun _ kk => zr_get (pc' := 87) zi_78_84 (nput_at hb (k := 16) rfl) rfl rfl kk) ?_
        refine zev_of (fun _ kk => zr_bipush (v := (nI 20)) (pc' := 89) zi_78_87 rfl rfl kk) ?_
        refine zv_icmp (pc' := 92) zi_78_89 rfl (fun h89 => ?_) (fun h89 => ?_)
        · replace h89 := zc_ge_t (by omega) (by omega) h89
          refine zev_of (fun _ kk => zr_iconst (v := (-1)) (pc' := 100) zi_78_99 rfl rfl kk) ?_
          refine zev_ret (zr_ireturn zi_78_100 rfl) ?_
          refine ⟨_, .inr ⟨fun t ht => ?_, by rw [if_neg (by omega)]⟩, rfl⟩
          have h1 := hB.1 t (by omega)
          have h2 := zbst_lt (by omega) (by have := Nat.mul_le_mul hc8 hs1; omega) h77
          omega
        · replace h89 := zc_ge_f (by omega) (by omega) h89
          refine zev_of (fun _ kk => zr_aload_n (pc' := 93) zi_78_92 rfl rfl kk) ?_
          refine zev_of (fun _ kk => zr_get (pc' := 96) zi_78_93 (nput_at hb (k := 16) rfl) rfl rfl kk) ?_
          refine zev_of (fun _ kk => zr_goto zi_78_96 kk) ?_
          refine zev_ret (zr_ireturn zi_78_100 rfl) ?_
          refine ⟨_, .inr ⟨fun t ht => ?_, by rw [if_pos (by omega)]⟩, rfl⟩
          have h1 := hB.1 t (by omega)
          have h2 := zbst_lt (by omega) (by have := Nat.mul_le_mul hc8 hs1; omega) h77
          omega
      · replace h77 := zx_lt_f h77
        refine zev_of (fun _ kk => zr_iload (pc' := 82) zi_78_80 rfl rfl kk) ?_
        refine zev_ret (zr_ireturn zi_78_82 rfl) ?_
        have hM0 : 0 < M := by
          rcases Nat.eq_zero_or_pos M with q | q
          · rw [hB.2.1 q] at h70
            exact absurd rfl h70
          · exact q
        obtain ⟨t, h1, h2, h3, h4⟩ := hB.2.2 hM0
        have h5 := zbst_ge (by omega) (by have := Nat.mul_le_mul hc8 hs1; omega) hM0 h77
        exact ⟨_, .inl ⟨t, by omega, by rw [h2, nI_pred], by omega, by omega, fun u hu => h3 ▸ hB.1 u (by omega), fun u hu => h3 ▸ h4 u hu⟩, rfl⟩
  · replace h15 := zc_ge_f (by omega) (by omega) h15
    refine zev_of (fun _ kk => zr_aload_n (pc' := 19) zi_78_18 rfl rfl kk) ?_
    refine zev_of (fun _ kk => zr_aload_n (pc' := 20) zi_78_19 rfl rfl kk) ?_
    refine zev_of (fun _ kk => zr_iload_n (pc' := 21) zi_78_20 rfl rfl kk) ?_
    refine zev_of (fun _ kk => zr_iload (pc' := 23) zi_78_21 rfl rfl kk) ?_
    obtain ⟨a, ha, hs⟩ := hsz i (by omega)
    have ha9 := zak_le (l := l) hs ha
    refine zev_of (fun _ kk => zr_v3 (pc' := 26) zi_78_23 (nput_at hb (k := 16) rfl) rfl (c_likeness hb l i a hl (by omega) hs ha) rfl kk) ?_
    refine zev_of (fun _ kk => zr_istore (pc' := 28) zi_78_26 (Nat.le_of_ble_eq_true rfl) rfl rfl kk) ?_
    dsimp only [zst1, zst2, zkill, List.set, List.getElem?_cons_succ, List.getElem?_cons_zero]
    refine zev_of (fun _ kk => zr_iload (pc' := 30) zi_78_28 rfl rfl kk) ?_
    refine zev_of (fun _ kk => zr_iload (pc' := 32) zi_78_30 rfl rfl kk) ?_
    refine zv_icmp (pc' := 35) zi_78_32 rfl (fun h32 => ?_) (fun h32 => ?_)
    · replace h32 := zx_le_t h32
      refine zev_of (fun _ kk => zr_iinc (pc' := 46) zi_78_43 rfl (by first | exact n_inc _ | rfl) rfl rfl kk) ?_
      dsimp only [zst1, zst2, zkill, List.set, List.getElem?_cons_succ, List.getElem?_cons_zero]
      refine zev_of (fun _ kk => zr_goto zi_78_46 kk) ?_
      have h2 := (nI_m1 (by omega) (by omega)).mp h32
      exact l_choose hb l c s hl hc hc8 hs1 hT hsz (i + 1) B M (by omega) hM ⟨fun t ht => by
        rcases Nat.lt_or_ge t i with q | q
        · exact hB.1 t q
        · exact (show t = i by omega) ▸ h2, hB.2.1, fun q => by
        obtain ⟨t, h1, h2⟩ := hB.2.2 q
        exact ⟨t, by omega, h2⟩⟩ _
    · replace h32 := zx_le_f h32
      refine zev_of (fun _ kk => zr_iload (pc' := 37) zi_78_35 rfl rfl kk) ?_
      refine zev_of (fun _ kk => zr_istore (pc' := 39) zi_78_37 (Nat.le_of_ble_eq_true rfl) rfl rfl kk) ?_
      dsimp only [zst1, zst2, zkill, List.set, List.getElem?_cons_succ, List.getElem?_cons_zero]
      refine zev_of (fun _ kk => zr_iload (pc' := 41) zi_78_39 rfl rfl kk) ?_
      refine zev_of (fun _ kk => zr_istore (pc' := 43) zi_78_41 (Nat.le_of_ble_eq_true rfl) rfl rfl kk) ?_
      dsimp only [zst1, zst2, zkill, List.set, List.getElem?_cons_succ, List.getElem?_cons_zero]
      refine zev_of (fun _ kk => zr_iinc (pc' := 46) zi_78_43 rfl (by first | exact n_inc _ | rfl) rfl rfl kk) ?_
      dsimp only [zst1, zst2, zkill, List.set, List.getElem?_cons_succ, List.getElem?_cons_zero]
      refine zev_of (fun _ kk => zr_goto zi_78_46 kk) ?_
      have h2 := Nat.lt_of_not_le fun q => h32 ((nI_m1 (by omega) (by omega)).mpr q)
      have ih := l_choose hb l c s hl hc hc8 hs1 hT hsz (i + 1) (i + 1) (zak F l i) (by omega) (by omega) ⟨fun t ht => by
        rcases Nat.lt_or_ge t i with q | q
        · have := hB.1 t q
          omega
        · exact Nat.le_of_eq ((show t = i by omega) ▸ rfl), fun q => by omega, fun _ => ⟨i, by omega, rfl, rfl, fun u hu => by have := hB.1 u hu; omega⟩⟩ (some (.int (nI (zak F l i) - 1)))
      rw [nI_pred] at ih
      exact ih
termination_by g 2 - i
theorem c_choose (hb : b + 71 ≤ h.length) (l c s : Nat) (hl : l < 70) (hc : F 3 l = nI c) (hc8 : c ≤ 8) (hs1 : s ≤ 100) (hT : g 2 ≤ 20) (hsz : ∀ t, t < g 2 → ∃ a, a ≤ 8 ∧ F 7 t = nI a) : ∃ r, zcho F (g 2) l c s r ∧ zcalls zTB 78 [.ref (b + 16), .ref (b + 1), .int (nI l), .int (nI s)] (nput b F g h) (some (.int r), nput b F g h) := by
  refine zQi_out (zev_calls (Nat.le_of_ble_eq_true rfl) ?_)
  show zev 78 0 [some (.ref (b + 16)), some (.ref (b + 1)), some (.int (nI l)), some (.int (nI s)), none, none, none, none] [] _ _
  refine zev_of (fun _ kk => zr_iconst (v := (-1)) (pc' := 1) zi_78_0 rfl rfl kk) ?_
  refine zev_of (fun _ kk => zr_istore (pc' := 3) zi_78_1 (Nat.le_of_ble_eq_true rfl) rfl rfl kk) ?_
  dsimp only [zst1, zst2, zkill, List.set, List.getElem?_cons_succ, List.getElem?_cons_zero]
  refine zev_of (fun _ kk => zr_iconst (v := (-1)) (pc' := 4) zi_78_3 rfl rfl kk) ?_
  refine zev_of (fun _ kk => zr_istore (pc' := 6) zi_78_4 (Nat.le_of_ble_eq_true rfl) rfl rfl kk) ?_
  dsimp only [zst1, zst2, zkill, List.set, List.getElem?_cons_succ, List.getElem?_cons_zero]
  refine zev_of (fun _ kk => zr_iconst (v := (nI 0)) (pc' := 7) zi_78_6 rfl rfl kk) ?_
  refine zev_of (fun _ kk => zr_istore (pc' := 9) zi_78_7 (Nat.le_of_ble_eq_true rfl) rfl rfl kk) ?_
  dsimp only [zst1, zst2, zkill, List.set, List.getElem?_cons_succ, List.getElem?_cons_zero]
  exact l_choose hb l c s hl hc hc8 hs1 hT hsz 0 0 0 (by omega) (by omega) ⟨fun t ht => absurd ht (by omega), fun _ => rfl, fun q => absurd q (by omega)⟩ none
end


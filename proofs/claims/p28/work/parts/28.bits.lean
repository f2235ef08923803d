theorem zi_70_0 : zI 70 0 = some (.iconst 0, []) := by decide +kernel
theorem zi_70_1 : zI 70 1 = some (.istore_n 3, []) := by decide +kernel
theorem zi_70_2 : zI 70 2 = some (.aload_n 0, []) := by decide +kernel
theorem zi_70_3 : zI 70 3 = some (.getfield 23, [3, 2, 331]) := by decide +kernel
theorem zi_70_6 : zI 70 6 = some (.iload_n 2, []) := by decide +kernel
theorem zi_70_7 : zI 70 7 = some (.invokevirtual 55, [0, 0, 1, 1, 17, 18, 19, 16, 0, 147]) := by decide +kernel
theorem zi_70_10 : zI 70 10 = some (.istore 4, []) := by decide +kernel
theorem zi_70_12 : zI 70 12 = some (.iconst 0, []) := by decide +kernel
theorem zi_70_13 : zI 70 13 = some (.istore 5, []) := by decide +kernel
theorem zi_70_15 : zI 70 15 = some (.iload 5, []) := by decide +kernel
theorem zi_70_17 : zI 70 17 = some (.aload_n 0, []) := by decide +kernel
theorem zi_70_18 : zI 70 18 = some (.getfield 29, [3, 4, 333]) := by decide +kernel
theorem zi_70_21 : zI 70 21 = some (.iload_n 2, []) := by decide +kernel
theorem zi_70_22 : zI 70 22 = some (.invokevirtual 55, [0, 0, 1, 1, 17, 18, 19, 16, 0, 147]) := by decide +kernel
theorem zi_70_25 : zI 70 25 = some (.if_icmp .ge 34, [59]) := by decide +kernel
theorem zi_70_28 : zI 70 28 = some (.iload_n 3, []) := by decide +kernel
theorem zi_70_29 : zI 70 29 = some (.iconst 1, []) := by decide +kernel
theorem zi_70_30 : zI 70 30 = some (.aload_n 1, []) := by decide +kernel
theorem zi_70_31 : zI 70 31 = some (.getfield 82, [0, 5, 358]) := by decide +kernel
theorem zi_70_34 : zI 70 34 = some (.iload 4, []) := by decide +kernel
theorem zi_70_36 : zI 70 36 = some (.invokevirtual 55, [0, 0, 1, 1, 17, 18, 19, 16, 0, 147]) := by decide +kernel
theorem zi_70_39 : zI 70 39 = some (.ishl, []) := by decide +kernel
theorem zi_70_40 : zI 70 40 = some (.ior, []) := by decide +kernel
theorem zi_70_41 : zI 70 41 = some (.istore_n 3, []) := by decide +kernel
theorem zi_70_42 : zI 70 42 = some (.aload_n 0, []) := by decide +kernel
theorem zi_70_43 : zI 70 43 = some (.getfield 20, [3, 1, 330]) := by decide +kernel
theorem zi_70_46 : zI 70 46 = some (.iload 4, []) := by decide +kernel
theorem zi_70_48 : zI 70 48 = some (.invokevirtual 55, [0, 0, 1, 1, 17, 18, 19, 16, 0, 147]) := by decide +kernel
theorem zi_70_51 : zI 70 51 = some (.istore 4, []) := by decide +kernel
theorem zi_70_53 : zI 70 53 = some (.iinc 5 1, []) := by decide +kernel
theorem zi_70_56 : zI 70 56 = some (.goto (-41), [15]) := by decide +kernel
theorem zi_70_59 : zI 70 59 = some (.iload_n 3, []) := by decide +kernel
theorem zi_70_60 : zI 70 60 = some (.invokestatic 85, [98, 1, 1, 0, 361, 0, 362, 360, 0, 359]) := by decide +kernel
theorem zi_70_63 : zI 70 63 = some (.ireturn, []) := by decide +kernel
theorem zi_98_0 : zI 98 0 = some (.iload_n 0, []) := by decide +kernel
theorem zi_98_1 : zI 98 1 = some (.iload_n 0, []) := by decide +kernel
theorem zi_98_2 : zI 98 2 = some (.iconst 1, []) := by decide +kernel
theorem zi_98_3 : zI 98 3 = some (.iushr, []) := by decide +kernel
theorem zi_98_4 : zI 98 4 = some (.ldc_w 265, [1431655765, 500]) := by decide +kernel
theorem zi_98_7 : zI 98 7 = some (.iand, []) := by decide +kernel
theorem zi_98_8 : zI 98 8 = some (.isub, []) := by decide +kernel
theorem zi_98_9 : zI 98 9 = some (.istore_n 0, []) := by decide +kernel
theorem zi_98_10 : zI 98 10 = some (.iload_n 0, []) := by decide +kernel
theorem zi_98_11 : zI 98 11 = some (.ldc_w 266, [858993459, 501]) := by decide +kernel
theorem zi_98_14 : zI 98 14 = some (.iand, []) := by decide +kernel
theorem zi_98_15 : zI 98 15 = some (.iload_n 0, []) := by decide +kernel
theorem zi_98_16 : zI 98 16 = some (.iconst 2, []) := by decide +kernel
theorem zi_98_17 : zI 98 17 = some (.iushr, []) := by decide +kernel
theorem zi_98_18 : zI 98 18 = some (.ldc_w 266, [858993459, 501]) := by decide +kernel
theorem zi_98_21 : zI 98 21 = some (.iand, []) := by decide +kernel
theorem zi_98_22 : zI 98 22 = some (.iadd, []) := by decide +kernel
theorem zi_98_23 : zI 98 23 = some (.istore_n 0, []) := by decide +kernel
theorem zi_98_24 : zI 98 24 = some (.iload_n 0, []) := by decide +kernel
theorem zi_98_25 : zI 98 25 = some (.iload_n 0, []) := by decide +kernel
theorem zi_98_26 : zI 98 26 = some (.iconst 4, []) := by decide +kernel
theorem zi_98_27 : zI 98 27 = some (.iushr, []) := by decide +kernel
theorem zi_98_28 : zI 98 28 = some (.iadd, []) := by decide +kernel
theorem zi_98_29 : zI 98 29 = some (.ldc_w 267, [252645135, 502]) := by decide +kernel
theorem zi_98_32 : zI 98 32 = some (.iand, []) := by decide +kernel
theorem zi_98_33 : zI 98 33 = some (.istore_n 0, []) := by decide +kernel
theorem zi_98_34 : zI 98 34 = some (.iload_n 0, []) := by decide +kernel
theorem zi_98_35 : zI 98 35 = some (.iload_n 0, []) := by decide +kernel
theorem zi_98_36 : zI 98 36 = some (.bipush 8, []) := by decide +kernel
theorem zi_98_38 : zI 98 38 = some (.iushr, []) := by decide +kernel
theorem zi_98_39 : zI 98 39 = some (.iadd, []) := by decide +kernel
theorem zi_98_40 : zI 98 40 = some (.istore_n 0, []) := by decide +kernel
theorem zi_98_41 : zI 98 41 = some (.iload_n 0, []) := by decide +kernel
theorem zi_98_42 : zI 98 42 = some (.iload_n 0, []) := by decide +kernel
theorem zi_98_43 : zI 98 43 = some (.bipush 16, []) := by decide +kernel
theorem zi_98_45 : zI 98 45 = some (.iushr, []) := by decide +kernel
theorem zi_98_46 : zI 98 46 = some (.iadd, []) := by decide +kernel
theorem zi_98_47 : zI 98 47 = some (.istore_n 0, []) := by decide +kernel
theorem zi_98_48 : zI 98 48 = some (.iload_n 0, []) := by decide +kernel
theorem zi_98_49 : zI 98 49 = some (.bipush 63, []) := by decide +kernel
theorem zi_98_51 : zI 98 51 = some (.iand, []) := by decide +kernel
theorem zi_98_52 : zI 98 52 = some (.ireturn, []) := by decide +kernel
/-! bits: how many there are in a word of 20 -/
theorem n_and (a c : Nat) : nI a &&& nI c = nI (a &&& c) := by
  apply Int32.toBitVec_inj.mp
  simp [nI, Int32.toBitVec_and, Int32.toBitVec_ofNat', BitVec.ofNat_and]
theorem n_or (a c : Nat) : nI a ||| nI c = nI (a ||| c) := by
  apply Int32.toBitVec_inj.mp
  simp [nI, Int32.toBitVec_or, Int32.toBitVec_ofNat', BitVec.ofNat_or]
theorem b_and (a m y M : Nat) (ha : a < 256) (hm : m < 256) : (a + 256 * y) &&& (m + 256 * M) = (a &&& m) + 256 * (y &&& M) := by
  have h1 := Nat.and_mod_two_pow (a := a + 256 * y) (b := m + 256 * M) (n := 8)
  have h2 := Nat.and_div_two_pow (a := a + 256 * y) (b := m + 256 * M) (n := 8)
  rw [show (2 : Nat) ^ 8 = 256 from rfl] at h1 h2
  rw [show (a + 256 * y) % 256 = a by omega, show (m + 256 * M) % 256 = m by omega] at h1
  rw [show (a + 256 * y) / 256 = y by omega, show (m + 256 * M) / 256 = M by omega] at h2
  omega
theorem b_or (a m y M : Nat) (ha : a < 256) (hm : m < 256) : (a + 256 * y) ||| (m + 256 * M) = (a ||| m) + 256 * (y ||| M) := by
  have h1 := Nat.or_mod_two_pow (a := a + 256 * y) (b := m + 256 * M) (n := 8)
  have h2 := Nat.or_div_two_pow (a := a + 256 * y) (b := m + 256 * M) (n := 8)
  rw [show (2 : Nat) ^ 8 = 256 from rfl] at h1 h2
  rw [show (a + 256 * y) % 256 = a by omega, show (m + 256 * M) % 256 = m by omega] at h1
  rw [show (a + 256 * y) / 256 = y by omega, show (m + 256 * M) / 256 = M by omega] at h2
  omega
def b_1 (a : Nat) : Nat := a - (a / 2 &&& 85)
def b_2 (a : Nat) : Nat := (b_1 a &&& 51) + (b_1 a / 4 &&& 51)
def b_3 (a : Nat) : Nat := (b_2 a + b_2 a / 16) &&& 15
theorem b_f1 : ∀ a, a < 256 → ∀ e, e < 2 → ((a / 2 + 128 * e) &&& 85) = a / 2 &&& 85 := by decide +kernel
theorem b_f2 : ∀ a, a < 256 → ∀ e, e < 4 → ((b_1 a / 4 + 64 * e) &&& 51) = b_1 a / 4 &&& 51 := by decide +kernel
theorem b_f3 : ∀ a, a < 256 → (a / 2 &&& 85) ≤ a ∧ b_1 a < 256 ∧ b_2 a ≤ 68 ∧ b_2 a % 16 ≤ 4 ∧ b_3 a ≤ 8 := by decide +kernel
theorem b_f4 : ∀ a, a < 69 → ∀ e, e < 5 → ((a + a / 16 + 16 * e) &&& 15) = (a + a / 16) &&& 15 := by decide +kernel
theorem b_f5 : ∀ a, a < 256 → ∀ u, u < 8 → b_3 (a ||| 2 ^ u) ≤ b_3 a + 1 ∧ (a ||| 2 ^ u) < 256 := by decide +kernel
def zbc (x : Nat) : Nat :=
  let x1 := x - (x / 2 &&& 1431655765)
  let x2 := (x1 &&& 858993459) + (x1 / 4 &&& 858993459)
  let x3 := (x2 + x2 / 16) &&& 252645135
  let x4 := x3 + x3 / 256
  let x5 := x4 + x4 / 65536
  x5 &&& 63
theorem zbc_eq {a c d : Nat} (ha : a < 256) (hc : c < 256) (hd : d < 256) : zbc (a + 256 * (c + 256 * d)) = b_3 a + b_3 c + b_3 d := by
  obtain ⟨a1, a2, a3, a4, a5⟩ := b_f3 a ha
  obtain ⟨c1, c2, c3, c4, c5⟩ := b_f3 c hc
  obtain ⟨d1, d2, d3, d4, d5⟩ := b_f3 d hd
  have e1 : (a + 256 * (c + 256 * d)) / 2 &&& 1431655765 = (a / 2 &&& 85) + 256 * ((c / 2 &&& 85) + 256 * (d / 2 &&& 85)) := by
    rw [show (a + 256 * (c + 256 * d)) / 2 = (a / 2 + 128 * (c % 2)) + 256 * ((c / 2 + 128 * (d % 2)) + 256 * (d / 2 + 256 * 0)) by omega]
    rw [show (1431655765 : Nat) = 85 + 256 * (85 + 256 * (85 + 256 * 85)) from rfl]
    rw [b_and _ _ _ _ (by omega) (by omega), b_and _ _ _ _ (by omega) (by omega), b_and _ _ _ _ (by omega) (by omega)]
    rw [b_f1 a ha _ (by omega), b_f1 c hc _ (by omega), Nat.zero_and, Nat.mul_zero, Nat.add_zero]
  have e2 : a + 256 * (c + 256 * d) - ((a / 2 &&& 85) + 256 * ((c / 2 &&& 85) + 256 * (d / 2 &&& 85))) = b_1 a + 256 * (b_1 c + 256 * b_1 d) := by
    unfold b_1
    omega
  have e3 : (b_1 a + 256 * (b_1 c + 256 * b_1 d)) &&& 858993459 = (b_1 a &&& 51) + 256 * ((b_1 c &&& 51) + 256 * (b_1 d &&& 51)) := by
    rw [show (858993459 : Nat) = 51 + 256 * (51 + 256 * (51 + 256 * 51)) from rfl]
    rw [show b_1 d = b_1 d + 256 * 0 by omega]
    rw [b_and _ _ _ _ (by omega) (by omega), b_and _ _ _ _ (by omega) (by omega), b_and _ _ _ _ (by omega) (by omega), Nat.zero_and]
    simp only [Nat.mul_zero, Nat.add_zero]
  have e4 : (b_1 a + 256 * (b_1 c + 256 * b_1 d)) / 4 &&& 858993459 = (b_1 a / 4 &&& 51) + 256 * ((b_1 c / 4 &&& 51) + 256 * (b_1 d / 4 &&& 51)) := by
    rw [show (b_1 a + 256 * (b_1 c + 256 * b_1 d)) / 4 = (b_1 a / 4 + 64 * (b_1 c % 4)) + 256 * ((b_1 c / 4 + 64 * (b_1 d % 4)) + 256 * (b_1 d / 4 + 256 * 0)) by omega]
    rw [show (858993459 : Nat) = 51 + 256 * (51 + 256 * (51 + 256 * 51)) from rfl]
    rw [b_and _ _ _ _ (by omega) (by omega), b_and _ _ _ _ (by omega) (by omega), b_and _ _ _ _ (by omega) (by omega)]
    rw [b_f2 a ha _ (by omega), b_f2 c hc _ (by omega), Nat.zero_and, Nat.mul_zero, Nat.add_zero]
  have e5 : (b_1 a &&& 51) + 256 * ((b_1 c &&& 51) + 256 * (b_1 d &&& 51)) + ((b_1 a / 4 &&& 51) + 256 * ((b_1 c / 4 &&& 51) + 256 * (b_1 d / 4 &&& 51))) = b_2 a + 256 * (b_2 c + 256 * b_2 d) := by
    unfold b_2
    omega
  have e6 : (b_2 a + 256 * (b_2 c + 256 * b_2 d) + (b_2 a + 256 * (b_2 c + 256 * b_2 d)) / 16) &&& 252645135 = b_3 a + 256 * (b_3 c + 256 * b_3 d) := by
    rw [show b_2 a + 256 * (b_2 c + 256 * b_2 d) + (b_2 a + 256 * (b_2 c + 256 * b_2 d)) / 16 = (b_2 a + b_2 a / 16 + 16 * (b_2 c % 16)) + 256 * ((b_2 c + b_2 c / 16 + 16 * (b_2 d % 16)) + 256 * ((b_2 d + b_2 d / 16) + 256 * 0)) by omega]
    rw [show (252645135 : Nat) = 15 + 256 * (15 + 256 * (15 + 256 * 15)) from rfl]
    rw [b_and _ _ _ _ (by omega) (by omega), b_and _ _ _ _ (by omega) (by omega), b_and _ _ _ _ (by omega) (by omega)]
    rw [b_f4 _ (by omega) _ (by omega), b_f4 _ (by omega) _ (by omega), Nat.zero_and]
    rfl
  have e7 : b_3 a + 256 * (b_3 c + 256 * b_3 d) + (b_3 a + 256 * (b_3 c + 256 * b_3 d)) / 256 = (b_3 a + b_3 c) + 256 * ((b_3 c + b_3 d) + 256 * b_3 d) := by omega
  have e8 : (b_3 a + b_3 c) + 256 * ((b_3 c + b_3 d) + 256 * b_3 d) + ((b_3 a + b_3 c) + 256 * ((b_3 c + b_3 d) + 256 * b_3 d)) / 65536 = (b_3 a + b_3 c + b_3 d) + 256 * ((b_3 c + b_3 d) + 256 * b_3 d) := by omega
  unfold zbc
  simp only [e1, e2, e3, e4, e5, e6, e7, e8]
  rw [show (63 : Nat) = 63 + 256 * 0 from rfl, b_and _ _ _ _ (by omega) (by omega), Nat.and_zero, show (63 : Nat) = 2 ^ 6 - 1 from rfl, Nat.and_two_pow_sub_one_eq_mod]
  omega
theorem zbc_0 : zbc 0 = 0 := by decide +kernel
theorem zbc_or {x t : Nat} (hx : x < 2 ^ 20) (ht : t < 20) : zbc (x ||| 2 ^ t) ≤ zbc x + 1 := by
  obtain ⟨a, c, d, ha, hc, hd, e⟩ : ∃ a c d, a < 256 ∧ c < 256 ∧ d < 256 ∧ x = a + 256 * (c + 256 * d) := ⟨x % 256, x / 256 % 256, x / 65536, by omega, by omega, by omega, by omega⟩
  subst e
  rw [zbc_eq ha hc hd]
  rcases Nat.lt_or_ge t 8 with h | h
  · have hp : 2 ^ t < 256 := Nat.pow_lt_pow_right (by omega) h
    rw [show 2 ^ t = 2 ^ t + 256 * (0 + 256 * 0) by omega, b_or _ _ _ _ ha hp, Nat.or_zero]
    obtain ⟨h1, h2⟩ := b_f5 a ha t h
    rw [zbc_eq h2 hc hd]
    omega
  rcases Nat.lt_or_ge t 16 with h3 | h3
  · have hp : 2 ^ (t - 8) < 256 := Nat.pow_lt_pow_right (m := t - 8) (n := 8) (by omega) (by omega)
    have hq : 2 ^ t = 0 + 256 * (2 ^ (t - 8) + 256 * 0) := by
      rw [show 2 ^ t = 2 ^ (t - 8 + 8) by rw [show t - 8 + 8 = t by omega], Nat.pow_add]
      omega
    rw [hq, b_or _ _ _ _ ha (by omega), b_or _ _ _ _ hc hp, Nat.or_zero, Nat.or_zero]
    obtain ⟨h1, h2⟩ := b_f5 c hc (t - 8) (by omega)
    rw [zbc_eq ha h2 hd]
    omega
  · have hp : 2 ^ (t - 16) < 256 := Nat.pow_lt_pow_right (m := t - 16) (n := 8) (by omega) (by omega)
    have hq : 2 ^ t = 0 + 256 * (0 + 256 * 2 ^ (t - 16)) := by
      rw [show 2 ^ t = 2 ^ (t - 16 + 16) by rw [show t - 16 + 16 = t by omega], Nat.pow_add]
      omega
    rw [hq, b_or _ _ _ _ ha (by omega), b_or _ _ _ _ hc (by omega), Nat.or_zero, Nat.or_zero]
    obtain ⟨h1, h2⟩ := b_f5 d hd (t - 16) (by omega)
    rw [zbc_eq ha hc h2]
    omega
theorem z_shl : ∀ t, t < 20 → nI 1 <<< (nI t &&& 31) = nI (2 ^ t) := by decide +kernel
theorem c_bitCount {H : zH} (x : Nat) (hx : x < 2 ^ 20) : zcalls zTB 98 [.int (nI x)] H (some (.int (nI (zbc x))), H) := by
  refine zcalls_of (Nat.le_of_ble_eq_true rfl) ?_
  show zruns zTB 98 0 [some (.int (nI x))] [] _ _
  have k1 : (x / 2 &&& 1431655765) ≤ x := Nat.le_trans Nat.and_le_left (Nat.div_le_self _ _)
  have k2 := Nat.and_le_left (n := x - (x / 2 &&& 1431655765)) (m := 858993459)
  have k3 := Nat.and_le_left (n := (x - (x / 2 &&& 1431655765)) / 4) (m := 858993459)
  have k4 := Nat.and_le_left (n := (x - (x / 2 &&& 1431655765) &&& 858993459) + ((x - (x / 2 &&& 1431655765)) / 4 &&& 858993459) + ((x - (x / 2 &&& 1431655765) &&& 858993459) + ((x - (x / 2 &&& 1431655765)) / 4 &&& 858993459)) / 16) (m := 252645135)
  refine zr_iload_n (pc' := 1) zi_98_0 rfl rfl ?_
  refine zr_iload_n (pc' := 2) zi_98_1 rfl rfl ?_
  refine zr_iconst (v := (nI 1)) (pc' := 3) zi_98_2 rfl rfl ?_
  refine zr_iushr (pc' := 4) zi_98_3 rfl rfl ?_
  rw [pk_ushrN (by omega) (nI 1) 1 (by decide), show 2 ^ 1 = 2 from rfl]
  refine zr_ldc_w (v := (nI 1431655765)) (pc' := 7) zi_98_4 rfl rfl ?_
  refine zr_iand (pc' := 8) zi_98_7 rfl rfl ?_
  rw [n_and]
  refine zr_isub (pc' := 9) zi_98_8 (by first | exact pk_sub (by omega) | rfl) rfl ?_
  refine zr_istore_n (pc' := 10) zi_98_9 (Nat.le_of_ble_eq_true rfl) rfl rfl ?_
  dsimp only [zst1, zst2, zkill, List.set, List.getElem?_cons_succ, List.getElem?_cons_zero]
  refine zr_iload_n (pc' := 11) zi_98_10 rfl rfl ?_
  refine zr_ldc_w (v := (nI 858993459)) (pc' := 14) zi_98_11 rfl rfl ?_
  refine zr_iand (pc' := 15) zi_98_14 rfl rfl ?_
  rw [n_and]
  refine zr_iload_n (pc' := 16) zi_98_15 rfl rfl ?_
  refine zr_iconst (v := (nI 2)) (pc' := 17) zi_98_16 rfl rfl ?_
  refine zr_iushr (pc' := 18) zi_98_17 rfl rfl ?_
  rw [pk_ushrN (by omega) (nI 2) 2 (by decide), show 2 ^ 2 = 4 from rfl]
  refine zr_ldc_w (v := (nI 858993459)) (pc' := 21) zi_98_18 rfl rfl ?_
  refine zr_iand (pc' := 22) zi_98_21 rfl rfl ?_
  rw [n_and]
  refine zr_iadd (pc' := 23) zi_98_22 (by first | exact nI_add _ _ | rfl) rfl ?_
  refine zr_istore_n (pc' := 24) zi_98_23 (Nat.le_of_ble_eq_true rfl) rfl rfl ?_
  dsimp only [zst1, zst2, zkill, List.set, List.getElem?_cons_succ, List.getElem?_cons_zero]
  refine zr_iload_n (pc' := 25) zi_98_24 rfl rfl ?_
  refine zr_iload_n (pc' := 26) zi_98_25 rfl rfl ?_
  refine zr_iconst (v := (nI 4)) (pc' := 27) zi_98_26 rfl rfl ?_
  refine zr_iushr (pc' := 28) zi_98_27 rfl rfl ?_
  rw [pk_ushrN (by omega) (nI 4) 4 (by decide), show 2 ^ 4 = 16 from rfl]
  refine zr_iadd (pc' := 29) zi_98_28 (by first | exact nI_add _ _ | rfl) rfl ?_
  refine zr_ldc_w (v := (nI 252645135)) (pc' := 32) zi_98_29 rfl rfl ?_
  refine zr_iand (pc' := 33) zi_98_32 rfl rfl ?_
  rw [n_and]
  refine zr_istore_n (pc' := 34) zi_98_33 (Nat.le_of_ble_eq_true rfl) rfl rfl ?_
  dsimp only [zst1, zst2, zkill, List.set, List.getElem?_cons_succ, List.getElem?_cons_zero]
  refine zr_iload_n (pc' := 35) zi_98_34 rfl rfl ?_
  refine zr_iload_n (pc' := 36) zi_98_35 rfl rfl ?_
  refine zr_bipush (v := (nI 8)) (pc' := 38) zi_98_36 rfl rfl ?_
  refine zr_iushr (pc' := 39) zi_98_38 rfl rfl ?_
  rw [pk_ushrN (by omega) (nI 8) 8 (by decide), show 2 ^ 8 = 256 from rfl]
  refine zr_iadd (pc' := 40) zi_98_39 (by first | exact nI_add _ _ | rfl) rfl ?_
  refine zr_istore_n (pc' := 41) zi_98_40 (Nat.le_of_ble_eq_true rfl) rfl rfl ?_
  dsimp only [zst1, zst2, zkill, List.set, List.getElem?_cons_succ, List.getElem?_cons_zero]
  refine zr_iload_n (pc' := 42) zi_98_41 rfl rfl ?_
  refine zr_iload_n (pc' := 43) zi_98_42 rfl rfl ?_
  refine zr_bipush (v := (nI 16)) (pc' := 45) zi_98_43 rfl rfl ?_
  refine zr_iushr (pc' := 46) zi_98_45 rfl rfl ?_
  rw [pk_ushrN (by omega) (nI 16) 16 (by decide), show 2 ^ 16 = 65536 from rfl]
  refine zr_iadd (pc' := 47) zi_98_46 (by first | exact nI_add _ _ | rfl) rfl ?_
  refine zr_istore_n (pc' := 48) zi_98_47 (Nat.le_of_ble_eq_true rfl) rfl rfl ?_
  dsimp only [zst1, zst2, zkill, List.set, List.getElem?_cons_succ, List.getElem?_cons_zero]
  refine zr_iload_n (pc' := 49) zi_98_48 rfl rfl ?_
  refine zr_bipush (v := (nI 63)) (pc' := 51) zi_98_49 rfl rfl ?_
  refine zr_iand (pc' := 52) zi_98_51 rfl rfl ?_
  rw [n_and]
  exact zr_ireturn zi_98_52 rfl
section
variable {b : Nat} {F : Nat → Nat → Int32} {g : Nat → Nat} {h : zH}
theorem l_howManyTemplates (hb : b + 71 ≤ h.length) {S : Nat} {gap : Int32} {n : Nat} {C : Nat → Nat → Nat} {Z : Nat → Nat} (q : zses F S gap n C Z) (hn : n ≤ 70) (s : Nat) (hs : s < S) (ht : ∀ k, k < Z s → ∃ t, t < 20 ∧ F 5 (C s k) = nI t) (x : Nat) (hx : x < 2 ^ 20) (l : Int32) (k : Nat) (hk : k ≤ Z s) (hl : k < Z s → l = nI (C s k)) (hc : zbc x ≤ k) : zev 70 15 [some (.ref (b + 26)), some (.ref (b + 1)), some (.int (nI s)), some (.int (nI x)), some (.int l), some (.int (nI k))] [] (nput b F g h) (zQi (nput b F g h) fun r => ∃ a, a ≤ Z s ∧ r = nI a) := by
  obtain ⟨hz0, hzn, hz1, hz2, hz3, _⟩ := q.sz s hs
  have hle := q.le
  refine zev_of (fun _ kk => zr_iload (pc' := 17) zi_70_15 rfl rfl kk) ?_
  refine zev_of (fun _ kk => zr_aload_n (pc' := 18) zi_70_17 rfl rfl kk) ?_
  refine zev_of (fun _ kk => zr_get (pc' := 21) zi_70_18 (nput_at hb (k := 26) rfl) rfl rfl kk) ?_
  refine zev_of (fun _ kk => zr_iload_n (pc' := 22) zi_70_21 rfl rfl kk) ?_
  refine zev_of (fun _ kk => zr_atN (pc' := 25) (by omega) zi_70_22 hb rfl rfl (by decide) rfl rfl kk) ?_
  rw [hz3]
  refine zv_icmp (pc' := 28) zi_70_25 rfl (fun h25 => ?_) (fun h25 => ?_)
  · replace h25 := zc_ge_t (by omega) (by omega) h25
    refine zev_of (fun _ kk => zr_iload_n (pc' := 60) zi_70_59 rfl rfl kk) ?_
    refine zev_of (fun _ kk => zr_s1 (pc' := 63) zi_70_60 rfl (c_bitCount x hx) rfl kk) ?_
    refine zev_ret (zr_ireturn zi_70_63 rfl) ?_
    exact ⟨_, ⟨zbc x, by omega, rfl⟩, rfl⟩
  · replace h25 := zc_ge_f (by omega) (by omega) h25
    have hl' := hl h25
    subst hl'
    have hcn := (q.el s hs k h25).1
    obtain ⟨t, ht20, hte⟩ := ht k h25
    refine zev_of (fun _ kk => zr_iload_n (pc' := 29) zi_70_28 rfl rfl kk) ?_
    refine zev_of (fun _ kk => zr_iconst (v := (nI 1)) (pc' := 30) zi_70_29 rfl rfl kk) ?_
    refine zev_of (fun _ kk => zr_aload_n (pc' := 31) zi_70_30 rfl rfl kk) ?_
    refine zev_of (fun _ kk => zr_get (pc' := 34) zi_70_31 (nput_at hb (k := 1) rfl) rfl rfl kk) ?_
    refine zev_of (fun _ kk => zr_iload (pc' := 36) zi_70_34 rfl rfl kk) ?_
    refine zev_of (fun _ kk => zr_atN (pc' := 39) (by omega) zi_70_36 hb rfl rfl (by decide) rfl rfl kk) ?_
    rw [hte]
    refine zev_of (fun _ kk => zr_ishl (pc' := 40) zi_70_39 rfl rfl kk) ?_
    rw [z_shl t ht20]
    refine zev_of (fun _ kk => zr_ior (pc' := 41) zi_70_40 rfl rfl kk) ?_
    rw [n_or]
    refine zev_of (fun _ kk => zr_istore_n (pc' := 42) zi_70_41 (Nat.le_of_ble_eq_true rfl) rfl rfl kk) ?_
    dsimp only [zst1, zst2, zkill, List.set, List.getElem?_cons_succ, List.getElem?_cons_zero]
    refine zev_of (fun _ kk => zr_aload_n (pc' := 43) zi_70_42 rfl rfl kk) ?_
    refine zev_of (fun _ kk => zr_get (pc' := 46) zi_70_43 (nput_at hb (k := 26) rfl) rfl rfl kk) ?_
    refine zev_of (fun _ kk => zr_iload (pc' := 48) zi_70_46 rfl rfl kk) ?_
    refine zev_of (fun _ kk => zr_at (pc' := 51) zi_70_48 hb rfl rfl (by decide) rfl rfl kk) ?_
    refine zev_of (fun _ kk => zr_istore (pc' := 53) zi_70_51 (Nat.le_of_ble_eq_true rfl) rfl rfl kk) ?_
    dsimp only [zst1, zst2, zkill, List.set, List.getElem?_cons_succ, List.getElem?_cons_zero]
    refine zev_of (fun _ kk => zr_iinc (pc' := 56) zi_70_53 rfl (by first | exact n_inc _ | rfl) rfl rfl kk) ?_
    dsimp only [zst1, zst2, zkill, List.set, List.getElem?_cons_succ, List.getElem?_cons_zero]
    refine zev_of (fun _ kk => zr_goto zi_70_56 kk) ?_
    have hp : 2 ^ t < 2 ^ 20 := Nat.pow_lt_pow_right (by omega) ht20
    refine l_howManyTemplates hb q hn s hs ht (x ||| 2 ^ t) (Nat.or_lt_two_pow hx hp) _ (k + 1) (by omega) (fun hk1 => ?_) (by have := zbc_or hx ht20; omega)
    rw [rat_n (by omega) (by omega)]
    exact (q.ch s hs k hk1).2.1
termination_by Z s - k
theorem c_howManyTemplates (hb : b + 71 ≤ h.length) {S : Nat} {gap : Int32} {n : Nat} {C : Nat → Nat → Nat} {Z : Nat → Nat} (q : zses F S gap n C Z) (hn : n ≤ 70) (s : Nat) (hs : s < S) (ht : ∀ k, k < Z s → ∃ t, t < 20 ∧ F 5 (C s k) = nI t) : ∃ r, (∃ a, a ≤ Z s ∧ r = nI a) ∧ zcalls zTB 70 [.ref (b + 26), .ref (b + 1), .int (nI s)] (nput b F g h) (some (.int r), nput b F g h) := by
  have hle := q.le
  refine zQi_out (zev_calls (Nat.le_of_ble_eq_true rfl) ?_)
  show zev 70 0 [some (.ref (b + 26)), some (.ref (b + 1)), some (.int (nI s)), none, none, none] [] _ _
  refine zev_of (fun _ kk => zr_iconst (v := (nI 0)) (pc' := 1) zi_70_0 rfl rfl kk) ?_
  refine zev_of (fun _ kk => zr_istore_n (pc' := 2) zi_70_1 (Nat.le_of_ble_eq_true rfl) rfl rfl kk) ?_
  dsimp only [zst1, zst2, zkill, List.set, List.getElem?_cons_succ, List.getElem?_cons_zero]
  refine zev_of (fun _ kk => zr_aload_n (pc' := 3) zi_70_2 rfl rfl kk) ?_
  refine zev_of (fun _ kk => zr_get (pc' := 6) zi_70_3 (nput_at hb (k := 26) rfl) rfl rfl kk) ?_
  refine zev_of (fun _ kk => zr_iload_n (pc' := 7) zi_70_6 rfl rfl kk) ?_
  refine zev_of (fun _ kk => zr_atN (pc' := 10) (by omega) zi_70_7 hb rfl rfl (by decide) rfl rfl kk) ?_
  refine zev_of (fun _ kk => zr_istore (pc' := 12) zi_70_10 (Nat.le_of_ble_eq_true rfl) rfl rfl kk) ?_
  dsimp only [zst1, zst2, zkill, List.set, List.getElem?_cons_succ, List.getElem?_cons_zero]
  refine zev_of (fun _ kk => zr_iconst (v := (nI 0)) (pc' := 13) zi_70_12 rfl rfl kk) ?_
  refine zev_of (fun _ kk => zr_istore (pc' := 15) zi_70_13 (Nat.le_of_ble_eq_true rfl) rfl rfl kk) ?_
  dsimp only [zst1, zst2, zkill, List.set, List.getElem?_cons_succ, List.getElem?_cons_zero]
  exact l_howManyTemplates hb q hn s hs ht 0 (by omega) _ 0 (Nat.zero_le _) (fun _ => (q.sz s hs).2.2.1) (by rw [zbc_0]; omega)
end


theorem zi_10_19 : zI 10 19 = some (.iconst 0, []) := by decide +kernel
theorem zi_17_19 : zI 17 19 = some (.iconst 0, []) := by decide +kernel
theorem zi_44_19 : zI 44 19 = some (.iconst 0, []) := by decide +kernel
theorem zi_63_0 : zI 63 0 = some (.iconst 0, []) := by decide +kernel
theorem zi_63_1 : zI 63 1 = some (.istore_n 1, []) := by decide +kernel
theorem zi_63_2 : zI 63 2 = some (.iload_n 1, []) := by decide +kernel
theorem zi_63_3 : zI 63 3 = some (.aload_n 0, []) := by decide +kernel
theorem zi_63_4 : zI 63 4 = some (.getfield 38, [0, 7, 231]) := by decide +kernel
theorem zi_63_7 : zI 63 7 = some (.if_icmp .ge 18, [25]) := by decide +kernel
theorem zi_63_25 : zI 63 25 = some (.aload_n 0, []) := by decide +kernel
theorem zi_63_26 : zI 63 26 = some (.iconst 0, []) := by decide +kernel
theorem zi_63_27 : zI 63 27 = some (.putfield 50, [0, 8, 0, 114]) := by decide +kernel
theorem zi_63_30 : zI 63 30 = some (.return_, []) := by decide +kernel
theorem zi_120_0 : zI 120 0 = some (.aload_n 0, []) := by decide +kernel
theorem zi_120_1 : zI 120 1 = some (.getfield 12, [6, 0, 34]) := by decide +kernel
theorem zi_120_4 : zI 120 4 = some (.getfield 101, [0, 8, 81]) := by decide +kernel
theorem zi_120_7 : zI 120 7 = some (.istore_n 1, []) := by decide +kernel
theorem zi_120_8 : zI 120 8 = some (.aload_n 0, []) := by decide +kernel
theorem zi_120_9 : zI 120 9 = some (.getfield 12, [6, 0, 34]) := by decide +kernel
theorem zi_120_12 : zI 120 12 = some (.invokevirtual 123, [63, 0, 0, 0, 521, 522, 53, 520, 0, 519]) := by decide +kernel
theorem zi_120_15 : zI 120 15 = some (.aload_n 0, []) := by decide +kernel
theorem zi_120_16 : zI 120 16 = some (.getfield 19, [6, 1, 13]) := by decide +kernel
theorem zi_120_19 : zI 120 19 = some (.iconst 0, []) := by decide +kernel
theorem zi_120_20 : zI 120 20 = some (.putfield 126, [5, 2, 0, 14]) := by decide +kernel
theorem zi_120_23 : zI 120 23 = some (.aload_n 0, []) := by decide +kernel
theorem zi_120_24 : zI 120 24 = some (.invokevirtual 93, [21, 0, 0, 6, 509, 510, 118, 508, 0, 507]) := by decide +kernel
theorem zi_120_27 : zI 120 27 = some (.iload_n 1, []) := by decide +kernel
theorem zi_120_28 : zI 120 28 = some (.ireturn, []) := by decide +kernel
theorem zi_126_0 : zI 126 0 = some (.iload_n 1, []) := by decide +kernel
theorem zi_126_1 : zI 126 1 = some (.bipush 100, []) := by decide +kernel
theorem zi_126_3 : zI 126 3 = some (.invokestatic 60, [5, 1, 2, 0, 361, 0, 118, 360, 0, 359]) := by decide +kernel
theorem zi_126_6 : zI 126 6 = some (.ifCond .ne 14, [20]) := by decide +kernel
theorem zi_126_20 : zI 126 20 = some (.aload_n 0, []) := by decide +kernel
theorem zi_126_21 : zI 126 21 = some (.getfield 23, [6, 2, 487]) := by decide +kernel
theorem zi_126_24 : zI 126 24 = some (.iconst 0, []) := by decide +kernel
theorem zi_126_25 : zI 126 25 = some (.putfield 126, [5, 2, 0, 14]) := by decide +kernel
theorem zi_126_28 : zI 126 28 = some (.iconst 0, []) := by decide +kernel
theorem zi_126_29 : zI 126 29 = some (.istore_n 2, []) := by decide +kernel
theorem zi_126_30 : zI 126 30 = some (.iload_n 2, []) := by decide +kernel
theorem zi_126_31 : zI 126 31 = some (.aload_n 0, []) := by decide +kernel
theorem zi_126_32 : zI 126 32 = some (.getfield 12, [6, 0, 34]) := by decide +kernel
theorem zi_126_35 : zI 126 35 = some (.getfield 71, [0, 7, 35]) := by decide +kernel
theorem zi_126_38 : zI 126 38 = some (.if_icmp .ge 23, [61]) := by decide +kernel
theorem zi_126_61 : zI 126 61 = some (.aload_n 0, []) := by decide +kernel
theorem zi_126_62 : zI 126 62 = some (.getfield 23, [6, 2, 487]) := by decide +kernel
theorem zi_126_65 : zI 126 65 = some (.getfield 126, [5, 2, 14]) := by decide +kernel
theorem zi_126_68 : zI 126 68 = some (.ireturn, []) := by decide +kernel
theorem zi_128_0 : zI 128 0 = some (.aload_n 0, []) := by decide +kernel
theorem zi_128_1 : zI 128 1 = some (.iload_n 1, []) := by decide +kernel
theorem zi_128_2 : zI 128 2 = some (.invokevirtual 135, [17, 0, 1, 6, 369, 370, 118, 368, 0, 367]) := by decide +kernel
theorem zi_128_5 : zI 128 5 = some (.ifCond .ne 13, [18]) := by decide +kernel
/-! THE CLASS WITHOUT LINES: what each call answers -/
section CF
variable {b : Nat} {F : Nat → Nat → Int32} {h : zH}
theorem nI_ofP {x : Int32} (hx : nI 0 ≤ x) : ∃ n : Nat, x = nI n ∧ n = x.toNatClampNeg ∧ n < 2 ^ 31 := by
  have h0 : (0 : Int) ≤ x.toInt := Int32.le_iff_toInt_le.mp hx
  have h1 := Int32.toInt_lt x
  refine ⟨x.toNatClampNeg, ?_, rfl, ?_⟩
  · apply Int32.toInt_inj.mp
    have h2 : x.toNatClampNeg = x.toInt.toNat := rfl
    rw [h2]
    show x.toInt = (Int32.ofNat x.toInt.toNat).toInt
    rw [Int32.toInt_ofNat_of_lt (by omega)]
    omega
  · have h2 : x.toNatClampNeg = x.toInt.toNat := rfl
    omega
theorem c_isW1 {H : zH} {x z : Int32} (q : nI 0 ≤ x ∧ x ≤ z) : zcalls zTB 5 [.int x, .int z] H (some (.int 1), H) := by
  have k := c_isWithin (H := H) x z
  have q2 : 0 ≤ x ∧ x ≤ z := q
  rwa [if_pos q2] at k
theorem c_isW0 {H : zH} {x z : Int32} (q : ¬ (nI 0 ≤ x ∧ x ≤ z)) : zcalls zTB 5 [.int x, .int z] H (some (.int 0), H) := by
  have k := c_isWithin (H := H) x z
  have q2 : ¬ (0 ≤ x ∧ x ≤ z) := q
  rwa [if_neg q2] at k
theorem c_ge0 {x : Int32} (h1 : ¬ x < 0) (h2 : zcnd .ge x (nI 0) = false) : False := by
  have := zx_ge_f h2
  exact this (Int32.not_lt.mp h1)
theorem c_hasLine0 (hb : b + 71 ≤ h.length) (x : Int32) : zcalls zTB 17 [.ref b, .int x] (nput b F (fun _ => 0) h) (some (.int 0), nput b F (fun _ => 0) h) := by
  refine zcalls_of (Nat.le_of_ble_eq_true rfl) ?_
  show zruns zTB 17 0 [some (.ref b), some (.int x)] [] _ _
  refine zr_iload_n (pc' := 1) zi_17_0 rfl rfl ?_
  refine zr_if (pc' := 4) zi_17_1 rfl (fun h1 => ?_) (fun h1 => ?_)
  · replace h1 := zx_lt_t h1
    refine zr_iconst (v := (nI 0)) (pc' := 20) zi_17_19 rfl rfl ?_
    exact zr_zreturn zi_17_20 rfl (by decide)
  · replace h1 := zx_lt_f h1
    refine zr_iload_n (pc' := 5) zi_17_4 rfl rfl ?_
    refine zr_aload_n (pc' := 6) zi_17_5 rfl rfl ?_
    refine zr_get (pc' := 9) zi_17_6 (nput_at hb (k := 0) rfl) rfl rfl ?_
    refine zr_get (pc' := 12) zi_17_9 (nput_at hb (k := 1) rfl) rfl rfl ?_
    refine zr_icmp (pc' := 15) zi_17_12 rfl (fun h12 => ?_) (fun h12 => ?_)
    · replace h12 := zx_ge_t h12
      refine zr_iconst (v := (nI 0)) (pc' := 20) zi_17_19 rfl rfl ?_
      exact zr_zreturn zi_17_20 rfl (by decide)
    · replace h12 := zx_ge_f h12
      exact (h12 (Int32.not_lt.mp h1)).elim
theorem c_hasTemplate0 (hb : b + 71 ≤ h.length) (x : Int32) : zcalls zTB 10 [.ref b, .int x] (nput b F (fun _ => 0) h) (some (.int 0), nput b F (fun _ => 0) h) := by
  refine zcalls_of (Nat.le_of_ble_eq_true rfl) ?_
  show zruns zTB 10 0 [some (.ref b), some (.int x)] [] _ _
  refine zr_iload_n (pc' := 1) zi_10_0 rfl rfl ?_
  refine zr_if (pc' := 4) zi_10_1 rfl (fun h1 => ?_) (fun h1 => ?_)
  · replace h1 := zx_lt_t h1
    refine zr_iconst (v := (nI 0)) (pc' := 20) zi_10_19 rfl rfl ?_
    exact zr_zreturn zi_10_20 rfl (by decide)
  · replace h1 := zx_lt_f h1
    refine zr_iload_n (pc' := 5) zi_10_4 rfl rfl ?_
    refine zr_aload_n (pc' := 6) zi_10_5 rfl rfl ?_
    refine zr_get (pc' := 9) zi_10_6 (nput_at hb (k := 0) rfl) rfl rfl ?_
    refine zr_get (pc' := 12) zi_10_9 (nput_at hb (k := 16) rfl) rfl rfl ?_
    refine zr_icmp (pc' := 15) zi_10_12 rfl (fun h12 => ?_) (fun h12 => ?_)
    · replace h12 := zx_ge_t h12
      refine zr_iconst (v := (nI 0)) (pc' := 20) zi_10_19 rfl rfl ?_
      exact zr_zreturn zi_10_20 rfl (by decide)
    · replace h12 := zx_ge_f h12
      exact (h12 (Int32.not_lt.mp h1)).elim
theorem c_hasSession0 (hb : b + 71 ≤ h.length) (x : Int32) : zcalls zTB 44 [.ref b, .int x] (nput b F (fun _ => 0) h) (some (.int 0), nput b F (fun _ => 0) h) := by
  refine zcalls_of (Nat.le_of_ble_eq_true rfl) ?_
  show zruns zTB 44 0 [some (.ref b), some (.int x)] [] _ _
  refine zr_iload_n (pc' := 1) zi_44_0 rfl rfl ?_
  refine zr_if (pc' := 4) zi_44_1 rfl (fun h1 => ?_) (fun h1 => ?_)
  · replace h1 := zx_lt_t h1
    refine zr_iconst (v := (nI 0)) (pc' := 20) zi_44_19 rfl rfl ?_
    exact zr_zreturn zi_44_20 rfl (by decide)
  · replace h1 := zx_lt_f h1
    refine zr_iload_n (pc' := 5) zi_44_4 rfl rfl ?_
    refine zr_aload_n (pc' := 6) zi_44_5 rfl rfl ?_
    refine zr_get (pc' := 9) zi_44_6 (nput_at hb (k := 0) rfl) rfl rfl ?_
    refine zr_get (pc' := 12) zi_44_9 (nput_at hb (k := 26) rfl) rfl rfl ?_
    refine zr_icmp (pc' := 15) zi_44_12 rfl (fun h12 => ?_) (fun h12 => ?_)
    · replace h12 := zx_ge_t h12
      refine zr_iconst (v := (nI 0)) (pc' := 20) zi_44_19 rfl rfl ?_
      exact zr_zreturn zi_44_20 rfl (by decide)
    · replace h12 := zx_ge_f h12
      exact (h12 (Int32.not_lt.mp h1)).elim
theorem c_mixX {H : zH} (d : Int64) (x : Int32) : zcalls zTB 6 [.long d, .int x] H (some (.long (d * 31 + x.toInt64)), H) := by
  refine zcalls_of (Nat.le_of_ble_eq_true rfl) ?_
  show zruns zTB 6 0 [some (.long d), none, some (.int x)] [] _ _
  refine zr_lload_n (pc' := 1) zi_6_0 rfl rfl ?_
  refine zr_ldc2_w (pc' := 4) zi_6_1 rfl rfl ?_
  refine zr_lmul (pc' := 5) zi_6_4 rfl rfl ?_
  refine zr_iload_n (pc' := 6) zi_6_5 rfl rfl ?_
  refine zr_i2l (pc' := 7) zi_6_6 rfl ?_
  refine zr_ladd (pc' := 8) zi_6_7 rfl rfl ?_
  exact zr_lreturn zi_6_8 rfl
/-! throws: the way to 'new' -/
theorem x_ofLine (hb : b + 71 ≤ h.length) (x : Int32) (w : Int32) : ∃ L, zgt 95 0 (zentry 3 [.ref b, .int x, .int w]) [] (nput b F (fun _ => 0) h) (8, L, [], nput b F (fun _ => 0) h) := by
  apply Exists.intro
  show zgt 95 0 [some (.ref b), some (.int x), some (.int w)] [] _ _
  refine zg_aload_n (pc' := 1) zi_95_0 rfl rfl ?_
  refine zg_iload_n (pc' := 2) zi_95_1 rfl rfl ?_
  refine zg_v1 (pc' := 5) zi_95_2 (nput_at hb (k := 0) rfl) rfl (c_hasLine0 hb _) rfl ?_
  refine zg_iff (pc' := 8) zi_95_5 rfl rfl ?_
  exact zgt_here _ _ _ _ _
theorem x_wordAt (hb : b + 71 ≤ h.length) (x : Int32) (w : Int32) : ∃ L, zgt 121 0 (zentry 3 [.ref b, .int x, .int w]) [] (nput b F (fun _ => 0) h) (8, L, [], nput b F (fun _ => 0) h) := by
  apply Exists.intro
  show zgt 121 0 [some (.ref b), some (.int x), some (.int w)] [] _ _
  refine zg_aload_n (pc' := 1) zi_121_0 rfl rfl ?_
  refine zg_iload_n (pc' := 2) zi_121_1 rfl rfl ?_
  refine zg_v1 (pc' := 5) zi_121_2 (nput_at hb (k := 0) rfl) rfl (c_hasLine0 hb _) rfl ?_
  refine zg_iff (pc' := 8) zi_121_5 rfl rfl ?_
  exact zgt_here _ _ _ _ _
theorem x_ofTemplate (hb : b + 71 ≤ h.length) (x : Int32) (w : Int32) : ∃ L, zgt 96 0 (zentry 3 [.ref b, .int x, .int w]) [] (nput b F (fun _ => 0) h) (8, L, [], nput b F (fun _ => 0) h) := by
  apply Exists.intro
  show zgt 96 0 [some (.ref b), some (.int x), some (.int w)] [] _ _
  refine zg_aload_n (pc' := 1) zi_96_0 rfl rfl ?_
  refine zg_iload_n (pc' := 2) zi_96_1 rfl rfl ?_
  refine zg_v1 (pc' := 5) zi_96_2 (nput_at hb (k := 0) rfl) rfl (c_hasTemplate0 hb _) rfl ?_
  refine zg_iff (pc' := 8) zi_96_5 rfl rfl ?_
  exact zgt_here _ _ _ _ _
theorem x_slot (hb : b + 71 ≤ h.length) (x : Int32) (w : Int32) : ∃ L, zgt 97 0 (zentry 3 [.ref b, .int x, .int w]) [] (nput b F (fun _ => 0) h) (8, L, [], nput b F (fun _ => 0) h) := by
  apply Exists.intro
  show zgt 97 0 [some (.ref b), some (.int x), some (.int w)] [] _ _
  refine zg_aload_n (pc' := 1) zi_97_0 rfl rfl ?_
  refine zg_iload_n (pc' := 2) zi_97_1 rfl rfl ?_
  refine zg_v1 (pc' := 5) zi_97_2 (nput_at hb (k := 0) rfl) rfl (c_hasTemplate0 hb _) rfl ?_
  refine zg_iff (pc' := 8) zi_97_5 rfl rfl ?_
  exact zgt_here _ _ _ _ _
theorem x_values (hb : b + 71 ≤ h.length) (x : Int32) (w : Int32) : ∃ L, zgt 98 0 (zentry 4 [.ref b, .int x, .int w]) [] (nput b F (fun _ => 0) h) (8, L, [], nput b F (fun _ => 0) h) := by
  apply Exists.intro
  show zgt 98 0 [some (.ref b), some (.int x), some (.int w), none] [] _ _
  refine zg_aload_n (pc' := 1) zi_98_0 rfl rfl ?_
  refine zg_iload_n (pc' := 2) zi_98_1 rfl rfl ?_
  refine zg_v1 (pc' := 5) zi_98_2 (nput_at hb (k := 0) rfl) rfl (c_hasTemplate0 hb _) rfl ?_
  refine zg_iff (pc' := 8) zi_98_5 rfl rfl ?_
  exact zgt_here _ _ _ _ _
theorem x_alike (hb : b + 71 ≤ h.length) (x : Int32) (w : Int32) : ∃ L, zgt 122 0 (zentry 3 [.ref b, .int x, .int w]) [] (nput b F (fun _ => 0) h) (8, L, [], nput b F (fun _ => 0) h) := by
  apply Exists.intro
  show zgt 122 0 [some (.ref b), some (.int x), some (.int w)] [] _ _
  refine zg_aload_n (pc' := 1) zi_122_0 rfl rfl ?_
  refine zg_iload_n (pc' := 2) zi_122_1 rfl rfl ?_
  refine zg_v1 (pc' := 5) zi_122_2 (nput_at hb (k := 0) rfl) rfl (c_hasLine0 hb _) rfl ?_
  refine zg_iff (pc' := 8) zi_122_5 rfl rfl ?_
  exact zgt_here _ _ _ _ _
theorem x_ofSession (hb : b + 71 ≤ h.length) (x : Int32) (w : Int32) : ∃ L, zgt 99 0 (zentry 3 [.ref b, .int x, .int w]) [] (nput b F (fun _ => 0) h) (8, L, [], nput b F (fun _ => 0) h) := by
  apply Exists.intro
  show zgt 99 0 [some (.ref b), some (.int x), some (.int w)] [] _ _
  refine zg_aload_n (pc' := 1) zi_99_0 rfl rfl ?_
  refine zg_iload_n (pc' := 2) zi_99_1 rfl rfl ?_
  refine zg_v1 (pc' := 5) zi_99_2 (nput_at hb (k := 0) rfl) rfl (c_hasSession0 hb _) rfl ?_
  refine zg_iff (pc' := 8) zi_99_5 rfl rfl ?_
  exact zgt_here _ _ _ _ _
theorem x_inSession (hb : b + 71 ≤ h.length) (x : Int32) (w : Int32) : ∃ L, zgt 123 0 (zentry 3 [.ref b, .int x, .int w]) [] (nput b F (fun _ => 0) h) (8, L, [], nput b F (fun _ => 0) h) := by
  apply Exists.intro
  show zgt 123 0 [some (.ref b), some (.int x), some (.int w)] [] _ _
  refine zg_aload_n (pc' := 1) zi_123_0 rfl rfl ?_
  refine zg_iload_n (pc' := 2) zi_123_1 rfl rfl ?_
  refine zg_v1 (pc' := 5) zi_123_2 (nput_at hb (k := 0) rfl) rfl (c_hasSession0 hb _) rfl ?_
  refine zg_iff (pc' := 8) zi_123_5 rfl rfl ?_
  exact zgt_here _ _ _ _ _
theorem x_count (hb : b + 71 ≤ h.length) (x : Int32) (w : Int32) : ∃ L, zgt 125 0 (zentry 3 [.ref b, .int x, .int w]) [] (nput b F (fun _ => 0) h) (8, L, [], nput b F (fun _ => 0) h) := by
  apply Exists.intro
  show zgt 125 0 [some (.ref b), some (.int x), some (.int w)] [] _ _
  refine zg_aload_n (pc' := 1) zi_125_0 rfl rfl ?_
  refine zg_iload_n (pc' := 2) zi_125_1 rfl rfl ?_
  refine zg_v1 (pc' := 5) zi_125_2 (nput_at hb (k := 0) rfl) rfl (c_hasTemplate0 hb _) rfl ?_
  refine zg_iff (pc' := 8) zi_125_5 rfl rfl ?_
  exact zgt_here _ _ _ _ _
theorem x_causes (hb : b + 71 ≤ h.length) (x : Int32) : ∃ L, zgt 102 0 (zentry 2 [.ref b, .int x]) [] (nput b F (fun _ => 0) h) (8, L, [], nput b F (fun _ => 0) h) := by
  apply Exists.intro
  show zgt 102 0 [some (.ref b), some (.int x)] [] _ _
  refine zg_aload_n (pc' := 1) zi_102_0 rfl rfl ?_
  refine zg_iload_n (pc' := 2) zi_102_1 rfl rfl ?_
  refine zg_v1 (pc' := 5) zi_102_2 (nput_at hb (k := 0) rfl) rfl (c_hasTemplate0 hb _) rfl ?_
  refine zg_iff (pc' := 8) zi_102_5 rfl rfl ?_
  exact zgt_here _ _ _ _ _
theorem x_cause (hb : b + 71 ≤ h.length) (x : Int32) (w : Int32) (z : Int32) : ∃ L, zgt 103 0 (zentry 5 [.ref b, .int x, .int w, .int z]) [] (nput b F (fun _ => 0) h) (8, L, [], nput b F (fun _ => 0) h) := by
  apply Exists.intro
  show zgt 103 0 [some (.ref b), some (.int x), some (.int w), some (.int z), none] [] _ _
  refine zg_aload_n (pc' := 1) zi_103_0 rfl rfl ?_
  refine zg_iload_n (pc' := 2) zi_103_1 rfl rfl ?_
  refine zg_v1 (pc' := 5) zi_103_2 (nput_at hb (k := 0) rfl) rfl (c_hasTemplate0 hb _) rfl ?_
  refine zg_iff (pc' := 8) zi_103_5 rfl rfl ?_
  exact zgt_here _ _ _ _ _
theorem x_because (hb : b + 71 ≤ h.length) (x : Int32) : ∃ L, zgt 104 0 (zentry 2 [.ref b, .int x]) [] (nput b F (fun _ => 0) h) (8, L, [], nput b F (fun _ => 0) h) := by
  apply Exists.intro
  show zgt 104 0 [some (.ref b), some (.int x)] [] _ _
  refine zg_aload_n (pc' := 1) zi_104_0 rfl rfl ?_
  refine zg_iload_n (pc' := 2) zi_104_1 rfl rfl ?_
  refine zg_v1 (pc' := 5) zi_104_2 (nput_at hb (k := 0) rfl) rfl (c_hasLine0 hb _) rfl ?_
  refine zg_iff (pc' := 8) zi_104_5 rfl rfl ?_
  exact zgt_here _ _ _ _ _
theorem x_wouldBe (hb : b + 71 ≤ h.length) (x : Int32) : ∃ L, zgt 128 0 (zentry 2 [.ref b, .int x]) [] (nput b F (fun _ => 0) h) (8, L, [], nput b F (fun _ => 0) h) := by
  apply Exists.intro
  show zgt 128 0 [some (.ref b), some (.int x)] [] _ _
  refine zg_aload_n (pc' := 1) zi_128_0 rfl rfl ?_
  refine zg_iload_n (pc' := 2) zi_128_1 rfl rfl ?_
  refine zg_v1 (pc' := 5) zi_128_2 (nput_at hb (k := 0) rfl) rfl (c_hasLine0 hb _) rfl ?_
  refine zg_iff (pc' := 8) zi_128_5 rfl rfl ?_
  exact zgt_here _ _ _ _ _
theorem x_spike (hb : b + 71 ≤ h.length) (x w : Int32) : ∃ L, zgt 101 0 (zentry 3 [.ref b, .int x, .int w]) [] (nput b F (fun _ => 0) h) (15, L, [], nput b F (fun _ => 0) h) := by
  apply Exists.intro
  show zgt 101 0 [some (.ref b), some (.int x), some (.int w)] [] _ _
  refine zg_iload_n (pc' := 1) zi_101_0 rfl rfl ?_
  refine zg_if (pc' := 4) zi_101_1 rfl (fun h1 => ?_) (fun h1 => ?_)
  · replace h1 := zx_lt_t h1
    exact zgt_here _ _ _ _ _
  · replace h1 := zx_lt_f h1
    refine zg_iload_n (pc' := 5) zi_101_4 rfl rfl ?_
    refine zg_aload_n (pc' := 6) zi_101_5 rfl rfl ?_
    refine zg_get (pc' := 9) zi_101_6 (nput_at hb (k := 0) rfl) rfl rfl ?_
    refine zg_get (pc' := 12) zi_101_9 (nput_at hb (k := 43) rfl) rfl rfl ?_
    refine zg_icmp (pc' := 15) zi_101_12 rfl (fun h12 => ?_) (fun h12 => ?_)
    · replace h12 := zx_lt_t h12
      exact absurd h12 h1
    · replace h12 := zx_lt_f h12
      exact zgt_here _ _ _ _ _
theorem x_line_a (hb : b + 71 ≤ h.length) (t : Int32) (y : Int32) (z : Int32) (q : ¬ (nI 0 ≤ t ∧ t ≤ nI 9999)) : ∃ L, zgt 116 0 (zentry 5 [.ref b, .int t, .int y, .int z]) [] (nput b F (fun _ => 0) h) (27, L, [], nput b F (fun _ => 0) h) := by
  apply Exists.intro
  show zgt 116 0 [some (.ref b), some (.int t), some (.int y), some (.int z), none] [] _ _
  refine zg_iload_n (pc' := 1) zi_116_0 rfl rfl ?_
  refine zg_sipush (v := (nI 9999)) (pc' := 4) zi_116_1 rfl rfl ?_
  refine zg_s2 (pc' := 7) zi_116_4 rfl (c_isW0 q) rfl ?_
  refine zg_ift zi_116_7 rfl ?_
  exact zgt_here _ _ _ _ _
theorem x_line_b (hb : b + 71 ≤ h.length) (t : Int32) (y : Int32) (z : Int32) (p : (nI 0 ≤ t ∧ t ≤ nI 9999)) (q : ¬ (nI 0 ≤ y ∧ y ≤ nI 7)) : ∃ L, zgt 116 0 (zentry 5 [.ref b, .int t, .int y, .int z]) [] (nput b F (fun _ => 0) h) (27, L, [], nput b F (fun _ => 0) h) := by
  apply Exists.intro
  show zgt 116 0 [some (.ref b), some (.int t), some (.int y), some (.int z), none] [] _ _
  refine zg_iload_n (pc' := 1) zi_116_0 rfl rfl ?_
  refine zg_sipush (v := (nI 9999)) (pc' := 4) zi_116_1 rfl rfl ?_
  refine zg_s2 (pc' := 7) zi_116_4 rfl (c_isW1 p) rfl ?_
  refine zg_iff (pc' := 10) zi_116_7 rfl rfl ?_
  refine zg_iload_n (pc' := 11) zi_116_10 rfl rfl ?_
  refine zg_bipush (v := (nI 7)) (pc' := 13) zi_116_11 rfl rfl ?_
  refine zg_s2 (pc' := 16) zi_116_13 rfl (c_isW0 q) rfl ?_
  refine zg_ift zi_116_16 rfl ?_
  exact zgt_here _ _ _ _ _
theorem x_line_c (hb : b + 71 ≤ h.length) (t : Int32) (y : Int32) (z : Int32) (p : (nI 0 ≤ t ∧ t ≤ nI 9999)) (p2 : (nI 0 ≤ y ∧ y ≤ nI 7)) (q : ¬ (nI 0 ≤ z ∧ z ≤ nI 3)) : ∃ L, zgt 116 0 (zentry 5 [.ref b, .int t, .int y, .int z]) [] (nput b F (fun _ => 0) h) (27, L, [], nput b F (fun _ => 0) h) := by
  apply Exists.intro
  show zgt 116 0 [some (.ref b), some (.int t), some (.int y), some (.int z), none] [] _ _
  refine zg_iload_n (pc' := 1) zi_116_0 rfl rfl ?_
  refine zg_sipush (v := (nI 9999)) (pc' := 4) zi_116_1 rfl rfl ?_
  refine zg_s2 (pc' := 7) zi_116_4 rfl (c_isW1 p) rfl ?_
  refine zg_iff (pc' := 10) zi_116_7 rfl rfl ?_
  refine zg_iload_n (pc' := 11) zi_116_10 rfl rfl ?_
  refine zg_bipush (v := (nI 7)) (pc' := 13) zi_116_11 rfl rfl ?_
  refine zg_s2 (pc' := 16) zi_116_13 rfl (c_isW1 p2) rfl ?_
  refine zg_iff (pc' := 19) zi_116_16 rfl rfl ?_
  refine zg_iload_n (pc' := 20) zi_116_19 rfl rfl ?_
  refine zg_iconst (v := (nI 3)) (pc' := 21) zi_116_20 rfl rfl ?_
  refine zg_s2 (pc' := 24) zi_116_21 rfl (c_isW0 q) rfl ?_
  refine zg_iff (pc' := 27) zi_116_24 rfl rfl ?_
  exact zgt_here _ _ _ _ _
theorem x_word_a (hb : b + 71 ≤ h.length) (x : Int32) (q : ¬ (nI 0 ≤ x ∧ x ≤ nI 999)) : ∃ L, zgt 117 0 (zentry 3 [.ref b, .int x]) [] (nput b F (fun _ => 0) h) (10, L, [], nput b F (fun _ => 0) h) := by
  apply Exists.intro
  show zgt 117 0 [some (.ref b), some (.int x), none] [] _ _
  refine zg_iload_n (pc' := 1) zi_117_0 rfl rfl ?_
  refine zg_sipush (v := (nI 999)) (pc' := 4) zi_117_1 rfl rfl ?_
  refine zg_s2 (pc' := 7) zi_117_4 rfl (c_isW0 q) rfl ?_
  refine zg_iff (pc' := 10) zi_117_7 rfl rfl ?_
  exact zgt_here _ _ _ _ _
theorem x_word (hb : b + 71 ≤ h.length) (x : Int32) (q : (nI 0 ≤ x ∧ x ≤ nI 999)) : ∃ L, zgt 117 0 (zentry 3 [.ref b, .int x]) [] (nput b F (fun _ => 0) h) (61, L, [], nput b F (fun _ => 0) h) := by
  apply Exists.intro
  show zgt 117 0 [some (.ref b), some (.int x), none] [] _ _
  refine zg_iload_n (pc' := 1) zi_117_0 rfl rfl ?_
  refine zg_sipush (v := (nI 999)) (pc' := 4) zi_117_1 rfl rfl ?_
  refine zg_s2 (pc' := 7) zi_117_4 rfl (c_isW1 q) rfl ?_
  refine zg_ift zi_117_7 rfl ?_
  refine zg_aload_n (pc' := 21) zi_117_20 rfl rfl ?_
  refine zg_get (pc' := 24) zi_117_21 (nput_at hb (k := 0) rfl) rfl rfl ?_
  refine zg_get (pc' := 27) zi_117_24 (nput_at hb (k := 1) rfl) rfl rfl ?_
  refine zg_iconst (v := (nI 1)) (pc' := 28) zi_117_27 rfl rfl ?_
  refine zg_isub (pc' := 29) zi_117_28 (by first | exact pk_sub (by omega) | rfl) rfl ?_
  refine zg_istore_n (pc' := 30) zi_117_29 (Nat.le_of_ble_eq_true rfl) rfl rfl ?_
  dsimp only [zst1, zst2, zkill, List.set, List.getElem?_cons_succ, List.getElem?_cons_zero]
  refine zg_iload_n (pc' := 31) zi_117_30 rfl rfl ?_
  refine zg_ift zi_117_31 (by decide) ?_
  exact zgt_here _ _ _ _ _
theorem x_learn_a (hb : b + 71 ≤ h.length) (x : Int32) (q : ¬ (nI 1 ≤ x ∧ x ≤ nI 70)) : ∃ L, zgt 118 0 (zentry 6 [.ref b, .int x]) [] (nput b F (fun _ => 0) h) (11, L, [], nput b F (fun _ => 0) h) := by
  apply Exists.intro
  show zgt 118 0 [some (.ref b), some (.int x), none, none, none, none] [] _ _
  refine zg_iload_n (pc' := 1) zi_118_0 rfl rfl ?_
  refine zg_iconst (v := (nI 1)) (pc' := 2) zi_118_1 rfl rfl ?_
  refine zg_icmp (pc' := 5) zi_118_2 rfl (fun h2 => ?_) (fun h2 => ?_)
  · replace h2 := zx_lt_t h2
    exact zgt_here _ _ _ _ _
  · replace h2 := zx_lt_f h2
    refine zg_iload_n (pc' := 6) zi_118_5 rfl rfl ?_
    refine zg_bipush (v := (nI 70)) (pc' := 8) zi_118_6 rfl rfl ?_
    refine zg_icmp (pc' := 11) zi_118_8 rfl (fun h8 => ?_) (fun h8 => ?_)
    · replace h8 := zx_le_t h8
      exact absurd ⟨Int32.not_lt.mp h2, h8⟩ q
    · replace h8 := zx_le_f h8
      exact zgt_here _ _ _ _ _
theorem x_set_a (hb : b + 71 ≤ h.length) (x : Int32) (w : Int32) (q : ¬ (nI 0 ≤ x ∧ x ≤ nI 3)) : ∃ L, zgt 119 0 (zentry 6 [.ref b, .int x, .int w]) [] (nput b F (fun _ => 0) h) (8, L, [], nput b F (fun _ => 0) h) := by
  apply Exists.intro
  show zgt 119 0 [some (.ref b), some (.int x), some (.int w), none, none, none] [] _ _
  refine zg_iload_n (pc' := 1) zi_119_0 rfl rfl ?_
  refine zg_iconst (v := (nI 3)) (pc' := 2) zi_119_1 rfl rfl ?_
  refine zg_s2 (pc' := 5) zi_119_2 rfl (c_isW0 q) rfl ?_
  refine zg_iff (pc' := 8) zi_119_5 rfl rfl ?_
  exact zgt_here _ _ _ _ _
theorem x_set_b0 (hb : b + 71 ≤ h.length) (w : Int32) (q : ¬ (nI 0 ≤ w ∧ w ≤ nI 100)) : ∃ L, zgt 119 0 (zentry 6 [.ref b, .int (nI 0), .int w]) [] (nput b F (fun _ => 0) h) (54, L, [], nput b F (fun _ => 0) h) := by
  apply Exists.intro
  show zgt 119 0 [some (.ref b), some (.int (nI 0)), some (.int w), none, none, none] [] _ _
  refine zg_iload_n (pc' := 1) zi_119_0 rfl rfl ?_
  refine zg_iconst (v := (nI 3)) (pc' := 2) zi_119_1 rfl rfl ?_
  refine zg_s2 (pc' := 5) zi_119_2 rfl (c_isW1 (by decide)) rfl ?_
  refine zg_ift zi_119_5 rfl ?_
  refine zg_iload_n (pc' := 19) zi_119_18 rfl rfl ?_
  refine zg_iconst (v := (nI 2)) (pc' := 20) zi_119_19 rfl rfl ?_
  refine zg_icmpt zi_119_20 rfl ?_
  refine zg_iconst (v := (nI 0)) (pc' := 28) zi_119_27 rfl rfl ?_
  refine zg_istore_n (pc' := 29) zi_119_28 (Nat.le_of_ble_eq_true rfl) rfl rfl ?_
  dsimp only [zst1, zst2, zkill, List.set, List.getElem?_cons_succ, List.getElem?_cons_zero]
  refine zg_iload_n (pc' := 30) zi_119_29 rfl rfl ?_
  refine zg_iff (pc' := 33) zi_119_30 rfl rfl ?_
  refine zg_bipush (v := (nI 100)) (pc' := 35) zi_119_33 rfl rfl ?_
  refine zg_goto zi_119_35 ?_
  refine zg_istore (pc' := 43) zi_119_41 (Nat.le_of_ble_eq_true rfl) rfl rfl ?_
  dsimp only [zst1, zst2, zkill, List.set, List.getElem?_cons_succ, List.getElem?_cons_zero]
  refine zg_iload_n (pc' := 44) zi_119_43 rfl rfl ?_
  refine zg_iload_n (pc' := 45) zi_119_44 rfl rfl ?_
  refine zg_icmp (pc' := 48) zi_119_45 rfl (fun h45 => ?_) (fun h45 => ?_)
  · replace h45 := zx_lt_t h45
    exact zgt_here _ _ _ _ _
  · replace h45 := zx_lt_f h45
    refine zg_iload_n (pc' := 49) zi_119_48 rfl rfl ?_
    refine zg_iload (pc' := 51) zi_119_49 rfl rfl ?_
    refine zg_icmp (pc' := 54) zi_119_51 rfl (fun h51 => ?_) (fun h51 => ?_)
    · replace h51 := zx_le_t h51
      exact absurd ⟨Int32.not_lt.mp h45, h51⟩ q
    · replace h51 := zx_le_f h51
      exact zgt_here _ _ _ _ _
theorem x_set_b1 (hb : b + 71 ≤ h.length) (w : Int32) (q : ¬ (nI 0 ≤ w ∧ w ≤ nI 1000)) : ∃ L, zgt 119 0 (zentry 6 [.ref b, .int (nI 1), .int w]) [] (nput b F (fun _ => 0) h) (54, L, [], nput b F (fun _ => 0) h) := by
  apply Exists.intro
  show zgt 119 0 [some (.ref b), some (.int (nI 1)), some (.int w), none, none, none] [] _ _
  refine zg_iload_n (pc' := 1) zi_119_0 rfl rfl ?_
  refine zg_iconst (v := (nI 3)) (pc' := 2) zi_119_1 rfl rfl ?_
  refine zg_s2 (pc' := 5) zi_119_2 rfl (c_isW1 (by decide)) rfl ?_
  refine zg_ift zi_119_5 rfl ?_
  refine zg_iload_n (pc' := 19) zi_119_18 rfl rfl ?_
  refine zg_iconst (v := (nI 2)) (pc' := 20) zi_119_19 rfl rfl ?_
  refine zg_icmpt zi_119_20 rfl ?_
  refine zg_iconst (v := (nI 0)) (pc' := 28) zi_119_27 rfl rfl ?_
  refine zg_istore_n (pc' := 29) zi_119_28 (Nat.le_of_ble_eq_true rfl) rfl rfl ?_
  dsimp only [zst1, zst2, zkill, List.set, List.getElem?_cons_succ, List.getElem?_cons_zero]
  refine zg_iload_n (pc' := 30) zi_119_29 rfl rfl ?_
  refine zg_ift zi_119_30 rfl ?_
  refine zg_sipush (v := (nI 1000)) (pc' := 41) zi_119_38 rfl rfl ?_
  refine zg_istore (pc' := 43) zi_119_41 (Nat.le_of_ble_eq_true rfl) rfl rfl ?_
  dsimp only [zst1, zst2, zkill, List.set, List.getElem?_cons_succ, List.getElem?_cons_zero]
  refine zg_iload_n (pc' := 44) zi_119_43 rfl rfl ?_
  refine zg_iload_n (pc' := 45) zi_119_44 rfl rfl ?_
  refine zg_icmp (pc' := 48) zi_119_45 rfl (fun h45 => ?_) (fun h45 => ?_)
  · replace h45 := zx_lt_t h45
    exact zgt_here _ _ _ _ _
  · replace h45 := zx_lt_f h45
    refine zg_iload_n (pc' := 49) zi_119_48 rfl rfl ?_
    refine zg_iload (pc' := 51) zi_119_49 rfl rfl ?_
    refine zg_icmp (pc' := 54) zi_119_51 rfl (fun h51 => ?_) (fun h51 => ?_)
    · replace h51 := zx_le_t h51
      exact absurd ⟨Int32.not_lt.mp h45, h51⟩ q
    · replace h51 := zx_le_f h51
      exact zgt_here _ _ _ _ _
theorem x_set_b2 (hb : b + 71 ≤ h.length) (w : Int32) (q : ¬ (nI 1 ≤ w ∧ w ≤ nI 1000)) : ∃ L, zgt 119 0 (zentry 6 [.ref b, .int (nI 2), .int w]) [] (nput b F (fun _ => 0) h) (54, L, [], nput b F (fun _ => 0) h) := by
  apply Exists.intro
  show zgt 119 0 [some (.ref b), some (.int (nI 2)), some (.int w), none, none, none] [] _ _
  refine zg_iload_n (pc' := 1) zi_119_0 rfl rfl ?_
  refine zg_iconst (v := (nI 3)) (pc' := 2) zi_119_1 rfl rfl ?_
  refine zg_s2 (pc' := 5) zi_119_2 rfl (c_isW1 (by decide)) rfl ?_
  refine zg_ift zi_119_5 rfl ?_
  refine zg_iload_n (pc' := 19) zi_119_18 rfl rfl ?_
  refine zg_iconst (v := (nI 2)) (pc' := 20) zi_119_19 rfl rfl ?_
  refine zg_icmpf (pc' := 23) zi_119_20 rfl rfl ?_
  refine zg_iconst (v := (nI 1)) (pc' := 24) zi_119_23 rfl rfl ?_
  refine zg_goto zi_119_24 ?_
  refine zg_istore_n (pc' := 29) zi_119_28 (Nat.le_of_ble_eq_true rfl) rfl rfl ?_
  dsimp only [zst1, zst2, zkill, List.set, List.getElem?_cons_succ, List.getElem?_cons_zero]
  refine zg_iload_n (pc' := 30) zi_119_29 rfl rfl ?_
  refine zg_ift zi_119_30 rfl ?_
  refine zg_sipush (v := (nI 1000)) (pc' := 41) zi_119_38 rfl rfl ?_
  refine zg_istore (pc' := 43) zi_119_41 (Nat.le_of_ble_eq_true rfl) rfl rfl ?_
  dsimp only [zst1, zst2, zkill, List.set, List.getElem?_cons_succ, List.getElem?_cons_zero]
  refine zg_iload_n (pc' := 44) zi_119_43 rfl rfl ?_
  refine zg_iload_n (pc' := 45) zi_119_44 rfl rfl ?_
  refine zg_icmp (pc' := 48) zi_119_45 rfl (fun h45 => ?_) (fun h45 => ?_)
  · replace h45 := zx_lt_t h45
    exact zgt_here _ _ _ _ _
  · replace h45 := zx_lt_f h45
    refine zg_iload_n (pc' := 49) zi_119_48 rfl rfl ?_
    refine zg_iload (pc' := 51) zi_119_49 rfl rfl ?_
    refine zg_icmp (pc' := 54) zi_119_51 rfl (fun h51 => ?_) (fun h51 => ?_)
    · replace h51 := zx_le_t h51
      exact absurd ⟨Int32.not_lt.mp h45, h51⟩ q
    · replace h51 := zx_le_f h51
      exact zgt_here _ _ _ _ _
theorem x_set_b3 (hb : b + 71 ≤ h.length) (w : Int32) (q : ¬ (nI 0 ≤ w ∧ w ≤ nI 1000)) : ∃ L, zgt 119 0 (zentry 6 [.ref b, .int (nI 3), .int w]) [] (nput b F (fun _ => 0) h) (54, L, [], nput b F (fun _ => 0) h) := by
  apply Exists.intro
  show zgt 119 0 [some (.ref b), some (.int (nI 3)), some (.int w), none, none, none] [] _ _
  refine zg_iload_n (pc' := 1) zi_119_0 rfl rfl ?_
  refine zg_iconst (v := (nI 3)) (pc' := 2) zi_119_1 rfl rfl ?_
  refine zg_s2 (pc' := 5) zi_119_2 rfl (c_isW1 (by decide)) rfl ?_
  refine zg_ift zi_119_5 rfl ?_
  refine zg_iload_n (pc' := 19) zi_119_18 rfl rfl ?_
  refine zg_iconst (v := (nI 2)) (pc' := 20) zi_119_19 rfl rfl ?_
  refine zg_icmpt zi_119_20 rfl ?_
  refine zg_iconst (v := (nI 0)) (pc' := 28) zi_119_27 rfl rfl ?_
  refine zg_istore_n (pc' := 29) zi_119_28 (Nat.le_of_ble_eq_true rfl) rfl rfl ?_
  dsimp only [zst1, zst2, zkill, List.set, List.getElem?_cons_succ, List.getElem?_cons_zero]
  refine zg_iload_n (pc' := 30) zi_119_29 rfl rfl ?_
  refine zg_ift zi_119_30 rfl ?_
  refine zg_sipush (v := (nI 1000)) (pc' := 41) zi_119_38 rfl rfl ?_
  refine zg_istore (pc' := 43) zi_119_41 (Nat.le_of_ble_eq_true rfl) rfl rfl ?_
  dsimp only [zst1, zst2, zkill, List.set, List.getElem?_cons_succ, List.getElem?_cons_zero]
  refine zg_iload_n (pc' := 44) zi_119_43 rfl rfl ?_
  refine zg_iload_n (pc' := 45) zi_119_44 rfl rfl ?_
  refine zg_icmp (pc' := 48) zi_119_45 rfl (fun h45 => ?_) (fun h45 => ?_)
  · replace h45 := zx_lt_t h45
    exact zgt_here _ _ _ _ _
  · replace h45 := zx_lt_f h45
    refine zg_iload_n (pc' := 49) zi_119_48 rfl rfl ?_
    refine zg_iload (pc' := 51) zi_119_49 rfl rfl ?_
    refine zg_icmp (pc' := 54) zi_119_51 rfl (fun h51 => ?_) (fun h51 => ?_)
    · replace h51 := zx_le_t h51
      exact absurd ⟨Int32.not_lt.mp h45, h51⟩ q
    · replace h51 := zx_le_f h51
      exact zgt_here _ _ _ _ _
theorem x_many_a (hb : b + 71 ≤ h.length) (x : Int32) (q : ¬ (nI 0 ≤ x ∧ x ≤ nI 5)) : ∃ L, zgt 94 0 (zentry 2 [.ref b, .int x]) [] (nput b F (fun _ => 0) h) (8, L, [], nput b F (fun _ => 0) h) := by
  apply Exists.intro
  show zgt 94 0 [some (.ref b), some (.int x)] [] _ _
  refine zg_iload_n (pc' := 1) zi_94_0 rfl rfl ?_
  refine zg_iconst (v := (nI 5)) (pc' := 2) zi_94_1 rfl rfl ?_
  refine zg_s2 (pc' := 5) zi_94_2 rfl (c_isW0 q) rfl ?_
  refine zg_iff (pc' := 8) zi_94_5 rfl rfl ?_
  exact zgt_here _ _ _ _ _
theorem x_templatesWith_a (hb : b + 71 ≤ h.length) (x : Int32) (q : ¬ (nI 0 ≤ x ∧ x ≤ nI 100)) : ∃ L, zgt 126 0 (zentry 3 [.ref b, .int x]) [] (nput b F (fun _ => 0) h) (9, L, [], nput b F (fun _ => 0) h) := by
  apply Exists.intro
  show zgt 126 0 [some (.ref b), some (.int x), none] [] _ _
  refine zg_iload_n (pc' := 1) zi_126_0 rfl rfl ?_
  refine zg_bipush (v := (nI 100)) (pc' := 3) zi_126_1 rfl rfl ?_
  refine zg_s2 (pc' := 6) zi_126_3 rfl (c_isW0 q) rfl ?_
  refine zg_iff (pc' := 9) zi_126_6 rfl rfl ?_
  exact zgt_here _ _ _ _ _
theorem x_sessionsWith_a (hb : b + 71 ≤ h.length) (x : Int32) (q : ¬ (nI 0 ≤ x ∧ x ≤ nI 1000)) : ∃ L, zgt 127 0 (zentry 4 [.ref b, .int x]) [] (nput b F (fun _ => 0) h) (10, L, [], nput b F (fun _ => 0) h) := by
  apply Exists.intro
  show zgt 127 0 [some (.ref b), some (.int x), none, none] [] _ _
  refine zg_iload_n (pc' := 1) zi_127_0 rfl rfl ?_
  refine zg_sipush (v := (nI 1000)) (pc' := 4) zi_127_1 rfl rfl ?_
  refine zg_s2 (pc' := 7) zi_127_4 rfl (c_isW0 q) rfl ?_
  refine zg_iff (pc' := 10) zi_127_7 rfl rfl ?_
  exact zgt_here _ _ _ _ _
/-! answers -/
theorem r_templatesWith (hb : b + 71 ≤ h.length) (x : Int32) (q : (nI 0 ≤ x ∧ x ≤ nI 100)) : ∃ g, zcalls zTB 126 [.ref b, .int x] (nput b F (fun _ => 0) h) (some (.int 0), nput b F g h) := by
  refine ⟨updG (fun _ => 0) 3 0, ?_⟩
  refine zcalls_of (Nat.le_of_ble_eq_true rfl) ?_
  show zruns zTB 126 0 [some (.ref b), some (.int x), none] [] _ _
  refine zr_iload_n (pc' := 1) zi_126_0 rfl rfl ?_
  refine zr_bipush (v := (nI 100)) (pc' := 3) zi_126_1 rfl rfl ?_
  refine zr_s2 (pc' := 6) zi_126_3 rfl (c_isW1 q) rfl ?_
  refine zr_ift zi_126_6 rfl ?_
  refine zr_aload_n (pc' := 21) zi_126_20 rfl rfl ?_
  refine zr_get (pc' := 24) zi_126_21 (nput_at hb (k := 0) rfl) rfl rfl ?_
  refine zr_iconst (v := (nI 0)) (pc' := 25) zi_126_24 rfl rfl ?_
  refine zr_put (pc' := 28) zi_126_25 (by omega) (nput_at hb (k := 21) rfl) (Nat.le_of_ble_eq_true rfl) rfl rfl (nput_set (g' := updG (fun _ => 0) 3 0) hb (by decide) rfl) ?_
  refine zr_iconst (v := (nI 0)) (pc' := 29) zi_126_28 rfl rfl ?_
  refine zr_istore_n (pc' := 30) zi_126_29 (Nat.le_of_ble_eq_true rfl) rfl rfl ?_
  dsimp only [zst1, zst2, zkill, List.set, List.getElem?_cons_succ, List.getElem?_cons_zero]
  refine zr_iload_n (pc' := 31) zi_126_30 rfl rfl ?_
  refine zr_aload_n (pc' := 32) zi_126_31 rfl rfl ?_
  refine zr_get (pc' := 35) zi_126_32 (nput_at hb (k := 0) rfl) rfl rfl ?_
  refine zr_get (pc' := 38) zi_126_35 (nput_at hb (k := 1) rfl) rfl rfl ?_
  refine zr_icmpt zi_126_38 rfl ?_
  refine zr_aload_n (pc' := 62) zi_126_61 rfl rfl ?_
  refine zr_get (pc' := 65) zi_126_62 (nput_at hb (k := 0) rfl) rfl rfl ?_
  refine zr_get (pc' := 68) zi_126_65 (nput_at hb (k := 21) rfl) rfl rfl ?_
  exact zr_ireturn zi_126_68 rfl
theorem r_sessionsWith (hb : b + 71 ≤ h.length) (x : Int32) (q : (nI 0 ≤ x ∧ x ≤ nI 1000)) : zcalls zTB 127 [.ref b, .int x] (nput b F (fun _ => 0) h) (some (.int 0), nput b F (fun _ => 0) h) := by
  refine zcalls_of (Nat.le_of_ble_eq_true rfl) ?_
  show zruns zTB 127 0 [some (.ref b), some (.int x), none, none] [] _ _
  refine zr_iload_n (pc' := 1) zi_127_0 rfl rfl ?_
  refine zr_sipush (v := (nI 1000)) (pc' := 4) zi_127_1 rfl rfl ?_
  refine zr_s2 (pc' := 7) zi_127_4 rfl (c_isW1 q) rfl ?_
  refine zr_ift zi_127_7 rfl ?_
  refine zr_iconst (v := (nI 0)) (pc' := 22) zi_127_21 rfl rfl ?_
  refine zr_istore_n (pc' := 23) zi_127_22 (Nat.le_of_ble_eq_true rfl) rfl rfl ?_
  dsimp only [zst1, zst2, zkill, List.set, List.getElem?_cons_succ, List.getElem?_cons_zero]
  refine zr_iconst (v := (nI 0)) (pc' := 24) zi_127_23 rfl rfl ?_
  refine zr_istore_n (pc' := 25) zi_127_24 (Nat.le_of_ble_eq_true rfl) rfl rfl ?_
  dsimp only [zst1, zst2, zkill, List.set, List.getElem?_cons_succ, List.getElem?_cons_zero]
  refine zr_iload_n (pc' := 26) zi_127_25 rfl rfl ?_
  refine zr_aload_n (pc' := 27) zi_127_26 rfl rfl ?_
  refine zr_get (pc' := 30) zi_127_27 (nput_at hb (k := 0) rfl) rfl rfl ?_
  refine zr_get (pc' := 33) zi_127_30 (nput_at hb (k := 1) rfl) rfl rfl ?_
  refine zr_icmpt zi_127_33 rfl ?_
  refine zr_iload_n (pc' := 73) zi_127_72 rfl rfl ?_
  exact zr_ireturn zi_127_73 rfl
theorem r_usual (hb : b + 71 ≤ h.length) (q : zOk F (fun _ => 0) (fun _ => 0) 50 30 10 20) : zcalls zTB 100 [.ref b] (nput b F (fun _ => 0) h) (some (.int (-1)), nput b F (fun _ => 0) h) := by
  obtain ⟨r, h1, h2⟩ := c_usual hb q
  rcases h1 with ⟨-, rfl⟩ | ⟨e, he, -⟩
  · exact h2
  · exact absurd he (Nat.not_lt_zero _)
theorem r_meanSession (hb : b + 71 ≤ h.length) (q : zOk F (fun _ => 0) (fun _ => 0) 50 30 10 20) : zcalls zTB 124 [.ref b] (nput b F (fun _ => 0) h) (some (.double 0), nput b F (fun _ => 0) h) := c_meanSession hb q
theorem zNb_set0 {F : Nat → Nat → Int32} (q : zNb F (fun _ => 0) (fun _ => 0) 50 30 10 20) {v : Nat} (hl : 0 ≤ v) (hv : v ≤ 100) : zNb (updR F 31 (upd (F 31) 0 (nI v))) (fun _ => 0) (fun _ => 0) v 30 10 20 := by
  obtain ⟨a0, _⟩ := q.s0
  obtain ⟨a1, _⟩ := q.s1
  obtain ⟨a2, _⟩ := q.s2
  obtain ⟨a3, _⟩ := q.s3
  refine ⟨by decide, by decide, by decide, fun i hi => absurd hi (Nat.not_lt_zero _), fun i j _ hj => absurd hj (Nat.not_lt_zero _), fun i hi => absurd hi (Nat.not_lt_zero _), fun i hi => absurd hi (Nat.not_lt_zero _), fun i hi => absurd hi (Nat.not_lt_zero _), fun i _ hi => absurd hi (Nat.not_lt_zero _), fun i hi => absurd hi (Nat.not_lt_zero _), ⟨?_, ?_⟩, ⟨?_, ?_⟩, ⟨?_, ?_⟩, ⟨?_, ?_⟩⟩ <;> first | omega | exact a0 | exact a1 | exact a2 | exact a3 | rfl
theorem zNb_set1 {F : Nat → Nat → Int32} (q : zNb F (fun _ => 0) (fun _ => 0) 50 30 10 20) {v : Nat} (hl : 0 ≤ v) (hv : v ≤ 1000) : zNb (updR F 31 (upd (F 31) 1 (nI v))) (fun _ => 0) (fun _ => 0) 50 v 10 20 := by
  obtain ⟨a0, _⟩ := q.s0
  obtain ⟨a1, _⟩ := q.s1
  obtain ⟨a2, _⟩ := q.s2
  obtain ⟨a3, _⟩ := q.s3
  refine ⟨by decide, by decide, by decide, fun i hi => absurd hi (Nat.not_lt_zero _), fun i j _ hj => absurd hj (Nat.not_lt_zero _), fun i hi => absurd hi (Nat.not_lt_zero _), fun i hi => absurd hi (Nat.not_lt_zero _), fun i hi => absurd hi (Nat.not_lt_zero _), fun i _ hi => absurd hi (Nat.not_lt_zero _), fun i hi => absurd hi (Nat.not_lt_zero _), ⟨?_, ?_⟩, ⟨?_, ?_⟩, ⟨?_, ?_⟩, ⟨?_, ?_⟩⟩ <;> first | omega | exact a0 | exact a1 | exact a2 | exact a3 | rfl
theorem zNb_set2 {F : Nat → Nat → Int32} (q : zNb F (fun _ => 0) (fun _ => 0) 50 30 10 20) {v : Nat} (hl : 1 ≤ v) (hv : v ≤ 1000) : zNb (updR F 31 (upd (F 31) 2 (nI v))) (fun _ => 0) (fun _ => 0) 50 30 v 20 := by
  obtain ⟨a0, _⟩ := q.s0
  obtain ⟨a1, _⟩ := q.s1
  obtain ⟨a2, _⟩ := q.s2
  obtain ⟨a3, _⟩ := q.s3
  refine ⟨by decide, by decide, by decide, fun i hi => absurd hi (Nat.not_lt_zero _), fun i j _ hj => absurd hj (Nat.not_lt_zero _), fun i hi => absurd hi (Nat.not_lt_zero _), fun i hi => absurd hi (Nat.not_lt_zero _), fun i hi => absurd hi (Nat.not_lt_zero _), fun i _ hi => absurd hi (Nat.not_lt_zero _), fun i hi => absurd hi (Nat.not_lt_zero _), ⟨?_, ?_⟩, ⟨?_, ?_⟩, ⟨?_, ?_⟩, ⟨?_, ?_⟩⟩ <;> first | omega | exact a0 | exact a1 | exact a2 | exact a3 | rfl
theorem zNb_set3 {F : Nat → Nat → Int32} (q : zNb F (fun _ => 0) (fun _ => 0) 50 30 10 20) {v : Nat} (hl : 0 ≤ v) (hv : v ≤ 1000) : zNb (updR F 31 (upd (F 31) 3 (nI v))) (fun _ => 0) (fun _ => 0) 50 30 10 v := by
  obtain ⟨a0, _⟩ := q.s0
  obtain ⟨a1, _⟩ := q.s1
  obtain ⟨a2, _⟩ := q.s2
  obtain ⟨a3, _⟩ := q.s3
  refine ⟨by decide, by decide, by decide, fun i hi => absurd hi (Nat.not_lt_zero _), fun i j _ hj => absurd hj (Nat.not_lt_zero _), fun i hi => absurd hi (Nat.not_lt_zero _), fun i hi => absurd hi (Nat.not_lt_zero _), fun i hi => absurd hi (Nat.not_lt_zero _), fun i _ hi => absurd hi (Nat.not_lt_zero _), fun i hi => absurd hi (Nat.not_lt_zero _), ⟨?_, ?_⟩, ⟨?_, ?_⟩, ⟨?_, ?_⟩, ⟨?_, ?_⟩⟩ <;> first | omega | exact a0 | exact a1 | exact a2 | exact a3 | rfl
theorem r_line (hb : b + 71 ≤ h.length) (q : zOk F (fun _ => 0) (fun _ => 0) 50 30 10 20) (t y z : Int32) (p : (nI 0 ≤ t ∧ t ≤ nI 9999)) (p2 : (nI 0 ≤ y ∧ y ≤ nI 7)) (p3 : (nI 0 ≤ z ∧ z ≤ nI 3)) : ∃ F' g', zcalls zTB 116 [.ref b, .int t, .int y, .int z] (nput b F (fun _ => 0) h) (some (.int 0), nput b F' g' h) := by
  obtain ⟨t', rfl, -, ht⟩ := nI_ofP p.1
  obtain ⟨y', rfl, -, hy⟩ := nI_ofP p2.1
  obtain ⟨z', rfl, -, hz⟩ := nI_ofP p3.1
  obtain ⟨F', g', -, hc⟩ := c_line hb F _ _ 50 30 10 20 t' y' z' q.nb (by decide) ((nI_leI ht (by decide)).mp p.2) (fun i hi => absurd hi (Nat.not_lt_zero _)) ((nI_leI hy (by decide)).mp p2.2) ((nI_leI hz (by decide)).mp p3.2)
  exact ⟨F', g', hc⟩
theorem r_learn (hb : b + 71 ≤ h.length) (q : zOk F (fun _ => 0) (fun _ => 0) 50 30 10 20) (x : Int32) (p : nI 1 ≤ x ∧ x ≤ nI 70) : ∃ F' g', zcalls zTB 118 [.ref b, .int x] (nput b F (fun _ => 0) h) (some (.int 0), nput b F' g' h) := by
  obtain ⟨x', rfl, -, hx⟩ := nI_ofP (Int32.le_trans (by decide) p.1)
  obtain ⟨F', g', -, hc⟩ := c_learn hb F _ _ 50 30 10 20 x' 0 q.nb ⟨(nI_leI (by decide) hx).mp p.1, (nI_leI hx (by decide)).mp p.2⟩ (by simp)
  exact ⟨F', g', hc⟩
theorem r_set0 (hb : b + 71 ≤ h.length) (q : zOk F (fun _ => 0) (fun _ => 0) 50 30 10 20) (w : Int32) (p : nI 0 ≤ w ∧ w ≤ nI 100) : ∃ F' g', zcalls zTB 119 [.ref b, .int (nI 0), .int w] (nput b F (fun _ => 0) h) (some (.int (F 31 0)), nput b F' g' h) := by
  obtain ⟨x', rfl, -, hx⟩ := nI_ofP (Int32.le_trans (by decide) p.1)
  have hhi := (nI_leI hx (by decide)).mp p.2
  have hlo := (nI_leI (by decide) hx).mp p.1
  obtain ⟨F', g', -, hc⟩ := c_set hb F _ _ 50 30 10 20 0 x' x' 30 10 20 q.nb (by decide) (zNb_set0 q.nb hlo hhi) (fun e => by first | exact hlo | exact absurd e (by decide)) (fun e => by first | exact hhi | exact absurd e (by decide)) (by omega)
  exact ⟨F', g', hc⟩
theorem r_set1 (hb : b + 71 ≤ h.length) (q : zOk F (fun _ => 0) (fun _ => 0) 50 30 10 20) (w : Int32) (p : nI 0 ≤ w ∧ w ≤ nI 1000) : ∃ F' g', zcalls zTB 119 [.ref b, .int (nI 1), .int w] (nput b F (fun _ => 0) h) (some (.int (F 31 1)), nput b F' g' h) := by
  obtain ⟨x', rfl, -, hx⟩ := nI_ofP (Int32.le_trans (by decide) p.1)
  have hhi := (nI_leI hx (by decide)).mp p.2
  have hlo := (nI_leI (by decide) hx).mp p.1
  obtain ⟨F', g', -, hc⟩ := c_set hb F _ _ 50 30 10 20 1 x' 50 x' 10 20 q.nb (by decide) (zNb_set1 q.nb hlo hhi) (fun e => by first | exact hlo | exact absurd e (by decide)) (fun e => by first | exact hhi | exact absurd e (by decide)) (by omega)
  exact ⟨F', g', hc⟩
theorem r_set2 (hb : b + 71 ≤ h.length) (q : zOk F (fun _ => 0) (fun _ => 0) 50 30 10 20) (w : Int32) (p : nI 1 ≤ w ∧ w ≤ nI 1000) : ∃ F' g', zcalls zTB 119 [.ref b, .int (nI 2), .int w] (nput b F (fun _ => 0) h) (some (.int (F 31 2)), nput b F' g' h) := by
  obtain ⟨x', rfl, -, hx⟩ := nI_ofP (Int32.le_trans (by decide) p.1)
  have hhi := (nI_leI hx (by decide)).mp p.2
  have hlo := (nI_leI (by decide) hx).mp p.1
  obtain ⟨F', g', -, hc⟩ := c_set hb F _ _ 50 30 10 20 2 x' 50 30 x' 20 q.nb (by decide) (zNb_set2 q.nb hlo hhi) (fun e => by first | exact hlo | exact absurd e (by decide)) (fun e => by first | exact hhi | exact absurd e (by decide)) (by omega)
  exact ⟨F', g', hc⟩
theorem r_set3 (hb : b + 71 ≤ h.length) (q : zOk F (fun _ => 0) (fun _ => 0) 50 30 10 20) (w : Int32) (p : nI 0 ≤ w ∧ w ≤ nI 1000) : ∃ F' g', zcalls zTB 119 [.ref b, .int (nI 3), .int w] (nput b F (fun _ => 0) h) (some (.int (F 31 3)), nput b F' g' h) := by
  obtain ⟨x', rfl, -, hx⟩ := nI_ofP (Int32.le_trans (by decide) p.1)
  have hhi := (nI_leI hx (by decide)).mp p.2
  have hlo := (nI_leI (by decide) hx).mp p.1
  obtain ⟨F', g', -, hc⟩ := c_set hb F _ _ 50 30 10 20 3 x' 50 30 10 x' q.nb (by decide) (zNb_set3 q.nb hlo hhi) (fun e => by first | exact hlo | exact absurd e (by decide)) (fun e => by first | exact hhi | exact absurd e (by decide)) (by omega)
  exact ⟨F', g', hc⟩
theorem c_unlearn0 (hb : b + 71 ≤ h.length) : zcalls zTB 63 [.ref (b + 1)] (nput b F (fun _ => 0) h) (none, nput b F (updG (fun _ => 0) 1 0) h) := by
  refine zcalls_of (Nat.le_of_ble_eq_true rfl) ?_
  show zruns zTB 63 0 [some (.ref (b + 1)), none] [] _ _
  refine zr_iconst (v := (nI 0)) (pc' := 1) zi_63_0 rfl rfl ?_
  refine zr_istore_n (pc' := 2) zi_63_1 (Nat.le_of_ble_eq_true rfl) rfl rfl ?_
  dsimp only [zst1, zst2, zkill, List.set, List.getElem?_cons_succ, List.getElem?_cons_zero]
  refine zr_iload_n (pc' := 3) zi_63_2 rfl rfl ?_
  refine zr_aload_n (pc' := 4) zi_63_3 rfl rfl ?_
  refine zr_get (pc' := 7) zi_63_4 (nput_at hb (k := 1) rfl) rfl rfl ?_
  refine zr_icmpt zi_63_7 rfl ?_
  refine zr_aload_n (pc' := 26) zi_63_25 rfl rfl ?_
  refine zr_iconst (v := (nI 0)) (pc' := 27) zi_63_26 rfl rfl ?_
  refine zr_put (pc' := 30) zi_63_27 (by omega) (nput_at hb (k := 1) rfl) (Nat.le_of_ble_eq_true rfl) rfl rfl (nput_set (g' := updG (fun _ => 0) 1 0) hb (by decide) rfl) ?_
  exact zr_return zi_63_30 rfl
theorem updG_same {g : Nat → Nat} {k x : Nat} (h : g k = x) : updG g k x = g := by
  funext j
  unfold updG
  split
  · rename_i e
    rw [e, h]
  · rfl
theorem r_forget (hb : b + 71 ≤ h.length) (q : zOk F (fun _ => 0) (fun _ => 0) 50 30 10 20) : ∃ F' g', zcalls zTB 120 [.ref b] (nput b F (fun _ => 0) h) (some (.int 0), nput b F' g' h) := by
  obtain ⟨F', g', -, hc⟩ := c_recompute hb F _ _ 50 30 10 20 q.nb
  refine ⟨F', g', ?_⟩
  have hu := c_unlearn0 (F := F) hb
  rw [updG_same rfl] at hu
  refine zcalls_of (Nat.le_of_ble_eq_true rfl) ?_
  show zruns zTB 120 0 [some (.ref b), none] [] _ _
  refine zr_aload_n (pc' := 1) zi_120_0 rfl rfl ?_
  refine zr_get (pc' := 4) zi_120_1 (nput_at hb (k := 0) rfl) rfl rfl ?_
  refine zr_get (pc' := 7) zi_120_4 (nput_at hb (k := 1) rfl) rfl rfl ?_
  refine zr_istore_n (pc' := 8) zi_120_7 (Nat.le_of_ble_eq_true rfl) rfl rfl ?_
  dsimp only [zst1, zst2, zkill, List.set, List.getElem?_cons_succ, List.getElem?_cons_zero]
  refine zr_aload_n (pc' := 9) zi_120_8 rfl rfl ?_
  refine zr_get (pc' := 12) zi_120_9 (nput_at hb (k := 0) rfl) rfl rfl ?_
  refine zr_n0 (pc' := 15) zi_120_12 (nput_at hb (k := 1) rfl) rfl hu rfl ?_
  refine zr_aload_n (pc' := 16) zi_120_15 rfl rfl ?_
  refine zr_get (pc' := 19) zi_120_16 (nput_at hb (k := 0) rfl) rfl rfl ?_
  refine zr_iconst (v := (nI 0)) (pc' := 20) zi_120_19 rfl rfl ?_
  refine zr_put (pc' := 23) zi_120_20 (by omega) (nput_at hb (k := 16) rfl) (Nat.le_of_ble_eq_true rfl) rfl rfl (nput_set (g' := updG (fun _ => 0) 2 0) hb (by decide) rfl) ?_
  rw [updG_same rfl]
  refine zr_aload_n (pc' := 24) zi_120_23 rfl rfl ?_
  refine zr_n0 (pc' := 27) zi_120_24 (nput_at hb (k := 0) rfl) rfl hc rfl ?_
  refine zr_iload_n (pc' := 28) zi_120_27 rfl rfl ?_
  exact zr_ireturn zi_120_28 rfl
theorem r_many (hb : b + 71 ≤ h.length) (q : zOk F (fun _ => 0) (fun _ => 0) 50 30 10 20) : zcalls zTB 94 [.ref b, .int (nI 0)] (nput b F (fun _ => 0) h) (some (.int 0), nput b F (fun _ => 0) h) ∧ zcalls zTB 94 [.ref b, .int (nI 1)] (nput b F (fun _ => 0) h) (some (.int 0), nput b F (fun _ => 0) h) ∧ zcalls zTB 94 [.ref b, .int (nI 2)] (nput b F (fun _ => 0) h) (some (.int 0), nput b F (fun _ => 0) h) ∧ zcalls zTB 94 [.ref b, .int (nI 3)] (nput b F (fun _ => 0) h) (some (.int 0), nput b F (fun _ => 0) h) ∧ zcalls zTB 94 [.ref b, .int (nI 4)] (nput b F (fun _ => 0) h) (some (.int 0), nput b F (fun _ => 0) h) ∧ zcalls zTB 94 [.ref b, .int (nI 5)] (nput b F (fun _ => 0) h) (some (.int 0), nput b F (fun _ => 0) h) := ⟨c_many0 hb q, c_many1 hb q, c_many2 hb q, c_many3 hb q, c_many4 hb q, c_many5 hb q⟩
theorem r_digest (hb : b + 71 ≤ h.length) (q : zOk F (fun _ => 0) (fun _ => 0) 50 30 10 20) : zcalls zTB 129 [.ref b] (nput b F (fun _ => 0) h) (some (.long 1598070190637434), nput b F (fun _ => 0) h) := by
  have key : ∃ d : Int64, zcalls zTB 129 [.ref b] (nput b F (fun _ => 0) h) (some (.long d), nput b F (fun _ => 0) h) ∧ d = 1598070190637434 := by
   apply Exists.intro
   refine ⟨zcalls_of (Nat.le_of_ble_eq_true rfl) ?_, ?_⟩
   · show zruns zTB 129 0 [some (.ref b), none, none, none, none] [] _ _
     refine zr_ldc2_w (pc' := 3) zi_129_0 rfl rfl ?_
     refine zr_lstore_n (pc' := 4) zi_129_3 (Nat.le_of_ble_eq_true rfl) rfl rfl ?_
     dsimp only [zst1, zst2, zkill, List.set, List.getElem?_cons_succ, List.getElem?_cons_zero]
     refine zr_iconst (v := (nI 0)) (pc' := 5) zi_129_4 rfl rfl ?_
     refine zr_istore_n (pc' := 6) zi_129_5 (Nat.le_of_ble_eq_true rfl) rfl rfl ?_
     dsimp only [zst1, zst2, zkill, List.set, List.getElem?_cons_succ, List.getElem?_cons_zero]
     refine zr_iload_n (pc' := 7) zi_129_6 rfl rfl ?_
     refine zr_iconst (v := (nI 5)) (pc' := 8) zi_129_7 rfl rfl ?_
     refine zr_icmpf (pc' := 11) zi_129_8 rfl rfl ?_
     refine zr_lload_n (pc' := 12) zi_129_11 rfl rfl ?_
     refine zr_aload_n (pc' := 13) zi_129_12 rfl rfl ?_
     refine zr_iload_n (pc' := 14) zi_129_13 rfl rfl ?_
     refine zr_v1 (pc' := 17) zi_129_14 (nput_at hb (k := 0) rfl) rfl (r_many hb q).1 rfl ?_
     refine zr_s2 (pc' := 20) zi_129_17 rfl (c_mixX _ _) rfl ?_
     refine zr_lstore_n (pc' := 21) zi_129_20 (Nat.le_of_ble_eq_true rfl) rfl rfl ?_
     dsimp only [zst1, zst2, zkill, List.set, List.getElem?_cons_succ, List.getElem?_cons_zero]
     refine zr_iinc (pc' := 24) zi_129_21 rfl (by first | exact n_inc _ | rfl) rfl rfl ?_
     dsimp only [zst1, zst2, zkill, List.set, List.getElem?_cons_succ, List.getElem?_cons_zero]
     refine zr_goto zi_129_24 ?_
     refine zr_iload_n (pc' := 7) zi_129_6 rfl rfl ?_
     refine zr_iconst (v := (nI 5)) (pc' := 8) zi_129_7 rfl rfl ?_
     refine zr_icmpf (pc' := 11) zi_129_8 rfl rfl ?_
     refine zr_lload_n (pc' := 12) zi_129_11 rfl rfl ?_
     refine zr_aload_n (pc' := 13) zi_129_12 rfl rfl ?_
     refine zr_iload_n (pc' := 14) zi_129_13 rfl rfl ?_
     refine zr_v1 (pc' := 17) zi_129_14 (nput_at hb (k := 0) rfl) rfl (r_many hb q).2.1 rfl ?_
     refine zr_s2 (pc' := 20) zi_129_17 rfl (c_mixX _ _) rfl ?_
     refine zr_lstore_n (pc' := 21) zi_129_20 (Nat.le_of_ble_eq_true rfl) rfl rfl ?_
     dsimp only [zst1, zst2, zkill, List.set, List.getElem?_cons_succ, List.getElem?_cons_zero]
     refine zr_iinc (pc' := 24) zi_129_21 rfl (by first | exact n_inc _ | rfl) rfl rfl ?_
     dsimp only [zst1, zst2, zkill, List.set, List.getElem?_cons_succ, List.getElem?_cons_zero]
     refine zr_goto zi_129_24 ?_
     refine zr_iload_n (pc' := 7) zi_129_6 rfl rfl ?_
     refine zr_iconst (v := (nI 5)) (pc' := 8) zi_129_7 rfl rfl ?_
     refine zr_icmpf (pc' := 11) zi_129_8 rfl rfl ?_
     refine zr_lload_n (pc' := 12) zi_129_11 rfl rfl ?_
     refine zr_aload_n (pc' := 13) zi_129_12 rfl rfl ?_
     refine zr_iload_n (pc' := 14) zi_129_13 rfl rfl ?_
     refine zr_v1 (pc' := 17) zi_129_14 (nput_at hb (k := 0) rfl) rfl (r_many hb q).2.2.1 rfl ?_
     refine zr_s2 (pc' := 20) zi_129_17 rfl (c_mixX _ _) rfl ?_
     refine zr_lstore_n (pc' := 21) zi_129_20 (Nat.le_of_ble_eq_true rfl) rfl rfl ?_
     dsimp only [zst1, zst2, zkill, List.set, List.getElem?_cons_succ, List.getElem?_cons_zero]
     refine zr_iinc (pc' := 24) zi_129_21 rfl (by first | exact n_inc _ | rfl) rfl rfl ?_
     dsimp only [zst1, zst2, zkill, List.set, List.getElem?_cons_succ, List.getElem?_cons_zero]
     refine zr_goto zi_129_24 ?_
     refine zr_iload_n (pc' := 7) zi_129_6 rfl rfl ?_
     refine zr_iconst (v := (nI 5)) (pc' := 8) zi_129_7 rfl rfl ?_
     refine zr_icmpf (pc' := 11) zi_129_8 rfl rfl ?_
     refine zr_lload_n (pc' := 12) zi_129_11 rfl rfl ?_
     refine zr_aload_n (pc' := 13) zi_129_12 rfl rfl ?_
     refine zr_iload_n (pc' := 14) zi_129_13 rfl rfl ?_
     refine zr_v1 (pc' := 17) zi_129_14 (nput_at hb (k := 0) rfl) rfl (r_many hb q).2.2.2.1 rfl ?_
     refine zr_s2 (pc' := 20) zi_129_17 rfl (c_mixX _ _) rfl ?_
     refine zr_lstore_n (pc' := 21) zi_129_20 (Nat.le_of_ble_eq_true rfl) rfl rfl ?_
     dsimp only [zst1, zst2, zkill, List.set, List.getElem?_cons_succ, List.getElem?_cons_zero]
     refine zr_iinc (pc' := 24) zi_129_21 rfl (by first | exact n_inc _ | rfl) rfl rfl ?_
     dsimp only [zst1, zst2, zkill, List.set, List.getElem?_cons_succ, List.getElem?_cons_zero]
     refine zr_goto zi_129_24 ?_
     refine zr_iload_n (pc' := 7) zi_129_6 rfl rfl ?_
     refine zr_iconst (v := (nI 5)) (pc' := 8) zi_129_7 rfl rfl ?_
     refine zr_icmpf (pc' := 11) zi_129_8 rfl rfl ?_
     refine zr_lload_n (pc' := 12) zi_129_11 rfl rfl ?_
     refine zr_aload_n (pc' := 13) zi_129_12 rfl rfl ?_
     refine zr_iload_n (pc' := 14) zi_129_13 rfl rfl ?_
     refine zr_v1 (pc' := 17) zi_129_14 (nput_at hb (k := 0) rfl) rfl (r_many hb q).2.2.2.2.1 rfl ?_
     refine zr_s2 (pc' := 20) zi_129_17 rfl (c_mixX _ _) rfl ?_
     refine zr_lstore_n (pc' := 21) zi_129_20 (Nat.le_of_ble_eq_true rfl) rfl rfl ?_
     dsimp only [zst1, zst2, zkill, List.set, List.getElem?_cons_succ, List.getElem?_cons_zero]
     refine zr_iinc (pc' := 24) zi_129_21 rfl (by first | exact n_inc _ | rfl) rfl rfl ?_
     dsimp only [zst1, zst2, zkill, List.set, List.getElem?_cons_succ, List.getElem?_cons_zero]
     refine zr_goto zi_129_24 ?_
     refine zr_iload_n (pc' := 7) zi_129_6 rfl rfl ?_
     refine zr_iconst (v := (nI 5)) (pc' := 8) zi_129_7 rfl rfl ?_
     refine zr_icmpf (pc' := 11) zi_129_8 rfl rfl ?_
     refine zr_lload_n (pc' := 12) zi_129_11 rfl rfl ?_
     refine zr_aload_n (pc' := 13) zi_129_12 rfl rfl ?_
     refine zr_iload_n (pc' := 14) zi_129_13 rfl rfl ?_
     refine zr_v1 (pc' := 17) zi_129_14 (nput_at hb (k := 0) rfl) rfl (r_many hb q).2.2.2.2.2 rfl ?_
     refine zr_s2 (pc' := 20) zi_129_17 rfl (c_mixX _ _) rfl ?_
     refine zr_lstore_n (pc' := 21) zi_129_20 (Nat.le_of_ble_eq_true rfl) rfl rfl ?_
     dsimp only [zst1, zst2, zkill, List.set, List.getElem?_cons_succ, List.getElem?_cons_zero]
     refine zr_iinc (pc' := 24) zi_129_21 rfl (by first | exact n_inc _ | rfl) rfl rfl ?_
     dsimp only [zst1, zst2, zkill, List.set, List.getElem?_cons_succ, List.getElem?_cons_zero]
     refine zr_goto zi_129_24 ?_
     refine zr_iload_n (pc' := 7) zi_129_6 rfl rfl ?_
     refine zr_iconst (v := (nI 5)) (pc' := 8) zi_129_7 rfl rfl ?_
     refine zr_icmpt zi_129_8 rfl ?_
     refine zr_iconst (v := (nI 0)) (pc' := 28) zi_129_27 rfl rfl ?_
     refine zr_istore_n (pc' := 29) zi_129_28 (Nat.le_of_ble_eq_true rfl) rfl rfl ?_
     dsimp only [zst1, zst2, zkill, List.set, List.getElem?_cons_succ, List.getElem?_cons_zero]
     refine zr_iload_n (pc' := 30) zi_129_29 rfl rfl ?_
     refine zr_aload_n (pc' := 31) zi_129_30 rfl rfl ?_
     refine zr_get (pc' := 34) zi_129_31 (nput_at hb (k := 0) rfl) rfl rfl ?_
     refine zr_get (pc' := 37) zi_129_34 (nput_at hb (k := 1) rfl) rfl rfl ?_
     refine zr_icmpt zi_129_37 rfl ?_
     refine zr_iconst (v := (nI 0)) (pc' := 54) zi_129_53 rfl rfl ?_
     refine zr_istore_n (pc' := 55) zi_129_54 (Nat.le_of_ble_eq_true rfl) rfl rfl ?_
     dsimp only [zst1, zst2, zkill, List.set, List.getElem?_cons_succ, List.getElem?_cons_zero]
     refine zr_iload_n (pc' := 56) zi_129_55 rfl rfl ?_
     refine zr_aload_n (pc' := 57) zi_129_56 rfl rfl ?_
     refine zr_get (pc' := 60) zi_129_57 (nput_at hb (k := 0) rfl) rfl rfl ?_
     refine zr_get (pc' := 63) zi_129_60 (nput_at hb (k := 16) rfl) rfl rfl ?_
     refine zr_icmpt zi_129_63 rfl ?_
     refine zr_iconst (v := (nI 0)) (pc' := 80) zi_129_79 rfl rfl ?_
     refine zr_istore_n (pc' := 81) zi_129_80 (Nat.le_of_ble_eq_true rfl) rfl rfl ?_
     dsimp only [zst1, zst2, zkill, List.set, List.getElem?_cons_succ, List.getElem?_cons_zero]
     refine zr_iload_n (pc' := 82) zi_129_81 rfl rfl ?_
     refine zr_aload_n (pc' := 83) zi_129_82 rfl rfl ?_
     refine zr_get (pc' := 86) zi_129_83 (nput_at hb (k := 0) rfl) rfl rfl ?_
     refine zr_get (pc' := 89) zi_129_86 (nput_at hb (k := 26) rfl) rfl rfl ?_
     refine zr_icmpt zi_129_89 rfl ?_
     refine zr_lload_n (pc' := 127) zi_129_126 rfl rfl ?_
     refine zr_aload_n (pc' := 128) zi_129_127 rfl rfl ?_
     refine zr_v0 (pc' := 131) zi_129_128 (nput_at hb (k := 0) rfl) rfl (r_usual hb q) rfl ?_
     refine zr_s2 (pc' := 134) zi_129_131 rfl (c_mixX _ _) rfl ?_
     refine zr_lstore_n (pc' := 135) zi_129_134 (Nat.le_of_ble_eq_true rfl) rfl rfl ?_
     dsimp only [zst1, zst2, zkill, List.set, List.getElem?_cons_succ, List.getElem?_cons_zero]
     refine zr_iconst (v := (nI 0)) (pc' := 136) zi_129_135 rfl rfl ?_
     refine zr_istore_n (pc' := 137) zi_129_136 (Nat.le_of_ble_eq_true rfl) rfl rfl ?_
     dsimp only [zst1, zst2, zkill, List.set, List.getElem?_cons_succ, List.getElem?_cons_zero]
     refine zr_iload_n (pc' := 138) zi_129_137 rfl rfl ?_
     refine zr_aload_n (pc' := 139) zi_129_138 rfl rfl ?_
     refine zr_get (pc' := 142) zi_129_139 (nput_at hb (k := 0) rfl) rfl rfl ?_
     refine zr_get (pc' := 145) zi_129_142 (nput_at hb (k := 43) rfl) rfl rfl ?_
     refine zr_icmpt zi_129_145 rfl ?_
     refine zr_lload_n (pc' := 182) zi_129_181 rfl rfl ?_
     exact zr_lreturn zi_129_182 rfl
   · decide
  obtain ⟨d, hd, rfl⟩ := key
  exact hd
end CF


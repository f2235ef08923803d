theorem zi_101_0 : zI 101 0 = some (.iconst 0, []) := by decide +kernel
theorem zi_101_1 : zI 101 1 = some (.istore_n 1, []) := by decide +kernel
theorem zi_101_2 : zI 101 2 = some (.iload_n 1, []) := by decide +kernel
theorem zi_101_3 : zI 101 3 = some (.iconst 3, []) := by decide +kernel
theorem zi_101_4 : zI 101 4 = some (.if_icmp .ge 1129, [1133]) := by decide +kernel
theorem zi_101_7 : zI 101 7 = some (.new 9, [7, 505, 506, 130, 1, 1, 0, 1, 0, 1, 1, 1]) := by decide +kernel
theorem zi_101_10 : zI 101 10 = some (.dup, []) := by decide +kernel
theorem zi_101_11 : zI 101 11 = some (.aload_n 0, []) := by decide +kernel
theorem zi_101_12 : zI 101 12 = some (.bipush 31, []) := by decide +kernel
theorem zi_101_14 : zI 101 14 = some (.iload_n 1, []) := by decide +kernel
theorem zi_101_15 : zI 101 15 = some (.imul, []) := by decide +kernel
theorem zi_101_16 : zI 101 16 = some (.bipush 7, []) := by decide +kernel
theorem zi_101_18 : zI 101 18 = some (.iadd, []) := by decide +kernel
theorem zi_101_19 : zI 101 19 = some (.invokespecial 11, [94, 2, 2, 0, 509, 0, 130, 508, 0, 507]) := by decide +kernel
theorem zi_101_22 : zI 101 22 = some (.astore_n 2, []) := by decide +kernel
theorem zi_101_23 : zI 101 23 = some (.aload_n 2, []) := by decide +kernel
theorem zi_101_24 : zI 101 24 = some (.getfield 14, [7, 0, 510]) := by decide +kernel
theorem zi_101_27 : zI 101 27 = some (.astore_n 3, []) := by decide +kernel
theorem zi_101_28 : zI 101 28 = some (.aload_n 2, []) := by decide +kernel
theorem zi_101_29 : zI 101 29 = some (.invokevirtual 18, [97, 0, 0, 7, 513, 514, 130, 512, 0, 511]) := by decide +kernel
theorem zi_101_32 : zI 101 32 = some (.ifCond .ne 5, [37]) := by decide +kernel
theorem zi_101_37 : zI 101 37 = some (.iconst 0, []) := by decide +kernel
theorem zi_101_38 : zI 101 38 = some (.istore 4, []) := by decide +kernel
theorem zi_101_40 : zI 101 40 = some (.iload 4, []) := by decide +kernel
theorem zi_101_42 : zI 101 42 = some (.iconst 4, []) := by decide +kernel
theorem zi_101_43 : zI 101 43 = some (.if_icmp .ge 1084, [1127]) := by decide +kernel
theorem zi_101_46 : zI 101 46 = some (.aload_n 2, []) := by decide +kernel
theorem zi_101_47 : zI 101 47 = some (.invokevirtual 22, [46, 0, 0, 7, 517, 518, 130, 516, 0, 515]) := by decide +kernel
theorem zi_101_50 : zI 101 50 = some (.ifCond .eq 10, [60]) := by decide +kernel
theorem zi_101_53 : zI 101 53 = some (.aload_n 2, []) := by decide +kernel
theorem zi_101_54 : zI 101 54 = some (.invokevirtual 22, [46, 0, 0, 7, 517, 518, 130, 516, 0, 515]) := by decide +kernel
theorem zi_101_57 : zI 101 57 = some (.ifCond .ne 5, [62]) := by decide +kernel
theorem zi_101_62 : zI 101 62 = some (.aload_n 3, []) := by decide +kernel
theorem zi_101_63 : zI 101 63 = some (.invokevirtual 25, [43, 0, 0, 6, 521, 522, 9, 520, 0, 519]) := by decide +kernel
theorem zi_101_66 : zI 101 66 = some (.lstore 5, []) := by decide +kernel
theorem zi_101_68 : zI 101 68 = some (.aload_n 3, []) := by decide +kernel
theorem zi_101_69 : zI 101 69 = some (.iconst 0, []) := by decide +kernel
theorem zi_101_70 : zI 101 70 = some (.invokevirtual 31, [15, 0, 1, 6, 232, 233, 9, 231, 0, 523]) := by decide +kernel
theorem zi_101_73 : zI 101 73 = some (.istore 7, []) := by decide +kernel
theorem zi_101_75 : zI 101 75 = some (.aload_n 3, []) := by decide +kernel
theorem zi_101_76 : zI 101 76 = some (.iconst 1, []) := by decide +kernel
theorem zi_101_77 : zI 101 77 = some (.invokevirtual 31, [15, 0, 1, 6, 232, 233, 9, 231, 0, 523]) := by decide +kernel
theorem zi_101_80 : zI 101 80 = some (.istore 8, []) := by decide +kernel
theorem zi_101_82 : zI 101 82 = some (.aload_n 3, []) := by decide +kernel
theorem zi_101_83 : zI 101 83 = some (.iconst 3, []) := by decide +kernel
theorem zi_101_84 : zI 101 84 = some (.invokevirtual 31, [15, 0, 1, 6, 232, 233, 9, 231, 0, 523]) := by decide +kernel
theorem zi_101_87 : zI 101 87 = some (.istore 9, []) := by decide +kernel
theorem zi_101_89 : zI 101 89 = some (.iconst 0, []) := by decide +kernel
theorem zi_101_90 : zI 101 90 = some (.istore 10, []) := by decide +kernel
theorem zi_101_92 : zI 101 92 = some (.iconst 0, []) := by decide +kernel
theorem zi_101_93 : zI 101 93 = some (.istore 11, []) := by decide +kernel
theorem zi_101_470 : zI 101 470 = some (.iconst 0, []) := by decide +kernel
theorem zi_101_471 : zI 101 471 = some (.istore 11, []) := by decide +kernel
theorem zi_101_473 : zI 101 473 = some (.iconst 0, []) := by decide +kernel
theorem zi_101_474 : zI 101 474 = some (.istore 12, []) := by decide +kernel
theorem zi_101_476 : zI 101 476 = some (.iconst 0, []) := by decide +kernel
theorem zi_101_477 : zI 101 477 = some (.istore 13, []) := by decide +kernel
theorem zi_101_479 : zI 101 479 = some (.iconst 0, []) := by decide +kernel
theorem zi_101_480 : zI 101 480 = some (.istore 14, []) := by decide +kernel
theorem zi_101_852 : zI 101 852 = some (.iconst 0, []) := by decide +kernel
theorem zi_101_853 : zI 101 853 = some (.istore 14, []) := by decide +kernel
theorem zi_101_1025 : zI 101 1025 = some (.iconst 0, []) := by decide +kernel
theorem zi_101_1026 : zI 101 1026 = some (.istore 14, []) := by decide +kernel
theorem zi_101_1109 : zI 101 1109 = some (.aload_n 3, []) := by decide +kernel
theorem zi_101_1110 : zI 101 1110 = some (.invokevirtual 25, [43, 0, 0, 6, 521, 522, 9, 520, 0, 519]) := by decide +kernel
theorem zi_101_1113 : zI 101 1113 = some (.lload 5, []) := by decide +kernel
theorem zi_101_1115 : zI 101 1115 = some (.lcmp, []) := by decide +kernel
theorem zi_101_1116 : zI 101 1116 = some (.ifCond .eq 5, [1121]) := by decide +kernel
theorem zi_101_1121 : zI 101 1121 = some (.iinc 4 1, []) := by decide +kernel
theorem zi_101_1124 : zI 101 1124 = some (.goto (-1084), [40]) := by decide +kernel
theorem zi_101_1127 : zI 101 1127 = some (.iinc 1 1, []) := by decide +kernel
theorem zi_101_1130 : zI 101 1130 = some (.goto (-1128), [2]) := by decide +kernel
theorem zi_101_1133 : zI 101 1133 = some (.iconst 1, []) := by decide +kernel
theorem zi_101_1134 : zI 101 1134 = some (.ireturn, []) := by decide +kernel
/-! the law, whole -/
theorem lg_cmp_self (x : Int64) : lg_cmp x x = 0 := by
  simp [lg_cmp]
section
theorem l_check {o : Nat} {h : zH} {F : Nat → Nat → Int32} {g : Nat → Nat} {x : Nat → Nat} {sh gp wi bk rl rt e u d st : Nat} {T1 : Int32} {Q : zR → Prop} (w : zOw o h F (g 0) (g 1) (g 2) sh gp wi bk rl rt e u d) (q : zOk F g x sh gp wi bk) (k : ∀ X5 X6 X7 X8 X9 X10 X11 X12 X13 X14 X15 X16 X17, zev 101 40 [some (.ref 0), some (.int T1), some (.ref o), some (.ref (o + 1)), some (.int (nI (st + 1))), X5, X6, X7, X8, X9, X10, X11, X12, X13, X14, X15, X16, X17] [] (nput (o + 1) F g h) Q) (X5 X6 X7 X8 X9 X10 X11 X12 X13 X14 X15 X16 X17 : Option Value) : zev 101 62 [some (.ref 0), some (.int T1), some (.ref o), some (.ref (o + 1)), some (.int (nI st)), X5, X6, X7, X8, X9, X10, X11, X12, X13, X14, X15, X16, X17] [] (nput (o + 1) F g h) Q := by
  have hb := w.hb
  obtain ⟨D, hdg⟩ := c_digest hb q
  have m0 := c_many0 hb q
  have m1 := c_many1 hb q
  have m3 := c_many3 hb q
  obtain ⟨C, Z, qs⟩ := q.to.se
  refine zev_of (fun _ kk => zr_aload_n (pc' := 63) zi_101_62 rfl rfl kk) ?_
  refine zev_of (fun _ kk => zr_v0 (pc' := 66) zi_101_63 (nput_at hb (k := 0) rfl) rfl hdg rfl kk) ?_
  refine zev_of (fun _ kk => zr_lstore (pc' := 68) zi_101_66 (Nat.le_of_ble_eq_true rfl) rfl rfl kk) ?_
  dsimp only [zst1, zst2, zkill, List.set, List.getElem?_cons_succ, List.getElem?_cons_zero]
  refine zev_of (fun _ kk => zr_aload_n (pc' := 69) zi_101_68 rfl rfl kk) ?_
  refine zev_of (fun _ kk => zr_iconst (v := (nI 0)) (pc' := 70) zi_101_69 rfl rfl kk) ?_
  refine zev_of (fun _ kk => zr_v1 (pc' := 73) zi_101_70 (nput_at hb (k := 0) rfl) rfl m0 rfl kk) ?_
  refine zev_of (fun _ kk => zr_istore (pc' := 75) zi_101_73 (Nat.le_of_ble_eq_true rfl) rfl rfl kk) ?_
  dsimp only [zst1, zst2, zkill, List.set, List.getElem?_cons_succ, List.getElem?_cons_zero]
  refine zev_of (fun _ kk => zr_aload_n (pc' := 76) zi_101_75 rfl rfl kk) ?_
  refine zev_of (fun _ kk => zr_iconst (v := (nI 1)) (pc' := 77) zi_101_76 rfl rfl kk) ?_
  refine zev_of (fun _ kk => zr_v1 (pc' := 80) zi_101_77 (nput_at hb (k := 0) rfl) rfl m1 rfl kk) ?_
  refine zev_of (fun _ kk => zr_istore (pc' := 82) zi_101_80 (Nat.le_of_ble_eq_true rfl) rfl rfl kk) ?_
  dsimp only [zst1, zst2, zkill, List.set, List.getElem?_cons_succ, List.getElem?_cons_zero]
  refine zev_of (fun _ kk => zr_aload_n (pc' := 83) zi_101_82 rfl rfl kk) ?_
  refine zev_of (fun _ kk => zr_iconst (v := (nI 3)) (pc' := 84) zi_101_83 rfl rfl kk) ?_
  refine zev_of (fun _ kk => zr_v1 (pc' := 87) zi_101_84 (nput_at hb (k := 0) rfl) rfl m3 rfl kk) ?_
  refine zev_of (fun _ kk => zr_istore (pc' := 89) zi_101_87 (Nat.le_of_ble_eq_true rfl) rfl rfl kk) ?_
  dsimp only [zst1, zst2, zkill, List.set, List.getElem?_cons_succ, List.getElem?_cons_zero]
  refine zev_of (fun _ kk => zr_iconst (v := (nI 0)) (pc' := 90) zi_101_89 rfl rfl kk) ?_
  refine zev_of (fun _ kk => zr_istore (pc' := 92) zi_101_90 (Nat.le_of_ble_eq_true rfl) rfl rfl kk) ?_
  dsimp only [zst1, zst2, zkill, List.set, List.getElem?_cons_succ, List.getElem?_cons_zero]
  refine zev_of (fun _ kk => zr_iconst (v := (nI 0)) (pc' := 93) zi_101_92 rfl rfl kk) ?_
  refine zev_of (fun _ kk => zr_istore (pc' := 95) zi_101_93 (Nat.le_of_ble_eq_true rfl) rfl rfl kk) ?_
  dsimp only [zst1, zst2, zkill, List.set, List.getElem?_cons_succ, List.getElem?_cons_zero]
  refine l_lines w q X17 (fun X12 X13 X14 X15 X16 => ?_) 0 (Nat.zero_le _) _ _ _ _ _
  refine zev_of (fun _ kk => zr_iconst (v := (nI 0)) (pc' := 471) zi_101_470 rfl rfl kk) ?_
  refine zev_of (fun _ kk => zr_istore (pc' := 473) zi_101_471 (Nat.le_of_ble_eq_true rfl) rfl rfl kk) ?_
  dsimp only [zst1, zst2, zkill, List.set, List.getElem?_cons_succ, List.getElem?_cons_zero]
  refine zev_of (fun _ kk => zr_iconst (v := (nI 0)) (pc' := 474) zi_101_473 rfl rfl kk) ?_
  refine zev_of (fun _ kk => zr_istore (pc' := 476) zi_101_474 (Nat.le_of_ble_eq_true rfl) rfl rfl kk) ?_
  dsimp only [zst1, zst2, zkill, List.set, List.getElem?_cons_succ, List.getElem?_cons_zero]
  refine zev_of (fun _ kk => zr_iconst (v := (nI 0)) (pc' := 477) zi_101_476 rfl rfl kk) ?_
  refine zev_of (fun _ kk => zr_istore (pc' := 479) zi_101_477 (Nat.le_of_ble_eq_true rfl) rfl rfl kk) ?_
  dsimp only [zst1, zst2, zkill, List.set, List.getElem?_cons_succ, List.getElem?_cons_zero]
  refine zev_of (fun _ kk => zr_iconst (v := (nI 0)) (pc' := 480) zi_101_479 rfl rfl kk) ?_
  refine zev_of (fun _ kk => zr_istore (pc' := 482) zi_101_480 (Nat.le_of_ble_eq_true rfl) rfl rfl kk) ?_
  dsimp only [zst1, zst2, zkill, List.set, List.getElem?_cons_succ, List.getElem?_cons_zero]
  refine l_sess w q qs (fun X15 X16 X17 => ?_) 0 (Nat.zero_le _) _ _ _
  refine l_sums w q qs _ _ _ _ ?_
  refine zev_of (fun _ kk => zr_iconst (v := (nI 0)) (pc' := 853) zi_101_852 rfl rfl kk) ?_
  refine zev_of (fun _ kk => zr_istore (pc' := 855) zi_101_853 (Nat.le_of_ble_eq_true rfl) rfl rfl kk) ?_
  dsimp only [zst1, zst2, zkill, List.set, List.getElem?_cons_succ, List.getElem?_cons_zero]
  refine l_cau w q (fun X15 X16 X17 => ?_) 0 (Nat.zero_le _) _ _ _
  refine zev_of (fun _ kk => zr_iconst (v := (nI 0)) (pc' := 1026) zi_101_1025 rfl rfl kk) ?_
  refine zev_of (fun _ kk => zr_istore (pc' := 1028) zi_101_1026 (Nat.le_of_ble_eq_true rfl) rfl rfl kk) ?_
  dsimp only [zst1, zst2, zkill, List.set, List.getElem?_cons_succ, List.getElem?_cons_zero]
  refine l_spk w q _ _ _ (fun X14 => ?_) 0 (Nat.zero_le _)
  refine zev_of (fun _ kk => zr_aload_n (pc' := 1110) zi_101_1109 rfl rfl kk) ?_
  refine zev_of (fun _ kk => zr_v0 (pc' := 1113) zi_101_1110 (nput_at hb (k := 0) rfl) rfl hdg rfl kk) ?_
  refine zev_of (fun _ kk => zr_lload (pc' := 1115) zi_101_1113 rfl rfl kk) ?_
  refine zev_of (fun _ kk => zr_lcmp (pc' := 1116) zi_101_1115 rfl kk) ?_
  rw [lg_cmp_self]
  refine zv_if (pc' := 1119) zi_101_1116 rfl (fun h1116 => ?_) (fun h1116 => ?_)
  · replace h1116 := zc_eq_t h1116
    refine zev_of (fun _ kk => zr_iinc (pc' := 1124) zi_101_1121 rfl (by first | exact n_inc _ | rfl) rfl rfl kk) ?_
    dsimp only [zst1, zst2, zkill, List.set, List.getElem?_cons_succ, List.getElem?_cons_zero]
    refine zev_of (fun _ kk => zr_goto zi_101_1124 kk) ?_
    exact k _ _ _ _ _ _ _ _ _ _ _ _ _
  · replace h1116 := zc_eq_f h1116
    exact absurd rfl h1116
theorem l_steps {o V : Nat} {T1 : Int32} {Q : zR → Prop} (hV : V ≤ 1000) (k : ∀ (H : zH) (X5 X6 X7 X8 X9 X10 X11 X12 X13 X14 X15 X16 X17 : Option Value), zOW o V H → zev 101 1127 [some (.ref 0), some (.int T1), some (.ref o), some (.ref (o + 1)), some (.int (nI 4)), X5, X6, X7, X8, X9, X10, X11, X12, X13, X14, X15, X16, X17] [] H Q) : ∀ (j st U : Nat) (H : zH), st + j = 4 → U + 4 * j ≤ V → zOW o U H → ∀ X5 X6 X7 X8 X9 X10 X11 X12 X13 X14 X15 X16 X17, zev 101 40 [some (.ref 0), some (.int T1), some (.ref o), some (.ref (o + 1)), some (.int (nI st)), X5, X6, X7, X8, X9, X10, X11, X12, X13, X14, X15, X16, X17] [] H Q := by
  intro j
  induction j with
  | zero =>
    intro st U H hst hU W X5 X6 X7 X8 X9 X10 X11 X12 X13 X14 X15 X16 X17
    obtain rfl : st = 4 := by omega
    have kk := k H X5 X6 X7 X8 X9 X10 X11 X12 X13 X14 X15 X16 X17 (zOW_mono W (by omega))
    refine zev_of (fun _ kk => zr_iload (pc' := 42) zi_101_40 rfl rfl kk) ?_
    refine zev_of (fun _ kk => zr_iconst (v := (nI 4)) (pc' := 43) zi_101_42 rfl rfl kk) ?_
    refine zv_icmp (pc' := 46) zi_101_43 rfl (fun h43 => ?_) (fun h43 => ?_)
    · replace h43 := zc_ge_t (by omega) (by omega) h43
      exact kk
    · replace h43 := zc_ge_f (by omega) (by omega) h43
      omega
  | succ j ih =>
    intro st U H hst hU W X5 X6 X7 X8 X9 X10 X11 X12 X13 X14 X15 X16 X17
    obtain ⟨H1, W1, hc1⟩ := c_act (by omega) W
    obtain ⟨H2, W2, hc2⟩ := c_act (by omega) W1
    have next := ih (st + 1) (U + 2 + 2) H2 (by omega) (by omega) W2
    obtain ⟨h, F, g, x, sh, gp, wi, bk, rl, rt, e, q, hx, w, rfl⟩ := W
    obtain ⟨h1, F1, g1, x1, sh1, gp1, wi1, bk1, rl1, rt1, e1, q1, hx1, w1, rfl⟩ := W1
    obtain ⟨h2, F2, g2, x2, sh2, gp2, wi2, bk2, rl2, rt2, e2, q2, hx2, w2, rfl⟩ := W2
    have hb := w.hb
    obtain ⟨dr, hdr, hO⟩ := w.ob
    have hb1 := w1.hb
    obtain ⟨dr1, hdr1, hO1⟩ := w1.ob
    refine zev_of (fun _ kk => zr_iload (pc' := 42) zi_101_40 rfl rfl kk) ?_
    refine zev_of (fun _ kk => zr_iconst (v := (nI 4)) (pc' := 43) zi_101_42 rfl rfl kk) ?_
    refine zv_icmp (pc' := 46) zi_101_43 rfl (fun h43 => ?_) (fun h43 => ?_)
    · replace h43 := zc_ge_t (by omega) (by omega) h43
      omega
    · replace h43 := zc_ge_f (by omega) (by omega) h43
      refine zev_of (fun _ kk => zr_aload_n (pc' := 47) zi_101_46 rfl rfl kk) ?_
      refine zev_of (fun _ kk => zr_v0 (pc' := 50) zi_101_47 (zo_at' hb hO) rfl hc1 rfl kk) ?_
      refine zv_if (pc' := 53) zi_101_50 rfl (fun h50 => ?_) (fun h50 => ?_)
      · replace h50 := zc_eq_t h50
        exact absurd h50 (by decide)
      · replace h50 := zc_eq_f h50
        have hb := hb1
        have hO := hO1
        refine zev_of (fun _ kk => zr_aload_n (pc' := 54) zi_101_53 rfl rfl kk) ?_
        refine zev_of (fun _ kk => zr_v0 (pc' := 57) zi_101_54 (zo_at' hb hO) rfl hc2 rfl kk) ?_
        refine zv_if (pc' := 60) zi_101_57 rfl (fun h57 => ?_) (fun h57 => ?_)
        · replace h57 := zc_ne_t h57
          exact l_check w2 q2 next X5 X6 X7 X8 X9 X10 X11 X12 X13 X14 X15 X16 X17
        · replace h57 := zc_ne_f h57
          exact absurd h57 (by decide)
/-- the law answers 1 -/
def zQlaw : zR → Prop := fun q => ∃ H', zSC 200 H' ∧ q = (some (.int 1), H')
theorem zSC_mono {U V : Nat} {H : zH} (h : zSC U H) (hUV : U ≤ V) : zSC V H := by
  obtain ⟨h1, h2, h3, h4⟩ := h
  exact ⟨h1, by omega, by omega, h4⟩
theorem l_time : ∀ (j tm U : Nat) (H : zH), tm + j = 3 → 3 ≤ U → U + 40 * j ≤ 190 → zSC U H → ∀ X2 X3 X4 X5 X6 X7 X8 X9 X10 X11 X12 X13 X14 X15 X16 X17, zev 101 2 [some (.ref 0), some (.int (nI tm)), X2, X3, X4, X5, X6, X7, X8, X9, X10, X11, X12, X13, X14, X15, X16, X17] [] H zQlaw := by
  intro j
  induction j with
  | zero =>
    intro tm U H htm hU3 hU hS X2 X3 X4 X5 X6 X7 X8 X9 X10 X11 X12 X13 X14 X15 X16 X17
    refine zev_of (fun _ kk => zr_iload_n (pc' := 3) zi_101_2 rfl rfl kk) ?_
    refine zev_of (fun _ kk => zr_iconst (v := (nI 3)) (pc' := 4) zi_101_3 rfl rfl kk) ?_
    refine zv_icmp (pc' := 7) zi_101_4 rfl (fun h4 => ?_) (fun h4 => ?_)
    · replace h4 := zc_ge_t (by omega) (by omega) h4
      refine zev_of (fun _ kk => zr_iconst (v := (nI 1)) (pc' := 1134) zi_101_1133 rfl rfl kk) ?_
      refine zev_ret (zr_zreturn zi_101_1134 rfl (by decide)) ?_
      exact ⟨H, zSC_mono hS (by omega), rfl⟩
    · replace h4 := zc_ge_f (by omega) (by omega) h4
      omega
  | succ j ih =>
    intro tm U H htm hU3 hU hS X2 X3 X4 X5 X6 X7 X8 X9 X10 X11 X12 X13 X14 X15 X16 X17
    obtain ⟨H1, W1, hc1⟩ := c_oinit hS (31 * tm + 7) (by omega)
    obtain ⟨H2, W2, hc2⟩ := c_found (by omega) W1
    obtain ⟨h1, F1, g1, x1, sh1, gp1, wi1, bk1, rl1, rt1, e1, q1, hx1, w1, rfl⟩ := W1
    have hb := w1.hb
    obtain ⟨dr1, hdr1, hO⟩ := w1.ob
    refine zev_of (fun _ kk => zr_iload_n (pc' := 3) zi_101_2 rfl rfl kk) ?_
    refine zev_of (fun _ kk => zr_iconst (v := (nI 3)) (pc' := 4) zi_101_3 rfl rfl kk) ?_
    refine zv_icmp (pc' := 7) zi_101_4 rfl (fun h4 => ?_) (fun h4 => ?_)
    · replace h4 := zc_ge_t (by omega) (by omega) h4
      omega
    · replace h4 := zc_ge_f (by omega) (by omega) h4
      refine zev_of (fun _ kk => zr_new (n := H.length) (pc' := 10) zi_101_7 rfl rfl rfl kk) ?_
      refine zev_of (fun _ kk => zr_dup (pc' := 11) zi_101_10 rfl rfl kk) ?_
      refine zev_of (fun _ kk => zr_aload_n (pc' := 12) zi_101_11 rfl rfl kk) ?_
      refine zev_of (fun _ kk => zr_bipush (v := (nI 31)) (pc' := 14) zi_101_12 rfl rfl kk) ?_
      refine zev_of (fun _ kk => zr_iload_n (pc' := 15) zi_101_14 rfl rfl kk) ?_
      refine zev_of (fun _ kk => zr_imul (pc' := 16) zi_101_15 (by first | exact pk_mul _ _ | rfl) rfl kk) ?_
      refine zev_of (fun _ kk => zr_bipush (v := (nI 7)) (pc' := 18) zi_101_16 rfl rfl kk) ?_
      refine zev_of (fun _ kk => zr_iadd (pc' := 19) zi_101_18 (by first | exact nI_add _ _ | rfl) rfl kk) ?_
      refine zev_of (fun _ kk => zr_i2 (pc' := 22) zi_101_19 rfl hc1 rfl kk) ?_
      refine zev_of (fun _ kk => zr_astore_n (pc' := 23) zi_101_22 (Nat.le_of_ble_eq_true rfl) rfl rfl kk) ?_
      dsimp only [zst1, zst2, zkill, List.set, List.getElem?_cons_succ, List.getElem?_cons_zero]
      refine zev_of (fun _ kk => zr_aload_n (pc' := 24) zi_101_23 rfl rfl kk) ?_
      refine zev_of (fun _ kk => zo_get (pc' := 27) zi_101_24 hb hO rfl rfl kk) ?_
      refine zev_of (fun _ kk => zr_astore_n (pc' := 28) zi_101_27 (Nat.le_of_ble_eq_true rfl) rfl rfl kk) ?_
      dsimp only [zst1, zst2, zkill, List.set, List.getElem?_cons_succ, List.getElem?_cons_zero]
      refine zev_of (fun _ kk => zr_aload_n (pc' := 29) zi_101_28 rfl rfl kk) ?_
      refine zev_of (fun _ kk => zr_v0 (pc' := 32) zi_101_29 (zo_at' hb hO) rfl hc2 rfl kk) ?_
      refine zv_if (pc' := 35) zi_101_32 rfl (fun h32 => ?_) (fun h32 => ?_)
      · replace h32 := zc_ne_t h32
        refine zev_of (fun _ kk => zr_iconst (v := (nI 0)) (pc' := 38) zi_101_37 rfl rfl kk) ?_
        refine zev_of (fun _ kk => zr_istore (pc' := 40) zi_101_38 (Nat.le_of_ble_eq_true rfl) rfl rfl kk) ?_
        dsimp only [zst1, zst2, zkill, List.set, List.getElem?_cons_succ, List.getElem?_cons_zero]
        refine l_steps (V := U + 36) (by omega) (fun H3 X5 X6 X7 X8 X9 X10 X11 X12 X13 X14 X15 X16 X17 W3 => ?_) 4 0 (U + 1 + 19) H2 rfl (by omega) W2 _ _ _ _ _ _ _ _ _ _ _ _ _
        have ih2 := ih (tm + 1) (U + 37) H3 (by omega) (by omega) (by omega) (zOW_sc W3)
        refine zev_of (fun _ kk => zr_iinc (pc' := 1130) zi_101_1127 rfl (by first | exact n_inc _ | rfl) rfl rfl kk) ?_
        dsimp only [zst1, zst2, zkill, List.set, List.getElem?_cons_succ, List.getElem?_cons_zero]
        refine zev_of (fun _ kk => zr_goto zi_101_1130 kk) ?_
        exact ih2 _ _ _ _ _ _ _ _ _ _ _ _ _ _ _ _
      · replace h32 := zc_ne_f h32
        exact absurd h32 (by decide)
theorem c_law (L : Nat) (f : Nat → Int32) (hL : L ≤ 260) : ∃ H', zSC 200 H' ∧ zruns zTB 101 0 (zentry 18 [.ref 0]) [] [zri L f] (some (.int 1), H') := by
  have hz : zev 101 0 (zentry 18 [.ref 0]) [] [zri L f] zQlaw := by
    show zev 101 0 [some (.ref 0), none, none, none, none, none, none, none, none, none, none, none, none, none, none, none, none, none] [] _ _
    have hS : zSC 3 [zri L f] := by
      refine ⟨Nat.le_refl _, by show 1 ≤ 300; omega, ?_, L, f, rfl, hL⟩
      show L + 0 ≤ 30000
      omega
    refine zev_of (fun _ kk => zr_iconst (v := (nI 0)) (pc' := 1) zi_101_0 rfl rfl kk) ?_
    refine zev_of (fun _ kk => zr_istore_n (pc' := 2) zi_101_1 (Nat.le_of_ble_eq_true rfl) rfl rfl kk) ?_
    dsimp only [zst1, zst2, zkill, List.set, List.getElem?_cons_succ, List.getElem?_cons_zero]
    exact l_time 3 0 3 _ rfl (by omega) (by omega) hS _ _ _ _ _ _ _ _ _ _ _ _ _ _ _ _
  obtain ⟨_, ⟨H', h1, rfl⟩, h2⟩ := hz
  exact ⟨H', h1, h2⟩
end


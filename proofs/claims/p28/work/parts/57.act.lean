theorem zi_46_0 : zI 46 0 = some (.aload_n 0, []) := by decide +kernel
theorem zi_46_1 : zI 46 1 = some (.bipush 8, []) := by decide +kernel
theorem zi_46_3 : zI 46 3 = some (.invokevirtual 54, [4, 0, 1, 7, 128, 129, 130, 127, 0, 126]) := by decide +kernel
theorem zi_46_6 : zI 46 6 = some (.tableswitch 40 0 3 #[30, 35, 35, 35], [46, 36, 41, 41, 41]) := by decide +kernel
theorem zi_46_36 : zI 46 36 = some (.aload_n 0, []) := by decide +kernel
theorem zi_46_37 : zI 46 37 = some (.invokevirtual 90, [95, 0, 0, 7, 264, 265, 130, 263, 0, 262]) := by decide +kernel
theorem zi_46_40 : zI 46 40 = some (.ireturn, []) := by decide +kernel
theorem zi_46_41 : zI 46 41 = some (.aload_n 0, []) := by decide +kernel
theorem zi_46_42 : zI 46 42 = some (.invokevirtual 88, [23, 0, 0, 7, 268, 269, 130, 267, 0, 266]) := by decide +kernel
theorem zi_46_45 : zI 46 45 = some (.ireturn, []) := by decide +kernel
theorem zi_46_46 : zI 46 46 = some (.aload_n 0, []) := by decide +kernel
theorem zi_46_47 : zI 46 47 = some (.invokevirtual 84, [30, 0, 0, 7, 272, 273, 130, 271, 0, 270]) := by decide +kernel
theorem zi_46_50 : zI 46 50 = some (.ireturn, []) := by decide +kernel
theorem zi_97_0 : zI 97 0 = some (.iconst 0, []) := by decide +kernel
theorem zi_97_1 : zI 97 1 = some (.istore_n 1, []) := by decide +kernel
theorem zi_97_2 : zI 97 2 = some (.iload_n 1, []) := by decide +kernel
theorem zi_97_3 : zI 97 3 = some (.bipush 10, []) := by decide +kernel
theorem zi_97_5 : zI 97 5 = some (.if_icmp .ge 18, [23]) := by decide +kernel
theorem zi_97_8 : zI 97 8 = some (.aload_n 0, []) := by decide +kernel
theorem zi_97_9 : zI 97 9 = some (.invokevirtual 84, [30, 0, 0, 7, 272, 273, 130, 271, 0, 270]) := by decide +kernel
theorem zi_97_12 : zI 97 12 = some (.ifCond .ne 5, [17]) := by decide +kernel
theorem zi_97_17 : zI 97 17 = some (.iinc 1 1, []) := by decide +kernel
theorem zi_97_20 : zI 97 20 = some (.goto (-18), [2]) := by decide +kernel
theorem zi_97_23 : zI 97 23 = some (.aload_n 0, []) := by decide +kernel
theorem zi_97_24 : zI 97 24 = some (.invokevirtual 88, [23, 0, 0, 7, 268, 269, 130, 267, 0, 266]) := by decide +kernel
theorem zi_97_27 : zI 97 27 = some (.ifCond .eq 10, [37]) := by decide +kernel
theorem zi_97_30 : zI 97 30 = some (.aload_n 0, []) := by decide +kernel
theorem zi_97_31 : zI 97 31 = some (.invokevirtual 88, [23, 0, 0, 7, 268, 269, 130, 267, 0, 266]) := by decide +kernel
theorem zi_97_34 : zI 97 34 = some (.ifCond .ne 5, [39]) := by decide +kernel
theorem zi_97_39 : zI 97 39 = some (.iconst 0, []) := by decide +kernel
theorem zi_97_40 : zI 97 40 = some (.istore_n 1, []) := by decide +kernel
theorem zi_97_41 : zI 97 41 = some (.iload_n 1, []) := by decide +kernel
theorem zi_97_42 : zI 97 42 = some (.bipush 6, []) := by decide +kernel
theorem zi_97_44 : zI 97 44 = some (.if_icmp .ge 18, [62]) := by decide +kernel
theorem zi_97_47 : zI 97 47 = some (.aload_n 0, []) := by decide +kernel
theorem zi_97_48 : zI 97 48 = some (.invokevirtual 84, [30, 0, 0, 7, 272, 273, 130, 271, 0, 270]) := by decide +kernel
theorem zi_97_51 : zI 97 51 = some (.ifCond .ne 5, [56]) := by decide +kernel
theorem zi_97_56 : zI 97 56 = some (.iinc 1 1, []) := by decide +kernel
theorem zi_97_59 : zI 97 59 = some (.goto (-18), [41]) := by decide +kernel
theorem zi_97_62 : zI 97 62 = some (.aload_n 0, []) := by decide +kernel
theorem zi_97_63 : zI 97 63 = some (.invokevirtual 88, [23, 0, 0, 7, 268, 269, 130, 267, 0, 266]) := by decide +kernel
theorem zi_97_66 : zI 97 66 = some (.ireturn, []) := by decide +kernel
/-! the Owl: it begins, it acts -/
section
variable {o : Nat}
theorem l_ofoundB {U : Nat} (hU : U + 7 ≤ 1000) : ∀ (j i V : Nat) (H : zH), i + j = 6 → V + j + 1 = U + 7 → zOW o V H → zev 97 41 [some (.ref o), some (.int (nI i))] [] H (zQo o (U + 7)) := by
  intro j
  induction j with
  | zero =>
    intro i V H hi hV w
    obtain ⟨H2, w2, hc2⟩ := c_olearns (by omega) w
    obtain ⟨h, F, g, x, sh, gp, wi, bk, rl, rt, e, q, hx, ww, rfl⟩ := w
    have hb := ww.hb
    obtain ⟨dr, hdr, hO⟩ := ww.ob
    refine zev_of (fun _ kk => zr_iload_n (pc' := 42) zi_97_41 rfl rfl kk) ?_
    refine zev_of (fun _ kk => zr_bipush (v := (nI 6)) (pc' := 44) zi_97_42 rfl rfl kk) ?_
    refine zv_icmp (pc' := 47) zi_97_44 rfl (fun h44 => ?_) (fun h44 => ?_)
    · replace h44 := zc_ge_t (by omega) (by omega) h44
      refine zev_of (fun _ kk => zr_aload_n (pc' := 63) zi_97_62 rfl rfl kk) ?_
      refine zev_of (fun _ kk => zr_v0 (pc' := 66) zi_97_63 (zo_at' hb hO) rfl hc2 rfl kk) ?_
      refine zev_ret (zr_zreturn zi_97_66 rfl (by decide)) ?_
      exact ⟨_, zOW_mono w2 (by omega), rfl⟩
    · replace h44 := zc_ge_f (by omega) (by omega) h44
      omega
  | succ j ih =>
    intro i V H hi hV w
    obtain ⟨H2, w2, hc2⟩ := c_add (by omega) w
    obtain ⟨h, F, g, x, sh, gp, wi, bk, rl, rt, e, q, hx, ww, rfl⟩ := w
    have hb := ww.hb
    obtain ⟨dr, hdr, hO⟩ := ww.ob
    refine zev_of (fun _ kk => zr_iload_n (pc' := 42) zi_97_41 rfl rfl kk) ?_
    refine zev_of (fun _ kk => zr_bipush (v := (nI 6)) (pc' := 44) zi_97_42 rfl rfl kk) ?_
    refine zv_icmp (pc' := 47) zi_97_44 rfl (fun h44 => ?_) (fun h44 => ?_)
    · replace h44 := zc_ge_t (by omega) (by omega) h44
      omega
    · replace h44 := zc_ge_f (by omega) (by omega) h44
      refine zev_of (fun _ kk => zr_aload_n (pc' := 48) zi_97_47 rfl rfl kk) ?_
      refine zev_of (fun _ kk => zr_v0 (pc' := 51) zi_97_48 (zo_at' hb hO) rfl hc2 rfl kk) ?_
      refine zv_if (pc' := 54) zi_97_51 rfl (fun h51 => ?_) (fun h51 => ?_)
      · replace h51 := zc_ne_t h51
        refine zev_of (fun _ kk => zr_iinc (pc' := 59) zi_97_56 rfl (by first | exact n_inc _ | rfl) rfl rfl kk) ?_
        dsimp only [zst1, zst2, zkill, List.set, List.getElem?_cons_succ, List.getElem?_cons_zero]
        refine zev_of (fun _ kk => zr_goto zi_97_59 kk) ?_
        exact ih (i + 1) (V + 1) H2 (by omega) (by omega) w2
      · replace h51 := zc_ne_f h51
        exact absurd h51 (by decide)
theorem l_ofoundA {U : Nat} (hU : U + 19 ≤ 1000) : ∀ (j i V : Nat) (H : zH), i + j = 10 → V + j + 2 = U + 12 → zOW o V H → zev 97 2 [some (.ref o), some (.int (nI i))] [] H (zQo o (U + 19)) := by
  intro j
  induction j with
  | zero =>
    intro i V H hi hV w
    obtain ⟨H2, w2, hc2⟩ := c_olearns (by omega) w
    obtain ⟨H3, w3, hc3⟩ := c_olearns (by omega) w2
    obtain ⟨h, F, g, x, sh, gp, wi, bk, rl, rt, e, q, hx, ww, rfl⟩ := w
    obtain ⟨h2, F2, g2, x2, sh2, gp2, wi2, bk2, rl2, rt2, e2, q2, hx2, ww2, rfl⟩ := w2
    have hb := ww.hb
    obtain ⟨dr, hdr, hO⟩ := ww.ob
    refine zev_of (fun _ kk => zr_iload_n (pc' := 3) zi_97_2 rfl rfl kk) ?_
    refine zev_of (fun _ kk => zr_bipush (v := (nI 10)) (pc' := 5) zi_97_3 rfl rfl kk) ?_
    refine zv_icmp (pc' := 8) zi_97_5 rfl (fun h5 => ?_) (fun h5 => ?_)
    · replace h5 := zc_ge_t (by omega) (by omega) h5
      refine zev_of (fun _ kk => zr_aload_n (pc' := 24) zi_97_23 rfl rfl kk) ?_
      refine zev_of (fun _ kk => zr_v0 (pc' := 27) zi_97_24 (zo_at' hb hO) rfl hc2 rfl kk) ?_
      refine zv_if (pc' := 30) zi_97_27 rfl (fun h27 => ?_) (fun h27 => ?_)
      · replace h27 := zc_eq_t h27
        exact absurd h27 (by decide)
      · replace h27 := zc_eq_f h27
        have hb := ww2.hb
        obtain ⟨dr2, hdr2, hO⟩ := ww2.ob
        refine zev_of (fun _ kk => zr_aload_n (pc' := 31) zi_97_30 rfl rfl kk) ?_
        refine zev_of (fun _ kk => zr_v0 (pc' := 34) zi_97_31 (zo_at' hb hO) rfl hc3 rfl kk) ?_
        refine zv_if (pc' := 37) zi_97_34 rfl (fun h34 => ?_) (fun h34 => ?_)
        · replace h34 := zc_ne_t h34
          refine zev_of (fun _ kk => zr_iconst (v := (nI 0)) (pc' := 40) zi_97_39 rfl rfl kk) ?_
          refine zev_of (fun _ kk => zr_istore_n (pc' := 41) zi_97_40 (Nat.le_of_ble_eq_true rfl) rfl rfl kk) ?_
          dsimp only [zst1, zst2, zkill, List.set, List.getElem?_cons_succ, List.getElem?_cons_zero]
          exact l_ofoundB (U := U + 12) (by omega) 6 0 (V + 1 + 1) H3 rfl (by omega) w3
        · replace h34 := zc_ne_f h34
          exact absurd h34 (by decide)
    · replace h5 := zc_ge_f (by omega) (by omega) h5
      omega
  | succ j ih =>
    intro i V H hi hV w
    obtain ⟨H2, w2, hc2⟩ := c_add (by omega) w
    obtain ⟨h, F, g, x, sh, gp, wi, bk, rl, rt, e, q, hx, ww, rfl⟩ := w
    have hb := ww.hb
    obtain ⟨dr, hdr, hO⟩ := ww.ob
    refine zev_of (fun _ kk => zr_iload_n (pc' := 3) zi_97_2 rfl rfl kk) ?_
    refine zev_of (fun _ kk => zr_bipush (v := (nI 10)) (pc' := 5) zi_97_3 rfl rfl kk) ?_
    refine zv_icmp (pc' := 8) zi_97_5 rfl (fun h5 => ?_) (fun h5 => ?_)
    · replace h5 := zc_ge_t (by omega) (by omega) h5
      omega
    · replace h5 := zc_ge_f (by omega) (by omega) h5
      refine zev_of (fun _ kk => zr_aload_n (pc' := 9) zi_97_8 rfl rfl kk) ?_
      refine zev_of (fun _ kk => zr_v0 (pc' := 12) zi_97_9 (zo_at' hb hO) rfl hc2 rfl kk) ?_
      refine zv_if (pc' := 15) zi_97_12 rfl (fun h12 => ?_) (fun h12 => ?_)
      · replace h12 := zc_ne_t h12
        refine zev_of (fun _ kk => zr_iinc (pc' := 20) zi_97_17 rfl (by first | exact n_inc _ | rfl) rfl rfl kk) ?_
        dsimp only [zst1, zst2, zkill, List.set, List.getElem?_cons_succ, List.getElem?_cons_zero]
        refine zev_of (fun _ kk => zr_goto zi_97_20 kk) ?_
        exact ih (i + 1) (V + 1) H2 (by omega) (by omega) w2
      · replace h12 := zc_ne_f h12
        exact absurd h12 (by decide)
theorem c_found {U : Nat} {H : zH} (hU : U + 19 ≤ 1000) (W : zOW o U H) : ∃ H', zOW o (U + 19) H' ∧ zcalls zTB 97 [.ref o] H (some (.int 1), H') := by
  refine zQo_out (zev_calls (Nat.le_of_ble_eq_true rfl) ?_)
  show zev 97 0 [some (.ref o), none] [] _ _
  refine zev_of (fun _ kk => zr_iconst (v := (nI 0)) (pc' := 1) zi_97_0 rfl rfl kk) ?_
  refine zev_of (fun _ kk => zr_istore_n (pc' := 2) zi_97_1 (Nat.le_of_ble_eq_true rfl) rfl rfl kk) ?_
  dsimp only [zst1, zst2, zkill, List.set, List.getElem?_cons_succ, List.getElem?_cons_zero]
  exact l_ofoundA hU 10 0 U H rfl rfl W
theorem zOW_draw {U : Nat} {H : zH} (hU : U ≤ 999) (W : zOW o U H) (n : Nat) (h0 : 0 < n) (hn : n < 2 ^ 31) : ∃ k H', k < n ∧ zOW o (U + 1) H' ∧ zcalls zTB 4 [.ref o, .int (nI n)] H (some (.int (nI k)), H') := by
  obtain ⟨h, F, g, x, sh, gp, wi, bk, rl, rt, e, q, hx, w, rfl⟩ := W
  obtain ⟨k, h', hk, w', hf, hc⟩ := c_draw (F := F) (g := g) w (by omega) n h0 hn
  refine ⟨k, _, hk, ⟨h', F, g, x, sh, gp, wi, bk, rl, rt, e, q, hx, ?_, rfl⟩, hc⟩
  obtain ⟨dr, hdr, hO⟩ := w'.ob
  have hbu := w'.bu
  exact zOw_fr w' (fun _ _ _ => rfl) ⟨dr, by omega, hO⟩ (Nat.le_refl _) ⟨by omega, by omega⟩ zAg_rf
theorem c_act {U : Nat} {H : zH} (hU : U + 2 ≤ 1000) (W : zOW o U H) : ∃ H', zOW o (U + 2) H' ∧ zcalls zTB 46 [.ref o] H (some (.int 1), H') := by
  obtain ⟨k, H1, hk, w1, hc1⟩ := zOW_draw (by omega) W 8 (by omega) (by omega)
  obtain ⟨Ha, wa, hca⟩ := c_add (by omega) w1
  obtain ⟨Hl, wl, hcl⟩ := c_olearns (by omega) w1
  obtain ⟨Hs, ws, hcs⟩ := c_oset (by omega) w1
  refine zQo_out (zev_calls (Nat.le_of_ble_eq_true rfl) ?_)
  obtain ⟨h, F, g, x, sh, gp, wi, bk, rl, rt, e, q, hx, w, rfl⟩ := W
  obtain ⟨h1, F1, g1, x1, sh1, gp1, wi1, bk1, rl1, rt1, e1, q1, hx1, ww1, rfl⟩ := w1
  have hb := w.hb
  obtain ⟨dr, hdr, hO⟩ := w.ob
  have hb1 := ww1.hb
  obtain ⟨dr1, hdr1, hO1⟩ := ww1.ob
  show zev 46 0 [some (.ref o)] [] _ _
  rcases (show k = 0 ∨ k = 1 ∨ k = 2 ∨ k = 3 ∨ 4 ≤ k by omega) with rfl | rfl | rfl | rfl | hk4
  · skip
    refine zev_of (fun _ kk => zr_aload_n (pc' := 1) zi_46_0 rfl rfl kk) ?_
    refine zev_of (fun _ kk => zr_bipush (v := (nI 8)) (pc' := 3) zi_46_1 rfl rfl kk) ?_
    refine zev_of (fun _ kk => zr_v1 (pc' := 6) zi_46_3 (zo_at' hb hO) rfl hc1 rfl kk) ?_
    refine zev_of (fun _ kk => zr_table_in zi_46_6 0 (by decide) (by decide) rfl kk) ?_
    have hb := hb1
    have hO := hO1
    refine zev_of (fun _ kk => zr_aload_n (pc' := 37) zi_46_36 rfl rfl kk) ?_
    refine zev_of (fun _ kk => zr_v0 (pc' := 40) zi_46_37 (zo_at' hb hO) rfl hcs rfl kk) ?_
    refine zev_ret (zr_zreturn zi_46_40 rfl (by decide)) ?_
    exact ⟨_, ws, rfl⟩
  · skip
    refine zev_of (fun _ kk => zr_aload_n (pc' := 1) zi_46_0 rfl rfl kk) ?_
    refine zev_of (fun _ kk => zr_bipush (v := (nI 8)) (pc' := 3) zi_46_1 rfl rfl kk) ?_
    refine zev_of (fun _ kk => zr_v1 (pc' := 6) zi_46_3 (zo_at' hb hO) rfl hc1 rfl kk) ?_
    refine zev_of (fun _ kk => zr_table_in zi_46_6 1 (by decide) (by decide) rfl kk) ?_
    have hb := hb1
    have hO := hO1
    refine zev_of (fun _ kk => zr_aload_n (pc' := 42) zi_46_41 rfl rfl kk) ?_
    refine zev_of (fun _ kk => zr_v0 (pc' := 45) zi_46_42 (zo_at' hb hO) rfl hcl rfl kk) ?_
    refine zev_ret (zr_zreturn zi_46_45 rfl (by decide)) ?_
    exact ⟨_, wl, rfl⟩
  · skip
    refine zev_of (fun _ kk => zr_aload_n (pc' := 1) zi_46_0 rfl rfl kk) ?_
    refine zev_of (fun _ kk => zr_bipush (v := (nI 8)) (pc' := 3) zi_46_1 rfl rfl kk) ?_
    refine zev_of (fun _ kk => zr_v1 (pc' := 6) zi_46_3 (zo_at' hb hO) rfl hc1 rfl kk) ?_
    refine zev_of (fun _ kk => zr_table_in zi_46_6 2 (by decide) (by decide) rfl kk) ?_
    have hb := hb1
    have hO := hO1
    refine zev_of (fun _ kk => zr_aload_n (pc' := 42) zi_46_41 rfl rfl kk) ?_
    refine zev_of (fun _ kk => zr_v0 (pc' := 45) zi_46_42 (zo_at' hb hO) rfl hcl rfl kk) ?_
    refine zev_ret (zr_zreturn zi_46_45 rfl (by decide)) ?_
    exact ⟨_, wl, rfl⟩
  · skip
    refine zev_of (fun _ kk => zr_aload_n (pc' := 1) zi_46_0 rfl rfl kk) ?_
    refine zev_of (fun _ kk => zr_bipush (v := (nI 8)) (pc' := 3) zi_46_1 rfl rfl kk) ?_
    refine zev_of (fun _ kk => zr_v1 (pc' := 6) zi_46_3 (zo_at' hb hO) rfl hc1 rfl kk) ?_
    refine zev_of (fun _ kk => zr_table_in zi_46_6 3 (by decide) (by decide) rfl kk) ?_
    have hb := hb1
    have hO := hO1
    refine zev_of (fun _ kk => zr_aload_n (pc' := 42) zi_46_41 rfl rfl kk) ?_
    refine zev_of (fun _ kk => zr_v0 (pc' := 45) zi_46_42 (zo_at' hb hO) rfl hcl rfl kk) ?_
    refine zev_ret (zr_zreturn zi_46_45 rfl (by decide)) ?_
    exact ⟨_, wl, rfl⟩
  · have hout : (nI k).toInt < 0 ∨ 3 < (nI k).toInt := by
      rcases (show k = 4 ∨ k = 5 ∨ k = 6 ∨ k = 7 by omega) with rfl | rfl | rfl | rfl <;> decide
    refine zev_of (fun _ kk => zr_aload_n (pc' := 1) zi_46_0 rfl rfl kk) ?_
    refine zev_of (fun _ kk => zr_bipush (v := (nI 8)) (pc' := 3) zi_46_1 rfl rfl kk) ?_
    refine zev_of (fun _ kk => zr_v1 (pc' := 6) zi_46_3 (zo_at' hb hO) rfl hc1 rfl kk) ?_
    refine zev_of (fun _ kk => zr_table_out zi_46_6 hout kk) ?_
    have hb := hb1
    have hO := hO1
    refine zev_of (fun _ kk => zr_aload_n (pc' := 47) zi_46_46 rfl rfl kk) ?_
    refine zev_of (fun _ kk => zr_v0 (pc' := 50) zi_46_47 (zo_at' hb hO) rfl hca rfl kk) ?_
    refine zev_ret (zr_zreturn zi_46_50 rfl (by decide)) ?_
    exact ⟨_, wa, rfl⟩
end


theorem zi_95_0 : zI 95 0 = some (.aload_n 0, []) := by decide +kernel
theorem zi_95_1 : zI 95 1 = some (.iconst 4, []) := by decide +kernel
theorem zi_95_2 : zI 95 2 = some (.invokevirtual 54, [4, 0, 1, 7, 128, 129, 130, 127, 0, 126]) := by decide +kernel
theorem zi_95_5 : zI 95 5 = some (.istore_n 1, []) := by decide +kernel
theorem zi_95_6 : zI 95 6 = some (.aload_n 0, []) := by decide +kernel
theorem zi_95_7 : zI 95 7 = some (.getfield 28, [7, 7, 134]) := by decide +kernel
theorem zi_95_10 : zI 95 10 = some (.iload_n 1, []) := by decide +kernel
theorem zi_95_11 : zI 95 11 = some (.iaload, []) := by decide +kernel
theorem zi_95_12 : zI 95 12 = some (.istore_n 2, []) := by decide +kernel
theorem zi_95_13 : zI 95 13 = some (.aload_n 0, []) := by decide +kernel
theorem zi_95_14 : zI 95 14 = some (.getfield 28, [7, 7, 134]) := by decide +kernel
theorem zi_95_17 : zI 95 17 = some (.iload_n 1, []) := by decide +kernel
theorem zi_95_18 : zI 95 18 = some (.iload_n 1, []) := by decide +kernel
theorem zi_95_19 : zI 95 19 = some (.ifCond .ne 12, [31]) := by decide +kernel
theorem zi_95_22 : zI 95 22 = some (.aload_n 0, []) := by decide +kernel
theorem zi_95_23 : zI 95 23 = some (.bipush 101, []) := by decide +kernel
theorem zi_95_25 : zI 95 25 = some (.invokevirtual 54, [4, 0, 1, 7, 128, 129, 130, 127, 0, 126]) := by decide +kernel
theorem zi_95_28 : zI 95 28 = some (.goto 25, [53]) := by decide +kernel
theorem zi_95_31 : zI 95 31 = some (.iload_n 1, []) := by decide +kernel
theorem zi_95_32 : zI 95 32 = some (.iconst 2, []) := by decide +kernel
theorem zi_95_33 : zI 95 33 = some (.if_icmp .ne 14, [47]) := by decide +kernel
theorem zi_95_36 : zI 95 36 = some (.iconst 1, []) := by decide +kernel
theorem zi_95_37 : zI 95 37 = some (.aload_n 0, []) := by decide +kernel
theorem zi_95_38 : zI 95 38 = some (.bipush 20, []) := by decide +kernel
theorem zi_95_40 : zI 95 40 = some (.invokevirtual 54, [4, 0, 1, 7, 128, 129, 130, 127, 0, 126]) := by decide +kernel
theorem zi_95_43 : zI 95 43 = some (.iadd, []) := by decide +kernel
theorem zi_95_44 : zI 95 44 = some (.goto 9, [53]) := by decide +kernel
theorem zi_95_47 : zI 95 47 = some (.aload_n 0, []) := by decide +kernel
theorem zi_95_48 : zI 95 48 = some (.bipush 40, []) := by decide +kernel
theorem zi_95_50 : zI 95 50 = some (.invokevirtual 54, [4, 0, 1, 7, 128, 129, 130, 127, 0, 126]) := by decide +kernel
theorem zi_95_53 : zI 95 53 = some (.iastore, []) := by decide +kernel
theorem zi_95_54 : zI 95 54 = some (.aload_n 0, []) := by decide +kernel
theorem zi_95_55 : zI 95 55 = some (.getfield 10, [7, 0, 139]) := by decide +kernel
theorem zi_95_58 : zI 95 58 = some (.iload_n 1, []) := by decide +kernel
theorem zi_95_59 : zI 95 59 = some (.aload_n 0, []) := by decide +kernel
theorem zi_95_60 : zI 95 60 = some (.getfield 28, [7, 7, 134]) := by decide +kernel
theorem zi_95_63 : zI 95 63 = some (.iload_n 1, []) := by decide +kernel
theorem zi_95_64 : zI 95 64 = some (.iaload, []) := by decide +kernel
theorem zi_95_65 : zI 95 65 = some (.invokevirtual 69, [86, 0, 2, 6, 495, 496, 9, 494, 0, 493]) := by decide +kernel
theorem zi_95_68 : zI 95 68 = some (.iload_n 2, []) := by decide +kernel
theorem zi_95_69 : zI 95 69 = some (.if_icmp .ne 7, [76]) := by decide +kernel
theorem zi_95_72 : zI 95 72 = some (.iconst 1, []) := by decide +kernel
theorem zi_95_73 : zI 95 73 = some (.goto 4, [77]) := by decide +kernel
theorem zi_95_77 : zI 95 77 = some (.ireturn, []) := by decide +kernel
/-! the Owl: a setting -/
theorem zNb_set {F : Nat → Nat → Int32} {g : Nat → Nat} {x : Nat → Nat} {sh gp wi bk k v : Nat} (q : zNb F g x sh gp wi bk) (hk : k < 4) (hv0 : k = 2 → 1 ≤ v) (hv1 : k = 0 → v ≤ 100) (hv2 : v ≤ 1000) : zNb (updR F 31 (upd (F 31) k (nI v))) g x (if k = 0 then v else sh) (if k = 1 then v else gp) (if k = 2 then v else wi) (if k = 3 then v else bk) := by
  obtain ⟨q1, q2, q3, q4, q5, q6, q7, q8, q9, q10, s0, s1, s2, s3⟩ := q
  refine ⟨q1, q2, q3, q4, q5, q6, q7, q8, q9, q10, ?_, ?_, ?_, ?_⟩
  · show upd (F 31) k (nI v) 0 = _ ∧ _
    by_cases z : k = 0
    · rw [if_pos z, z, pk_us]
      exact ⟨rfl, hv1 z⟩
    · rw [if_neg z, pk_un (Ne.symm z)]
      exact s0
  · show upd (F 31) k (nI v) 1 = _ ∧ _
    by_cases z : k = 1
    · rw [if_pos z, z, pk_us]
      exact ⟨rfl, hv2⟩
    · rw [if_neg z, pk_un (Ne.symm z)]
      exact s1
  · show upd (F 31) k (nI v) 2 = _ ∧ _
    by_cases z : k = 2
    · rw [if_pos z, z, pk_us]
      exact ⟨rfl, hv0 z, hv2⟩
    · rw [if_neg z, pk_un (Ne.symm z)]
      exact s2
  · show upd (F 31) k (nI v) 3 = _ ∧ _
    by_cases z : k = 3
    · rw [if_pos z, z, pk_us]
      exact ⟨rfl, hv2⟩
    · rw [if_neg z, pk_un (Ne.symm z)]
      exact s3
section
variable {o : Nat} {h : zH} {nl nm nT sh gp wi bk rl rt e u d : Nat} {g : Nat → Nat} {F A A' : Nat → Nat → Int32} {x : Nat → Nat}
theorem zOw_se {h' : zH} {sh' gp' wi' bk' : Nat} {f : Nat → Int32} (w : zOw o h A nl nm nT sh gp wi bk rl rt e u d) (hag : ∀ i, i ≠ o + 75 → h'[i]? = h[i]?) (hl : h'.length = h.length) (hs : zss h' = zss h) (hf : h'[o + 75]? = some (zri 4 f) ∧ f 0 = nI sh' ∧ f 1 = nI gp' ∧ f 2 = nI wi' ∧ f 3 = nI bk') (hA : zAg nl nT A A') : zOw o h' A' nl nm nT sh' gp' wi' bk' rl rt e u d := by
  obtain ⟨q1, ⟨dr, q2, q2'⟩, ⟨f5, q3⟩, ⟨f6, q4, q5⟩, ⟨L, f7, q6, q7⟩, ⟨r1, r2, r3, r4, r5, r6, r7⟩, ⟨lf, l1, l2⟩, ⟨tf, t1, t2⟩, bu⟩ := w
  refine ⟨q1, ⟨dr, q2, by rw [hag _ (by omega)]; exact q2'⟩, ⟨f5, by rw [hag _ (by omega)]; exact q3⟩, ⟨f, hf⟩, ⟨L, f7, by rw [hag _ (by omega)]; exact q6, q7⟩, ⟨r1, r2, r3, r4, r5, r6, by omega⟩, ⟨lf, by rw [hag _ (Ne.symm (zne q4 l1))]; exact l1, fun l hl => ?_⟩, ⟨tf, by rw [hag _ (Ne.symm (zne q4 t1))]; exact t1, fun t ht => ?_⟩, by rw [hl, hs]; exact bu⟩
  · obtain ⟨p, p1, p2⟩ := l2 l hl
    exact ⟨p, p1, zln_mono p2 (hag _ (by have := p2.1; omega)) (Nat.le_refl _) (hA.1 l hl)⟩
  · obtain ⟨p, p1, p2⟩ := t2 t ht
    exact ⟨p, p1, ztm_mono p2 (hag _ (by have := p2.1; omega)) (Nat.le_refl _) (hA.2 t ht)⟩
theorem l_set53 (w : zOw o h F (g 0) (g 1) (g 2) sh gp wi bk rl rt e u d) (q : zOk F g x sh gp wi bk) (hx : ∀ i, i < g 0 → x i ≤ 24 * (i + 1)) {U k v : Nat} (hk : k < 4) (hv0 : k = 2 → 1 ≤ v) (hv1 : k = 0 → v ≤ 100) (hv2 : v ≤ 1000) (hd : d ≤ 30 * (U + 1)) (hu : u ≤ 100 * (U + 1)) : zev 95 53 [some (.ref o), some (.int (nI k)), some (.int (F 31 k))] [.int (nI v), .int (nI k), .ref (o + 75)] (nput (o + 1) F g h) (zQo o (U + 1)) := by
  have hb := w.hb
  have hb2 := w.hb2
  have ho := w.o1
  obtain ⟨dr, hdr, hO⟩ := w.ob
  obtain ⟨sf, s1, s2, s3, s4, s5⟩ := w.se
  have hbu := w.bu
  obtain ⟨F1, g1, ⟨z1, z2, q1⟩, hcs⟩ := c_set (h := h.set (o + 75) (zri 4 (upd sf k (nI v)))) (b := o + 1) (by rw [List.length_set]; exact hb) F g x sh gp wi bk k v _ _ _ _ q.nb hk (zNb_set q.nb hk hv0 hv1 hv2) hv0 hv1 hv2
  have hr2 : (h.set (o + 75) (zri 4 (upd sf k (nI v))))[o + 75]? = some (zri 4 (upd sf k (nI v))) := List.getElem?_set_self (by omega)
  have hO2 : (h.set (o + 75) (zri 4 (upd sf k (nI v))))[o]? = some (zow o dr rl (g 1) rt) := by rw [List.getElem?_set_ne (by omega)]; exact hO
  refine zev_of (fun _ kk => zo_iast (pc' := 54) zi_95_53 hb s1 (by omega) (by omega) (by omega) rfl kk) ?_
  have hO := hO2
  have hb : o + 1 + 71 ≤ (h.set (o + 75) (zri 4 (upd sf k (nI v)))).length := by rw [List.length_set]; exact hb
  refine zev_of (fun _ kk => zr_aload_n (pc' := 55) zi_95_54 rfl rfl kk) ?_
  refine zev_of (fun _ kk => zo_get (pc' := 58) zi_95_55 hb hO rfl rfl kk) ?_
  refine zev_of (fun _ kk => zr_iload_n (pc' := 59) zi_95_58 rfl rfl kk) ?_
  refine zev_of (fun _ kk => zr_aload_n (pc' := 60) zi_95_59 rfl rfl kk) ?_
  refine zev_of (fun _ kk => zo_get (pc' := 63) zi_95_60 hb hO rfl rfl kk) ?_
  refine zev_of (fun _ kk => zr_iload_n (pc' := 64) zi_95_63 rfl rfl kk) ?_
  refine zev_of (fun _ kk => zo_iald (v := nI v) (pc' := 65) zi_95_64 hb hr2 (by omega) (by omega) (by omega) pk_us rfl kk) ?_
  refine zev_of (fun _ kk => zr_v2 (pc' := 68) zi_95_65 (nput_at hb (k := 0) rfl) rfl hcs rfl kk) ?_
  refine zev_of (fun _ kk => zr_iload_n (pc' := 69) zi_95_68 rfl rfl kk) ?_
  refine zv_icmp (pc' := 72) zi_95_69 rfl (fun h69 => ?_) (fun h69 => ?_)
  · replace h69 := zc_ne_t h69
    exact absurd rfl h69
  · replace h69 := zc_ne_f h69
    refine zev_of (fun _ kk => zr_iconst (v := (nI 1)) (pc' := 73) zi_95_72 rfl rfl kk) ?_
    refine zev_of (fun _ kk => zr_goto zi_95_73 kk) ?_
    refine zev_ret (zr_zreturn zi_95_77 rfl (by decide)) ?_
    refine ⟨_, ⟨_, F1, g1, x, _, _, _, _, rl, rt, e, q1, by rw [z2 _ (by decide)]; exact hx, ?_, rfl⟩, rfl⟩
    rw [z2 _ (by decide), z2 1 (by decide), z2 2 (by decide)]
    have w2 : zOw o (h.set (o + 75) (zri 4 (upd sf k (nI v)))) F1 (g 0) (g 1) (g 2) (if k = 0 then v else sh) (if k = 1 then v else gp) (if k = 2 then v else wi) (if k = 3 then v else bk) rl rt e u d := by
      refine zOw_se w (fun i hi => List.getElem?_set_ne (Ne.symm hi)) List.length_set (zss_set h _ _ _ s1 rfl) ⟨hr2, ?_, ?_, ?_, ?_⟩ ⟨fun l hl => ⟨by rw [z1 _ rfl]; rfl, by rw [z1 _ rfl]; rfl, fun k hk => by rw [z1 _ rfl]; rfl⟩, fun t ht => ⟨by rw [z1 _ rfl]; rfl, fun k hk => by rw [z1 _ rfl]; rfl⟩⟩
      · by_cases z : k = 0
        · rw [if_pos z, z, pk_us]
        · rw [if_neg z, pk_un (Ne.symm z)]
          exact s2
      · by_cases z : k = 1
        · rw [if_pos z, z, pk_us]
        · rw [if_neg z, pk_un (Ne.symm z)]
          exact s3
      · by_cases z : k = 2
        · rw [if_pos z, z, pk_us]
        · rw [if_neg z, pk_un (Ne.symm z)]
          exact s4
      · by_cases z : k = 3
        · rw [if_pos z, z, pk_us]
        · rw [if_neg z, pk_un (Ne.symm z)]
          exact s5
    obtain ⟨dr2, hd2, hO3⟩ := w2.ob
    have hbu2 := w2.bu
    exact zOw_fr w2 (fun _ _ _ => rfl) ⟨dr2, by omega, hO3⟩ (Nat.le_refl _) ⟨by omega, by omega⟩ zAg_rf
theorem c_oset {U : Nat} {H : zH} (hU : U ≤ 1000) (W : zOW o U H) : ∃ H', zOW o (U + 1) H' ∧ zcalls zTB 95 [.ref o] H (some (.int 1), H') := by
  obtain ⟨h, F, g, x, sh, gp, wi, bk, rl, rt, e, q, hx, w, rfl⟩ := W
  refine zQo_out (zev_calls (Nat.le_of_ble_eq_true rfl) ?_)
  have hb := w.hb
  have ho := w.o1
  obtain ⟨dr, hdr, hO⟩ := w.ob
  show zev 95 0 [some (.ref o), none, none] [] _ _
  refine zev_of (fun _ kk => zr_aload_n (pc' := 1) zi_95_0 rfl rfl kk) ?_
  refine zev_of (fun _ kk => zr_iconst (v := (nI 4)) (pc' := 2) zi_95_1 rfl rfl kk) ?_
  obtain ⟨k2, h2H, hk2, w2, hf2, hc2⟩ := c_draw (F := F) (g := g) w (by omega) 4 (by omega) (by omega)
  refine zev_of (fun _ kk => zr_v1 (pc' := 5) zi_95_2 (zo_at' hb hO) rfl hc2 rfl kk) ?_
  have hb := w2.hb
  obtain ⟨dr2, hd2, hO⟩ := w2.ob
  refine zev_of (fun _ kk => zr_istore_n (pc' := 6) zi_95_5 (Nat.le_of_ble_eq_true rfl) rfl rfl kk) ?_
  dsimp only [zst1, zst2, zkill, List.set, List.getElem?_cons_succ, List.getElem?_cons_zero]
  refine zev_of (fun _ kk => zr_aload_n (pc' := 7) zi_95_6 rfl rfl kk) ?_
  refine zev_of (fun _ kk => zo_get (pc' := 10) zi_95_7 hb hO rfl rfl kk) ?_
  refine zev_of (fun _ kk => zr_iload_n (pc' := 11) zi_95_10 rfl rfl kk) ?_
  obtain ⟨sf, s1, s2, s3, s4, s5⟩ := w2.se
  have hsf : sf k2 = F 31 k2 := by
    rcases (show k2 = 0 ∨ k2 = 1 ∨ k2 = 2 ∨ k2 = 3 by omega) with e | e | e | e
    · rw [e, s2, q.nb.s0.1]
    · rw [e, s3, q.nb.s1.1]
    · rw [e, s4, q.nb.s2.1]
    · rw [e, s5, q.nb.s3.1]
  refine zev_of (fun _ kk => zo_iald (v := F 31 k2) (pc' := 12) zi_95_11 hb s1 (by omega) (by omega) (by omega) hsf rfl kk) ?_
  refine zev_of (fun _ kk => zr_istore_n (pc' := 13) zi_95_12 (Nat.le_of_ble_eq_true rfl) rfl rfl kk) ?_
  dsimp only [zst1, zst2, zkill, List.set, List.getElem?_cons_succ, List.getElem?_cons_zero]
  refine zev_of (fun _ kk => zr_aload_n (pc' := 14) zi_95_13 rfl rfl kk) ?_
  refine zev_of (fun _ kk => zo_get (pc' := 17) zi_95_14 hb hO rfl rfl kk) ?_
  refine zev_of (fun _ kk => zr_iload_n (pc' := 18) zi_95_17 rfl rfl kk) ?_
  refine zev_of (fun _ kk => zr_iload_n (pc' := 19) zi_95_18 rfl rfl kk) ?_
  refine zv_if (pc' := 22) zi_95_19 rfl (fun h19 => ?_) (fun h19 => ?_)
  · replace h19 := zc_ne_t h19
    refine zev_of (fun _ kk => zr_iload_n (pc' := 32) zi_95_31 rfl rfl kk) ?_
    refine zev_of (fun _ kk => zr_iconst (v := (nI 2)) (pc' := 33) zi_95_32 rfl rfl kk) ?_
    refine zv_icmp (pc' := 36) zi_95_33 rfl (fun h33 => ?_) (fun h33 => ?_)
    · replace h33 := zc_ne_t h33
      refine zev_of (fun _ kk => zr_aload_n (pc' := 48) zi_95_47 rfl rfl kk) ?_
      refine zev_of (fun _ kk => zr_bipush (v := (nI 40)) (pc' := 50) zi_95_48 rfl rfl kk) ?_
      obtain ⟨k50, h50H, hk50, w50, hf50, hc50⟩ := c_draw (F := F) (g := g) w2 (by omega) 40 (by omega) (by omega)
      refine zev_of (fun _ kk => zr_v1 (pc' := 53) zi_95_50 (zo_at' hb hO) rfl hc50 rfl kk) ?_
      refine l_set53 w50 q hx hk2 (fun e => absurd (by rw [e]) h33) (fun e => absurd (by rw [e]; rfl) h19) (by omega) (by omega) (by omega)
    · replace h33 := zc_ne_f h33
      refine zev_of (fun _ kk => zr_iconst (v := (nI 1)) (pc' := 37) zi_95_36 rfl rfl kk) ?_
      refine zev_of (fun _ kk => zr_aload_n (pc' := 38) zi_95_37 rfl rfl kk) ?_
      refine zev_of (fun _ kk => zr_bipush (v := (nI 20)) (pc' := 40) zi_95_38 rfl rfl kk) ?_
      obtain ⟨k40, h40H, hk40, w40, hf40, hc40⟩ := c_draw (F := F) (g := g) w2 (by omega) 20 (by omega) (by omega)
      refine zev_of (fun _ kk => zr_v1 (pc' := 43) zi_95_40 (zo_at' hb hO) rfl hc40 rfl kk) ?_
      have hb := w40.hb
      obtain ⟨dr40, hd40, hO⟩ := w40.ob
      refine zev_of (fun _ kk => zr_iadd (pc' := 44) zi_95_43 (by first | exact nI_add _ _ | rfl) rfl kk) ?_
      refine zev_of (fun _ kk => zr_goto zi_95_44 kk) ?_
      refine l_set53 w40 q hx hk2 (fun e => by omega) (fun e => absurd (by rw [e]; rfl) h19) (by omega) (by omega) (by omega)
  · replace h19 := zc_ne_f h19
    refine zev_of (fun _ kk => zr_aload_n (pc' := 23) zi_95_22 rfl rfl kk) ?_
    refine zev_of (fun _ kk => zr_bipush (v := (nI 101)) (pc' := 25) zi_95_23 rfl rfl kk) ?_
    obtain ⟨k25, h25H, hk25, w25, hf25, hc25⟩ := c_draw (F := F) (g := g) w2 (by omega) 101 (by omega) (by omega)
    refine zev_of (fun _ kk => zr_v1 (pc' := 28) zi_95_25 (zo_at' hb hO) rfl hc25 rfl kk) ?_
    have hb := w25.hb
    obtain ⟨dr25, hd25, hO⟩ := w25.ob
    refine zev_of (fun _ kk => zr_goto zi_95_28 kk) ?_
    have e2 : k2 = 0 := (nI_eq (by omega) (by omega)).mp h19
    exact l_set53 w25 q hx hk2 (fun e => by omega) (fun e => by omega) (by omega) (by omega) (by omega)
end


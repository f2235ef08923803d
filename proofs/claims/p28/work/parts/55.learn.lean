theorem zi_23_0 : zI 23 0 = some (.iconst 1, []) := by decide +kernel
theorem zi_23_1 : zI 23 1 = some (.aload_n 0, []) := by decide +kernel
theorem zi_23_2 : zI 23 2 = some (.bipush 8, []) := by decide +kernel
theorem zi_23_4 : zI 23 4 = some (.invokevirtual 54, [4, 0, 1, 7, 128, 129, 130, 127, 0, 126]) := by decide +kernel
theorem zi_23_7 : zI 23 7 = some (.iadd, []) := by decide +kernel
theorem zi_23_8 : zI 23 8 = some (.istore_n 1, []) := by decide +kernel
theorem zi_23_9 : zI 23 9 = some (.aload_n 0, []) := by decide +kernel
theorem zi_23_10 : zI 23 10 = some (.getfield 76, [7, 4, 131]) := by decide +kernel
theorem zi_23_13 : zI 23 13 = some (.istore_n 2, []) := by decide +kernel
theorem zi_23_14 : zI 23 14 = some (.aload_n 0, []) := by decide +kernel
theorem zi_23_15 : zI 23 15 = some (.getfield 76, [7, 4, 131]) := by decide +kernel
theorem zi_23_18 : zI 23 18 = some (.aload_n 0, []) := by decide +kernel
theorem zi_23_19 : zI 23 19 = some (.getfield 18, [7, 3, 132]) := by decide +kernel
theorem zi_23_22 : zI 23 22 = some (.arraylength, []) := by decide +kernel
theorem zi_23_23 : zI 23 23 = some (.if_icmp .ge 49, [72]) := by decide +kernel
theorem zi_23_26 : zI 23 26 = some (.aload_n 0, []) := by decide +kernel
theorem zi_23_27 : zI 23 27 = some (.getfield 76, [7, 4, 131]) := by decide +kernel
theorem zi_23_30 : zI 23 30 = some (.iload_n 2, []) := by decide +kernel
theorem zi_23_31 : zI 23 31 = some (.iload_n 1, []) := by decide +kernel
theorem zi_23_32 : zI 23 32 = some (.iadd, []) := by decide +kernel
theorem zi_23_33 : zI 23 33 = some (.if_icmp .ge 39, [72]) := by decide +kernel
theorem zi_23_36 : zI 23 36 = some (.aload_n 0, []) := by decide +kernel
theorem zi_23_37 : zI 23 37 = some (.getfield 22, [7, 5, 133]) := by decide +kernel
theorem zi_23_40 : zI 23 40 = some (.aload_n 0, []) := by decide +kernel
theorem zi_23_41 : zI 23 41 = some (.getfield 76, [7, 4, 131]) := by decide +kernel
theorem zi_23_44 : zI 23 44 = some (.aload_n 0, []) := by decide +kernel
theorem zi_23_45 : zI 23 45 = some (.aload_n 0, []) := by decide +kernel
theorem zi_23_46 : zI 23 46 = some (.getfield 76, [7, 4, 131]) := by decide +kernel
theorem zi_23_49 : zI 23 49 = some (.aload_n 0, []) := by decide +kernel
theorem zi_23_50 : zI 23 50 = some (.getfield 28, [7, 7, 134]) := by decide +kernel
theorem zi_23_53 : zI 23 53 = some (.iconst 0, []) := by decide +kernel
theorem zi_23_54 : zI 23 54 = some (.iaload, []) := by decide +kernel
theorem zi_23_55 : zI 23 55 = some (.invokevirtual 79, [96, 0, 2, 7, 137, 138, 130, 136, 0, 135]) := by decide +kernel
theorem zi_23_58 : zI 23 58 = some (.iastore, []) := by decide +kernel
theorem zi_23_59 : zI 23 59 = some (.aload_n 0, []) := by decide +kernel
theorem zi_23_60 : zI 23 60 = some (.dup, []) := by decide +kernel
theorem zi_23_61 : zI 23 61 = some (.getfield 76, [7, 4, 131]) := by decide +kernel
theorem zi_23_64 : zI 23 64 = some (.iconst 1, []) := by decide +kernel
theorem zi_23_65 : zI 23 65 = some (.iadd, []) := by decide +kernel
theorem zi_23_66 : zI 23 66 = some (.putfield 76, [7, 4, 0, 131]) := by decide +kernel
theorem zi_23_69 : zI 23 69 = some (.goto (-55), [14]) := by decide +kernel
theorem zi_23_72 : zI 23 72 = some (.aload_n 0, []) := by decide +kernel
theorem zi_23_73 : zI 23 73 = some (.getfield 10, [7, 0, 139]) := by decide +kernel
theorem zi_23_76 : zI 23 76 = some (.iload_n 1, []) := by decide +kernel
theorem zi_23_77 : zI 23 77 = some (.invokevirtual 82, [85, 0, 1, 6, 142, 143, 9, 141, 0, 140]) := by decide +kernel
theorem zi_23_80 : zI 23 80 = some (.aload_n 0, []) := by decide +kernel
theorem zi_23_81 : zI 23 81 = some (.getfield 76, [7, 4, 131]) := by decide +kernel
theorem zi_23_84 : zI 23 84 = some (.iload_n 2, []) := by decide +kernel
theorem zi_23_85 : zI 23 85 = some (.isub, []) := by decide +kernel
theorem zi_23_86 : zI 23 86 = some (.if_icmp .ne 7, [93]) := by decide +kernel
theorem zi_23_89 : zI 23 89 = some (.iconst 1, []) := by decide +kernel
theorem zi_23_90 : zI 23 90 = some (.goto 4, [94]) := by decide +kernel
theorem zi_23_94 : zI 23 94 = some (.ireturn, []) := by decide +kernel
/-! the Owl: lines learned -/
theorem zcho_uniq {A : Nat → Nat → Int32} {T l c s : Nat} {r r' : Int32} (h : zcho A T l c s r) (h' : zcho A T l c s r') : r = r' := by
  rcases h with ⟨t, h1, h2, h3, h4, h5, h6⟩ | ⟨h1, h2⟩ <;> rcases h' with ⟨t', k1, k2, k3, k4, k5, k6⟩ | ⟨k1, k2⟩
  · have e : t = t' := by
      rcases Nat.lt_trichotomy t t' with w | w | w
      · have := k6 t w
        have := h5 t' k1
        omega
      · exact w
      · have := h6 t' w
        have := k5 t h1
        omega
    rw [h2, k2, e]
  · rcases k1 t h1 with w | w <;> omega
  · rcases h1 t' k1 with w | w <;> omega
  · rw [h2, k2]
theorem zcop_uniq {A A1 A2 : Nat → Nat → Int32} {l T c : Nat} (h : zcop A A1 l T 0 c) (h' : zcop A A2 l T 0 c) : A1 = A2 := by
  obtain ⟨h1, h2, h3⟩ := h
  obtain ⟨k1, k2, k3⟩ := h'
  funext r
  by_cases e : r = 8
  · subst e
    funext y
    by_cases w : y < T * 8 + 0 ∨ T * 8 + c ≤ y
    · rw [h3 y w, k3 y w]
    · obtain ⟨p, rfl⟩ : ∃ p, y = T * 8 + p := ⟨y - T * 8, by omega⟩
      rw [h2 p (Nat.zero_le _) (by omega), k2 p (Nat.zero_le _) (by omega)]
  · rw [h1 r e, k1 r e]
theorem zwid_uniq {A A1 A2 : Nat → Nat → Int32} {l t a : Nat} (h : zwid A A1 l t 0 a) (h' : zwid A A2 l t 0 a) : A1 = A2 := by
  obtain ⟨h1, h2, h3⟩ := h
  obtain ⟨k1, k2, k3⟩ := h'
  funext r
  by_cases e : r = 8
  · subst e
    funext y
    by_cases w : y < t * 8 + 0 ∨ t * 8 + a ≤ y
    · rw [h3 y w, k3 y w]
    · obtain ⟨p, rfl⟩ : ∃ p, y = t * 8 + p := ⟨y - t * 8, by omega⟩
      rw [h2 p (Nat.zero_le _) (by omega), k2 p (Nat.zero_le _) (by omega)]
  · rw [h1 r e, k1 r e]
theorem ztak_uniq {A A1 A2 : Nat → Nat → Int32} {g g1 g2 : Nat → Nat} {l c s : Nat} {r r' : Int32} (h20 : g 2 ≤ 20) (h : ztak A g l c s r A1 g1) (h' : ztak A g l c s r' A2 g2) : r = r' ∧ A1 = A2 ∧ g1 = g2 := by
  have er := zcho_uniq h.1 h'.1
  subst er
  refine ⟨rfl, ?_⟩
  rcases h.2 with ⟨h1, h2, h3⟩ | ⟨h1, h2, h3, h4⟩ | ⟨t, a, h1, h2, h3, h4, h5, h6⟩ <;> rcases h'.2 with ⟨k1, k2, k3⟩ | ⟨k1, k2, k3, k4⟩ | ⟨t', a', k1, k2, k3, k4, k5, k6⟩
  · exact ⟨h2.trans k2.symm, h3.trans k3.symm⟩
  · exact absurd (k2.symm.trans h1) (nI_neg (by omega))
  · exact absurd (k2.symm.trans h1) (nI_neg (by omega))
  · exact absurd (h2.symm.trans k1) (nI_neg (by omega))
  · exact ⟨zcop_uniq h3 k3, h4.trans k4.symm⟩
  · have := (nI_eq (by omega) (by omega)).mp (h2.symm.trans k2)
    omega
  · exact absurd (h2.symm.trans k1) (nI_neg (by omega))
  · have := (nI_eq (by omega) (by omega)).mp (h2.symm.trans k2)
    omega
  · have e := (nI_eq (by omega) (by omega)).mp (h2.symm.trans k2)
    subst e
    have e := (nI_eq (by omega) (by omega)).mp (h3.symm.trans k3)
    subst e
    exact ⟨zwid_uniq h5 k5, h6.trans k6.symm⟩
theorem zlrn_uniq {x : Nat → Nat} {sh gp wi bk : Nat} {A1 A2 : Nat → Nat → Int32} {g1 g2 : Nat → Nat} : ∀ (k : Nat) (A : Nat → Nat → Int32) (g : Nat → Nat), zNb A g x sh gp wi bk → g 1 + k ≤ g 0 → zlrn sh k A g A1 g1 → zlrn sh k A g A2 g2 → A1 = A2 ∧ g1 = g2
  | 0, A, g, _, _, h, h' => ⟨h.1.trans h'.1.symm, h.2.trans h'.2.symm⟩
  | k + 1, A, g, q, hk, h, h' => by
    obtain ⟨r, c, B1, e1, h1, h2, h3, h4⟩ := h
    obtain ⟨r', c', B2, e2, k1, k2, k3, k4⟩ := h'
    have ec := (nI_eq (by omega) (by omega)).mp (h2.symm.trans k2)
    subst ec
    obtain ⟨rfl, rfl, rfl⟩ := ztak_uniq q.t20 h3 k3
    refine zlrn_uniq k _ _ (zNb_take q (by omega) h2 h1 h3) ?_ h4 k4
    show g 1 + 1 + k ≤ e1 0
    rw [ztak_g h3 _ (by decide)]
    omega
theorem zlrn_g {sh : Nat} {A1 : Nat → Nat → Int32} {g1 : Nat → Nat} : ∀ (k : Nat) (A : Nat → Nat → Int32) (g : Nat → Nat), zlrn sh k A g A1 g1 → g1 0 = g 0 ∧ g1 1 = g 1 + k
  | 0, A, g, h => by
    rw [h.2]
    exact ⟨rfl, rfl⟩
  | k + 1, A, g, h => by
    obtain ⟨r, c, B1, e1, h1, h2, h3, h4⟩ := h
    obtain ⟨k1, k2⟩ := zlrn_g k _ _ h4
    rw [k1, k2, updG_ne (by decide), updG_eq, ztak_g h3 _ (by decide)]
    exact ⟨rfl, by omega⟩
section
variable {o : Nat} {h : zH} {nl nm nT sh gp wi bk rl rt e u d : Nat} {g : Nat → Nat} {F A A' : Nat → Nat → Int32} {x : Nat → Nat}
theorem zOw_of {h' : zH} {f : Nat → Int32} (w : zOw o h A nl nm nT sh gp wi bk rl rt e u d) (hag : ∀ i, i ≠ o + 73 → h'[i]? = h[i]?) (hl : h'.length = h.length) (hs : zss h' = zss h) (hf : h'[o + 73]? = some (zri 70 f)) : zOw o h' A nl nm nT sh gp wi bk rl rt e u d := by
  obtain ⟨q1, ⟨dr, q2, q2'⟩, ⟨f5, q3⟩, ⟨f6, q4, q5⟩, ⟨L, f7, q6, q7⟩, ⟨r1, r2, r3, r4, r5, r6, r7⟩, ⟨lf, l1, l2⟩, ⟨tf, t1, t2⟩, bu⟩ := w
  refine ⟨q1, ⟨dr, q2, by rw [hag _ (by omega)]; exact q2'⟩, ⟨f, hf⟩, ⟨f6, by rw [hag _ (by omega)]; exact q4, q5⟩, ⟨L, f7, by rw [hag _ (by omega)]; exact q6, q7⟩, ⟨r1, r2, r3, r4, r5, r6, by omega⟩, ⟨lf, by rw [hag _ (Ne.symm (zne q3 l1))]; exact l1, fun l hl => ?_⟩, ⟨tf, by rw [hag _ (Ne.symm (zne q3 t1))]; exact t1, fun t ht => ?_⟩, by rw [hl, hs]; exact bu⟩
  · obtain ⟨p, p1, p2⟩ := l2 l hl
    exact ⟨p, p1, zln_mono p2 (hag _ (by have := p2.1; omega)) (Nat.le_refl _) ⟨rfl, rfl, fun _ _ => rfl⟩⟩
  · obtain ⟨p, p1, p2⟩ := t2 t ht
    exact ⟨p, p1, ztm_mono p2 (hag _ (by have := p2.1; omega)) (Nat.le_refl _) ⟨rfl, fun _ _ => rfl⟩⟩
theorem l_oln72 {F1 : Nat → Nat → Int32} {g1 : Nat → Nat} {U mo tk nm0 : Nat} (w : zOw o h F1 nl (g1 1) (g1 2) sh gp wi bk rl rt e u d) (q : zOk F g x sh gp wi bk) (hx : ∀ i, i < g 0 → x i ≤ 24 * (i + 1)) (hnl : g 0 = nl) (hnm : g 1 = nm0) (hmo : 1 ≤ mo ∧ mo ≤ 70) (htk : tk = min mo (nl - nm0)) (hz : zlrn sh tk F g F1 g1) (hd : d ≤ 30 * (U + 1)) (hu : u ≤ 100 * (U + 1)) : zev 23 72 [some (.ref o), some (.int (nI mo)), some (.int (nI nm0))] [] (nput (o + 1) F g h) (zQo o (U + 1)) := by
  have hb := w.hb
  have hbu := w.bu
  have hn7 := q.nb.n70
  have hmn := q.nb.mn
  obtain ⟨dr, hdr, hO⟩ := w.ob
  obtain ⟨k1, k2⟩ := zlrn_g _ _ _ hz
  obtain ⟨F2, g2, ⟨⟨F1', g1', hz', z1, z2⟩, q2⟩, hcl⟩ := c_learn hb F g x sh gp wi bk mo tk q.nb hmo (by rw [hnl, hnm]; exact htk)
  obtain ⟨rfl, rfl⟩ := zlrn_uniq tk F g q.nb (by omega) hz hz'
  refine zev_of (fun _ kk => zr_aload_n (pc' := 73) zi_23_72 rfl rfl kk) ?_
  refine zev_of (fun _ kk => zo_get (pc' := 76) zi_23_73 hb hO rfl rfl kk) ?_
  refine zev_of (fun _ kk => zr_iload_n (pc' := 77) zi_23_76 rfl rfl kk) ?_
  refine zev_of (fun _ kk => zr_v1 (pc' := 80) zi_23_77 (nput_at hb (k := 0) rfl) rfl hcl rfl kk) ?_
  refine zev_of (fun _ kk => zr_aload_n (pc' := 81) zi_23_80 rfl rfl kk) ?_
  refine zev_of (fun _ kk => zo_get (pc' := 84) zi_23_81 hb hO rfl rfl kk) ?_
  refine zev_of (fun _ kk => zr_iload_n (pc' := 85) zi_23_84 rfl rfl kk) ?_
  rw [k2, hnm]
  refine zev_of (fun _ kk => zr_isub (pc' := 86) zi_23_85 (by first | exact pk_sub (by omega) | rfl) rfl kk) ?_
  rw [show nm0 + tk - nm0 = tk by omega]
  refine zv_icmp (pc' := 89) zi_23_86 rfl (fun h86 => ?_) (fun h86 => ?_)
  · replace h86 := zc_ne_t h86
    exact absurd rfl h86
  · replace h86 := zc_ne_f h86
    refine zev_of (fun _ kk => zr_iconst (v := (nI 1)) (pc' := 90) zi_23_89 rfl rfl kk) ?_
    refine zev_of (fun _ kk => zr_goto zi_23_90 kk) ?_
    refine zev_ret (zr_zreturn zi_23_94 rfl (by decide)) ?_
    refine ⟨_, ⟨h, F2, g2, x, sh, gp, wi, bk, rl, rt, e, q2, fun i hi => hx i (by rw [z2 _ (by decide), k1] at hi; exact hi), ?_, rfl⟩, rfl⟩
    rw [z2 _ (by decide), z2 1 (by decide), z2 2 (by decide), k1, hnl]
    exact zOw_fr w (fun _ _ _ => rfl) ⟨dr, by omega, hO⟩ (Nat.le_refl _) ⟨by omega, by omega⟩ ⟨fun l hl => ⟨by rw [z1 _ rfl], by rw [z1 _ rfl], fun k hk => by rw [z1 _ rfl]⟩, fun t ht => ⟨by rw [z1 _ rfl], fun k hk => by rw [z1 _ rfl]⟩⟩
theorem l_oln {F1 : Nat → Nat → Int32} {g1 : Nat → Nat} {U mo tk nm0 : Nat} (q : zOk F g x sh gp wi bk) (hx : ∀ i, i < g 0 → x i ≤ 24 * (i + 1)) (hnl : g 0 = nl) (hnm : g 1 = nm0) (hmo : 1 ≤ mo ∧ mo ≤ 70) (htk : tk = min mo (nl - nm0)) (hz : zlrn sh tk F g F1 g1) (hd : d ≤ 30 * (U + 1)) : ∀ (j : Nat) (A : Nat → Nat → Int32) (gA : Nat → Nat) (h : zH) (rt e u : Nat), zlrn sh j A gA F1 g1 → zNb A gA x sh gp wi bk → gA 0 = nl → gA 1 + j = nm0 + tk → nm0 ≤ gA 1 → u + 2 * j ≤ 100 * (U + 1) → zOw o h A nl (gA 1) (gA 2) sh gp wi bk rl rt e u d → zev 23 14 [some (.ref o), some (.int (nI mo)), some (.int (nI nm0))] [] (nput (o + 1) F g h) (zQo o (U + 1)) := by
  intro j
  have hn7 := q.nb.n70
  have hmn := q.nb.mn
  induction j with
  | zero =>
    intro A gA h rt e u h0 qA hg0 hgj hge hu w
    have hb := w.hb
    obtain ⟨dr, hdr, hO⟩ := w.ob
    obtain ⟨rr1, rr2, rr3, rr4, rr5, rr6, rr7⟩ := w.rr
    obtain ⟨lf, l1, l2⟩ := w.li
    obtain ⟨rfl, rfl⟩ := h0
    refine zev_of (fun _ kk => zr_aload_n (pc' := 15) zi_23_14 rfl rfl kk) ?_
    refine zev_of (fun _ kk => zo_get (pc' := 18) zi_23_15 hb hO rfl rfl kk) ?_
    refine zev_of (fun _ kk => zr_aload_n (pc' := 19) zi_23_18 rfl rfl kk) ?_
    refine zev_of (fun _ kk => zo_get (pc' := 22) zi_23_19 hb hO rfl rfl kk) ?_
    refine zev_of (fun _ kk => zo_alen (pc' := 23) zi_23_22 hb l1 (by omega) rfl kk) ?_
    refine zv_icmp (pc' := 26) zi_23_23 rfl (fun h23 => ?_) (fun h23 => ?_)
    · replace h23 := zc_ge_t (by omega) (by omega) h23
      exact l_oln72 w q hx hnl hnm hmo htk hz hd (by omega)
    · replace h23 := zc_ge_f (by omega) (by omega) h23
      refine zev_of (fun _ kk => zr_aload_n (pc' := 27) zi_23_26 rfl rfl kk) ?_
      refine zev_of (fun _ kk => zo_get (pc' := 30) zi_23_27 hb hO rfl rfl kk) ?_
      refine zev_of (fun _ kk => zr_iload_n (pc' := 31) zi_23_30 rfl rfl kk) ?_
      refine zev_of (fun _ kk => zr_iload_n (pc' := 32) zi_23_31 rfl rfl kk) ?_
      refine zev_of (fun _ kk => zr_iadd (pc' := 33) zi_23_32 (by first | exact nI_add _ _ | rfl) rfl kk) ?_
      refine zv_icmp (pc' := 36) zi_23_33 rfl (fun h33 => ?_) (fun h33 => ?_)
      · replace h33 := zc_ge_t (by omega) (by omega) h33
        exact l_oln72 w q hx hnl hnm hmo htk hz hd (by omega)
      · replace h33 := zc_ge_f (by omega) (by omega) h33
        omega
  | succ j ih =>
    intro A gA h rt e u h0 qA hg0 hgj hge hu w
    have hb := w.hb
    have ho := w.o1
    obtain ⟨dr, hdr, hO⟩ := w.ob
    obtain ⟨rr1, rr2, rr3, rr4, rr5, rr6, rr7⟩ := w.rr
    obtain ⟨lf, l1, l2⟩ := w.li
    obtain ⟨sf, s1, s2, s3, s4, s5⟩ := w.se
    obtain ⟨r, c, B1, e1, c1, c2, c3, c4⟩ := h0
    obtain ⟨h', ⟨rt', e', w'⟩, hcl⟩ := c_olearn (F := F) (g := g) w (l := gA 1) (by omega) (by omega) c1 c2 q.nb.s0.2 qA.t20 rfl c3
    obtain ⟨dr', hdr', hO'⟩ := w'.ob
    obtain ⟨fo, hfo⟩ := w'.ow
    have hb' := w'.hb
    have hb2' := w'.hb2
    have w2 : zOw o (h'.set (o + 73) (zri 70 (upd fo (gA 1) r))) B1 nl (gA 1) (e1 2) sh gp wi bk rl rt' e' (u + 2) d := zOw_of w' (fun i hi => List.getElem?_set_ne (Ne.symm hi)) List.length_set (zss_set _ _ _ _ hfo rfl) (List.getElem?_set_self (by omega))
    have hb3 := w2.hb
    have hb4 := w2.hb2
    have hO3 : (h'.set (o + 73) (zri 70 (upd fo (gA 1) r)))[o]? = some (zow o dr' rl (gA 1) rt') := by rw [List.getElem?_set_ne (by omega)]; exact hO'
    have w4 : zOw o ((h'.set (o + 73) (zri 70 (upd fo (gA 1) r))).set o (zow o dr' rl (gA 1 + 1) rt')) (updR B1 5 (upd (B1 5) (gA 1) r)) nl (updG e1 1 (gA 1 + 1) 1) (updG e1 1 (gA 1 + 1) 2) sh gp wi bk rl rt' e' (u + 2) d := by
      rw [updG_eq, updG_ne (by decide)]
      refine zOw_fr w2 (fun i _ hi => List.getElem?_set_ne (Ne.symm hi)) ⟨dr', hdr', List.getElem?_set_self (by omega)⟩ (Nat.le_of_eq List.length_set.symm) ?_ ⟨fun l hl => ⟨by rw [updR_ne (by decide)], by rw [updR_ne (by decide)], fun k hk => by rw [updR_ne (by decide)]⟩, fun t ht => ⟨by rw [updR_ne (by decide)], fun k hk => by rw [updR_ne (by decide)]⟩⟩
      rw [List.length_set, zss_set _ o _ (zow o dr' rl (gA 1 + 1) rt') hO3 rfl]
      exact w2.bu
    have ih2 := ih _ _ _ rt' e' (u + 2) c4 (zNb_take qA (by omega) c2 c1 c3) (by rw [updG_ne (by decide), ztak_g c3 _ (by decide)]; exact hg0) (by rw [updG_eq]; omega) (by rw [updG_eq]; omega) (by omega) w4
    refine zev_of (fun _ kk => zr_aload_n (pc' := 15) zi_23_14 rfl rfl kk) ?_
    refine zev_of (fun _ kk => zo_get (pc' := 18) zi_23_15 hb hO rfl rfl kk) ?_
    refine zev_of (fun _ kk => zr_aload_n (pc' := 19) zi_23_18 rfl rfl kk) ?_
    refine zev_of (fun _ kk => zo_get (pc' := 22) zi_23_19 hb hO rfl rfl kk) ?_
    refine zev_of (fun _ kk => zo_alen (pc' := 23) zi_23_22 hb l1 (by omega) rfl kk) ?_
    refine zv_icmp (pc' := 26) zi_23_23 rfl (fun h23 => ?_) (fun h23 => ?_)
    · replace h23 := zc_ge_t (by omega) (by omega) h23
      omega
    · replace h23 := zc_ge_f (by omega) (by omega) h23
      refine zev_of (fun _ kk => zr_aload_n (pc' := 27) zi_23_26 rfl rfl kk) ?_
      refine zev_of (fun _ kk => zo_get (pc' := 30) zi_23_27 hb hO rfl rfl kk) ?_
      refine zev_of (fun _ kk => zr_iload_n (pc' := 31) zi_23_30 rfl rfl kk) ?_
      refine zev_of (fun _ kk => zr_iload_n (pc' := 32) zi_23_31 rfl rfl kk) ?_
      refine zev_of (fun _ kk => zr_iadd (pc' := 33) zi_23_32 (by first | exact nI_add _ _ | rfl) rfl kk) ?_
      refine zv_icmp (pc' := 36) zi_23_33 rfl (fun h33 => ?_) (fun h33 => ?_)
      · replace h33 := zc_ge_t (by omega) (by omega) h33
        omega
      · replace h33 := zc_ge_f (by omega) (by omega) h33
        refine zev_of (fun _ kk => zr_aload_n (pc' := 37) zi_23_36 rfl rfl kk) ?_
        refine zev_of (fun _ kk => zo_get (pc' := 40) zi_23_37 hb hO rfl rfl kk) ?_
        refine zev_of (fun _ kk => zr_aload_n (pc' := 41) zi_23_40 rfl rfl kk) ?_
        refine zev_of (fun _ kk => zo_get (pc' := 44) zi_23_41 hb hO rfl rfl kk) ?_
        refine zev_of (fun _ kk => zr_aload_n (pc' := 45) zi_23_44 rfl rfl kk) ?_
        refine zev_of (fun _ kk => zr_aload_n (pc' := 46) zi_23_45 rfl rfl kk) ?_
        refine zev_of (fun _ kk => zo_get (pc' := 49) zi_23_46 hb hO rfl rfl kk) ?_
        refine zev_of (fun _ kk => zr_aload_n (pc' := 50) zi_23_49 rfl rfl kk) ?_
        refine zev_of (fun _ kk => zo_get (pc' := 53) zi_23_50 hb hO rfl rfl kk) ?_
        refine zev_of (fun _ kk => zr_iconst (v := (nI 0)) (pc' := 54) zi_23_53 rfl rfl kk) ?_
        refine zev_of (fun _ kk => zo_iald (j := 0) (v := nI sh) (pc' := 55) zi_23_54 hb s1 (by omega) (by omega) (by omega) s2 rfl kk) ?_
        refine zev_of (fun _ kk => zr_v2 (pc' := 58) zi_23_55 (zo_at' hb hO) rfl hcl rfl kk) ?_
        refine zev_of (fun _ kk => zo_iast (pc' := 59) zi_23_58 hb' hfo (by omega) (by omega) (by omega) rfl kk) ?_
        have hb := hb3
        have hO := hO3
        refine zev_of (fun _ kk => zr_aload_n (pc' := 60) zi_23_59 rfl rfl kk) ?_
        refine zev_of (fun _ kk => zr_dup (pc' := 61) zi_23_60 rfl rfl kk) ?_
        refine zev_of (fun _ kk => zo_get (pc' := 64) zi_23_61 hb hO rfl rfl kk) ?_
        refine zev_of (fun _ kk => zr_iconst (v := (nI 1)) (pc' := 65) zi_23_64 rfl rfl kk) ?_
        refine zev_of (fun _ kk => zr_iadd (pc' := 66) zi_23_65 (by first | exact nI_add _ _ | rfl) rfl kk) ?_
        refine zev_of (fun _ kk => zo_put (pc' := 69) zi_23_66 hb ho hO (Nat.le_of_ble_eq_true rfl) rfl rfl rfl kk) ?_
        refine zev_of (fun _ kk => zr_goto zi_23_69 kk) ?_
        exact ih2
theorem c_olearns {U : Nat} {H : zH} (hU : U ≤ 1000) (W : zOW o U H) : ∃ H', zOW o (U + 1) H' ∧ zcalls zTB 23 [.ref o] H (some (.int 1), H') := by
  obtain ⟨h, F, g, x, sh, gp, wi, bk, rl, rt, e, q, hx, w, rfl⟩ := W
  refine zQo_out (zev_calls (Nat.le_of_ble_eq_true rfl) ?_)
  have hb := w.hb
  have ho := w.o1
  have hn7 := q.nb.n70
  have hmn := q.nb.mn
  obtain ⟨dr, hdr, hO⟩ := w.ob
  show zev 23 0 [some (.ref o), none, none] [] _ _
  refine zev_of (fun _ kk => zr_iconst (v := (nI 1)) (pc' := 1) zi_23_0 rfl rfl kk) ?_
  refine zev_of (fun _ kk => zr_aload_n (pc' := 2) zi_23_1 rfl rfl kk) ?_
  refine zev_of (fun _ kk => zr_bipush (v := (nI 8)) (pc' := 4) zi_23_2 rfl rfl kk) ?_
  obtain ⟨k4, h4H, hk4, w4, hf4, hc4⟩ := c_draw (F := F) (g := g) w (by omega) 8 (by omega) (by omega)
  refine zev_of (fun _ kk => zr_v1 (pc' := 7) zi_23_4 (zo_at' hb hO) rfl hc4 rfl kk) ?_
  have hb := w4.hb
  obtain ⟨dr4, hd4, hO⟩ := w4.ob
  refine zev_of (fun _ kk => zr_iadd (pc' := 8) zi_23_7 (by first | exact nI_add _ _ | rfl) rfl kk) ?_
  refine zev_of (fun _ kk => zr_istore_n (pc' := 9) zi_23_8 (Nat.le_of_ble_eq_true rfl) rfl rfl kk) ?_
  dsimp only [zst1, zst2, zkill, List.set, List.getElem?_cons_succ, List.getElem?_cons_zero]
  refine zev_of (fun _ kk => zr_aload_n (pc' := 10) zi_23_9 rfl rfl kk) ?_
  refine zev_of (fun _ kk => zo_get (pc' := 13) zi_23_10 hb hO rfl rfl kk) ?_
  refine zev_of (fun _ kk => zr_istore_n (pc' := 14) zi_23_13 (Nat.le_of_ble_eq_true rfl) rfl rfl kk) ?_
  dsimp only [zst1, zst2, zkill, List.set, List.getElem?_cons_succ, List.getElem?_cons_zero]
  obtain ⟨F2, g2, ⟨⟨F1, g1, hz, _⟩, _⟩, _⟩ := c_learn w4.hb F g x sh gp wi bk (1 + k4) _ q.nb ⟨by omega, by omega⟩ rfl
  refine l_oln q hx rfl rfl ⟨by omega, by omega⟩ rfl hz (by omega) _ F g _ rt e (100 * U) hz q.nb rfl rfl (Nat.le_refl _) ?_ w4
  omega
end


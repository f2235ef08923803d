theorem zi_30_0 : zI 30 0 = some (.aload_n 0, []) := by decide +kernel
theorem zi_30_1 : zI 30 1 = some (.getfield 18, [7, 3, 132]) := by decide +kernel
theorem zi_30_4 : zI 30 4 = some (.arraylength, []) := by decide +kernel
theorem zi_30_5 : zI 30 5 = some (.bipush 70, []) := by decide +kernel
theorem zi_30_7 : zI 30 7 = some (.if_icmp .ne 5, [12]) := by decide +kernel
theorem zi_30_10 : zI 30 10 = some (.iconst 1, []) := by decide +kernel
theorem zi_30_11 : zI 30 11 = some (.ireturn, []) := by decide +kernel
theorem zi_30_12 : zI 30 12 = some (.aload_n 0, []) := by decide +kernel
theorem zi_30_13 : zI 30 13 = some (.getfield 18, [7, 3, 132]) := by decide +kernel
theorem zi_30_16 : zI 30 16 = some (.arraylength, []) := by decide +kernel
theorem zi_30_17 : zI 30 17 = some (.ifCond .ne 7, [24]) := by decide +kernel
theorem zi_30_20 : zI 30 20 = some (.iconst 0, []) := by decide +kernel
theorem zi_30_21 : zI 30 21 = some (.goto 17, [38]) := by decide +kernel
theorem zi_30_24 : zI 30 24 = some (.aload_n 0, []) := by decide +kernel
theorem zi_30_25 : zI 30 25 = some (.getfield 18, [7, 3, 132]) := by decide +kernel
theorem zi_30_28 : zI 30 28 = some (.aload_n 0, []) := by decide +kernel
theorem zi_30_29 : zI 30 29 = some (.getfield 18, [7, 3, 132]) := by decide +kernel
theorem zi_30_32 : zI 30 32 = some (.arraylength, []) := by decide +kernel
theorem zi_30_33 : zI 30 33 = some (.iconst 1, []) := by decide +kernel
theorem zi_30_34 : zI 30 34 = some (.isub, []) := by decide +kernel
theorem zi_30_35 : zI 30 35 = some (.aaload, []) := by decide +kernel
theorem zi_30_36 : zI 30 36 = some (.iconst 0, []) := by decide +kernel
theorem zi_30_37 : zI 30 37 = some (.iaload, []) := by decide +kernel
theorem zi_30_38 : zI 30 38 = some (.aload_n 0, []) := by decide +kernel
theorem zi_30_39 : zI 30 39 = some (.aload_n 0, []) := by decide +kernel
theorem zi_30_40 : zI 30 40 = some (.iconst 4, []) := by decide +kernel
theorem zi_30_41 : zI 30 41 = some (.invokevirtual 54, [4, 0, 1, 7, 128, 129, 130, 127, 0, 126]) := by decide +kernel
theorem zi_30_44 : zI 30 44 = some (.ifCond .ne 8, [52]) := by decide +kernel
theorem zi_30_47 : zI 30 47 = some (.bipush 25, []) := by decide +kernel
theorem zi_30_49 : zI 30 49 = some (.goto 4, [53]) := by decide +kernel
theorem zi_30_52 : zI 30 52 = some (.iconst 4, []) := by decide +kernel
theorem zi_30_53 : zI 30 53 = some (.invokevirtual 54, [4, 0, 1, 7, 128, 129, 130, 127, 0, 126]) := by decide +kernel
theorem zi_30_56 : zI 30 56 = some (.iadd, []) := by decide +kernel
theorem zi_30_57 : zI 30 57 = some (.istore_n 1, []) := by decide +kernel
theorem zi_30_58 : zI 30 58 = some (.aload_n 0, []) := by decide +kernel
theorem zi_30_59 : zI 30 59 = some (.iconst 5, []) := by decide +kernel
theorem zi_30_60 : zI 30 60 = some (.invokevirtual 54, [4, 0, 1, 7, 128, 129, 130, 127, 0, 126]) := by decide +kernel
theorem zi_30_63 : zI 30 63 = some (.istore_n 2, []) := by decide +kernel
theorem zi_30_64 : zI 30 64 = some (.iload_n 2, []) := by decide +kernel
theorem zi_30_65 : zI 30 65 = some (.iconst 2, []) := by decide +kernel
theorem zi_30_66 : zI 30 66 = some (.if_icmp .ge 7, [73]) := by decide +kernel
theorem zi_30_69 : zI 30 69 = some (.iconst 3, []) := by decide +kernel
theorem zi_30_70 : zI 30 70 = some (.goto 26, [96]) := by decide +kernel
theorem zi_30_73 : zI 30 73 = some (.iload_n 2, []) := by decide +kernel
theorem zi_30_74 : zI 30 74 = some (.iconst 2, []) := by decide +kernel
theorem zi_30_75 : zI 30 75 = some (.if_icmp .ne 7, [82]) := by decide +kernel
theorem zi_30_78 : zI 30 78 = some (.iconst 4, []) := by decide +kernel
theorem zi_30_79 : zI 30 79 = some (.goto 17, [96]) := by decide +kernel
theorem zi_30_82 : zI 30 82 = some (.iload_n 2, []) := by decide +kernel
theorem zi_30_83 : zI 30 83 = some (.iconst 3, []) := by decide +kernel
theorem zi_30_84 : zI 30 84 = some (.if_icmp .ne 7, [91]) := by decide +kernel
theorem zi_30_87 : zI 30 87 = some (.iconst 2, []) := by decide +kernel
theorem zi_30_88 : zI 30 88 = some (.goto 8, [96]) := by decide +kernel
theorem zi_30_91 : zI 30 91 = some (.aload_n 0, []) := by decide +kernel
theorem zi_30_92 : zI 30 92 = some (.iconst 5, []) := by decide +kernel
theorem zi_30_93 : zI 30 93 = some (.invokevirtual 54, [4, 0, 1, 7, 128, 129, 130, 127, 0, 126]) := by decide +kernel
theorem zi_30_96 : zI 30 96 = some (.istore_n 3, []) := by decide +kernel
theorem zi_30_97 : zI 30 97 = some (.iconst 3, []) := by decide +kernel
theorem zi_30_98 : zI 30 98 = some (.iload_n 3, []) := by decide +kernel
theorem zi_30_99 : zI 30 99 = some (.iadd, []) := by decide +kernel
theorem zi_30_100 : zI 30 100 = some (.newarray .int, [0, 4]) := by decide +kernel
theorem zi_30_102 : zI 30 102 = some (.astore 4, []) := by decide +kernel
theorem zi_30_104 : zI 30 104 = some (.aload 4, []) := by decide +kernel
theorem zi_30_106 : zI 30 106 = some (.iconst 0, []) := by decide +kernel
theorem zi_30_107 : zI 30 107 = some (.iload_n 1, []) := by decide +kernel
theorem zi_30_108 : zI 30 108 = some (.iastore, []) := by decide +kernel
theorem zi_30_109 : zI 30 109 = some (.aload 4, []) := by decide +kernel
theorem zi_30_111 : zI 30 111 = some (.iconst 1, []) := by decide +kernel
theorem zi_30_112 : zI 30 112 = some (.aload_n 0, []) := by decide +kernel
theorem zi_30_113 : zI 30 113 = some (.iconst 3, []) := by decide +kernel
theorem zi_30_114 : zI 30 114 = some (.invokevirtual 54, [4, 0, 1, 7, 128, 129, 130, 127, 0, 126]) := by decide +kernel
theorem zi_30_117 : zI 30 117 = some (.iastore, []) := by decide +kernel
theorem zi_30_118 : zI 30 118 = some (.aload 4, []) := by decide +kernel
theorem zi_30_120 : zI 30 120 = some (.iconst 2, []) := by decide +kernel
theorem zi_30_121 : zI 30 121 = some (.aload_n 0, []) := by decide +kernel
theorem zi_30_122 : zI 30 122 = some (.iconst 4, []) := by decide +kernel
theorem zi_30_123 : zI 30 123 = some (.invokevirtual 54, [4, 0, 1, 7, 128, 129, 130, 127, 0, 126]) := by decide +kernel
theorem zi_30_126 : zI 30 126 = some (.iastore, []) := by decide +kernel
theorem zi_30_127 : zI 30 127 = some (.aload_n 0, []) := by decide +kernel
theorem zi_30_128 : zI 30 128 = some (.getfield 10, [7, 0, 139]) := by decide +kernel
theorem zi_30_131 : zI 30 131 = some (.iload_n 1, []) := by decide +kernel
theorem zi_30_132 : zI 30 132 = some (.aload 4, []) := by decide +kernel
theorem zi_30_134 : zI 30 134 = some (.iconst 1, []) := by decide +kernel
theorem zi_30_135 : zI 30 135 = some (.iaload, []) := by decide +kernel
theorem zi_30_136 : zI 30 136 = some (.aload 4, []) := by decide +kernel
theorem zi_30_138 : zI 30 138 = some (.iconst 2, []) := by decide +kernel
theorem zi_30_139 : zI 30 139 = some (.iaload, []) := by decide +kernel
theorem zi_30_140 : zI 30 140 = some (.invokevirtual 58, [83, 0, 3, 6, 183, 184, 9, 182, 0, 181]) := by decide +kernel
theorem zi_30_143 : zI 30 143 = some (.aload_n 0, []) := by decide +kernel
theorem zi_30_144 : zI 30 144 = some (.getfield 18, [7, 3, 132]) := by decide +kernel
theorem zi_30_147 : zI 30 147 = some (.arraylength, []) := by decide +kernel
theorem zi_30_148 : zI 30 148 = some (.if_icmp .eq 5, [153]) := by decide +kernel
theorem zi_30_153 : zI 30 153 = some (.iconst 0, []) := by decide +kernel
theorem zi_30_154 : zI 30 154 = some (.istore 5, []) := by decide +kernel
theorem zi_30_156 : zI 30 156 = some (.iload 5, []) := by decide +kernel
theorem zi_30_158 : zI 30 158 = some (.iload_n 3, []) := by decide +kernel
theorem zi_30_159 : zI 30 159 = some (.if_icmp .ge 65, [224]) := by decide +kernel
theorem zi_30_162 : zI 30 162 = some (.aload 4, []) := by decide +kernel
theorem zi_30_164 : zI 30 164 = some (.iconst 3, []) := by decide +kernel
theorem zi_30_165 : zI 30 165 = some (.iload 5, []) := by decide +kernel
theorem zi_30_167 : zI 30 167 = some (.iadd, []) := by decide +kernel
theorem zi_30_168 : zI 30 168 = some (.aload_n 0, []) := by decide +kernel
theorem zi_30_169 : zI 30 169 = some (.iconst 3, []) := by decide +kernel
theorem zi_30_170 : zI 30 170 = some (.invokevirtual 54, [4, 0, 1, 7, 128, 129, 130, 127, 0, 126]) := by decide +kernel
theorem zi_30_173 : zI 30 173 = some (.ifCond .ne 14, [187]) := by decide +kernel
theorem zi_30_176 : zI 30 176 = some (.bipush 100, []) := by decide +kernel
theorem zi_30_178 : zI 30 178 = some (.aload_n 0, []) := by decide +kernel
theorem zi_30_179 : zI 30 179 = some (.iconst 4, []) := by decide +kernel
theorem zi_30_180 : zI 30 180 = some (.invokevirtual 54, [4, 0, 1, 7, 128, 129, 130, 127, 0, 126]) := by decide +kernel
theorem zi_30_183 : zI 30 183 = some (.iadd, []) := by decide +kernel
theorem zi_30_184 : zI 30 184 = some (.goto 10, [194]) := by decide +kernel
theorem zi_30_187 : zI 30 187 = some (.bipush 10, []) := by decide +kernel
theorem zi_30_189 : zI 30 189 = some (.iload_n 2, []) := by decide +kernel
theorem zi_30_190 : zI 30 190 = some (.imul, []) := by decide +kernel
theorem zi_30_191 : zI 30 191 = some (.iload 5, []) := by decide +kernel
theorem zi_30_193 : zI 30 193 = some (.iadd, []) := by decide +kernel
theorem zi_30_194 : zI 30 194 = some (.iastore, []) := by decide +kernel
theorem zi_30_195 : zI 30 195 = some (.aload_n 0, []) := by decide +kernel
theorem zi_30_196 : zI 30 196 = some (.getfield 10, [7, 0, 139]) := by decide +kernel
theorem zi_30_199 : zI 30 199 = some (.aload 4, []) := by decide +kernel
theorem zi_30_201 : zI 30 201 = some (.iconst 3, []) := by decide +kernel
theorem zi_30_202 : zI 30 202 = some (.iload 5, []) := by decide +kernel
theorem zi_30_204 : zI 30 204 = some (.iadd, []) := by decide +kernel
theorem zi_30_205 : zI 30 205 = some (.iaload, []) := by decide +kernel
theorem zi_30_206 : zI 30 206 = some (.invokevirtual 62, [84, 0, 1, 6, 187, 188, 9, 186, 0, 185]) := by decide +kernel
theorem zi_30_209 : zI 30 209 = some (.iload 5, []) := by decide +kernel
theorem zi_30_211 : zI 30 211 = some (.iconst 1, []) := by decide +kernel
theorem zi_30_212 : zI 30 212 = some (.iadd, []) := by decide +kernel
theorem zi_30_213 : zI 30 213 = some (.if_icmp .eq 5, [218]) := by decide +kernel
theorem zi_30_218 : zI 30 218 = some (.iinc 5 1, []) := by decide +kernel
theorem zi_30_221 : zI 30 221 = some (.goto (-65), [156]) := by decide +kernel
theorem zi_30_224 : zI 30 224 = some (.aload_n 0, []) := by decide +kernel
theorem zi_30_225 : zI 30 225 = some (.aload_n 0, []) := by decide +kernel
theorem zi_30_226 : zI 30 226 = some (.getfield 18, [7, 3, 132]) := by decide +kernel
theorem zi_30_229 : zI 30 229 = some (.aload 4, []) := by decide +kernel
theorem zi_30_231 : zI 30 231 = some (.invokestatic 65, [45, 1, 2, 0, 191, 0, 130, 190, 0, 189]) := by decide +kernel
theorem zi_30_234 : zI 30 234 = some (.putfield 18, [7, 3, 1, 132]) := by decide +kernel
theorem zi_30_237 : zI 30 237 = some (.iconst 1, []) := by decide +kernel
theorem zi_30_238 : zI 30 238 = some (.ireturn, []) := by decide +kernel
/-! the Owl: a line is added -/
section
variable {o : Nat} {h : zH} {nl nm nT sh gp wi bk rl rt e u d : Nat} {g : Nat → Nat} {F A : Nat → Nat → Int32} {x : Nat → Nat}
theorem zOW_mono {U V : Nat} {H : zH} (w : zOW o U H) (h1 : U ≤ V) : zOW o V H := by
  obtain ⟨h, F, g, x, sh, gp, wi, bk, rl, rt, e, q, hx, w, rfl⟩ := w
  refine ⟨h, F, g, x, sh, gp, wi, bk, rl, rt, e, q, hx, ?_, rfl⟩
  obtain ⟨dr, hd, hO⟩ := w.ob
  have hbu := w.bu
  exact zOw_fr w (fun _ _ _ => rfl) ⟨dr, by omega, hO⟩ (Nat.le_refl _) ⟨by omega, by omega⟩ zAg_rf
theorem l_addx (w : zOw o h A nl nm nT sh gp wi bk rl rt e u d) (q : zOk F g x sh gp wi bk) (hA : zAg nl nT A F) (hg0 : g 0 = nl + 1) (hg1 : g 1 = nm) (hg2 : g 2 = nT) (hx : ∀ i, i < nl + 1 → x i ≤ 24 * (i + 1)) {U c r : Nat} {f : Nat → Int32} (hr : h[r]? = some (zri (3 + c) f)) (hre : e ≤ r) (f0 : f 0 = F 0 nl) (hc : c ≤ 4) (hF : F 3 nl = nI c) (hfw : ∀ k, k < c → f (3 + k) = F 4 (nl * 8 + k)) (hd : d ≤ 30 * (U + 1)) (hu : u + 1 ≤ 100 * (U + 1)) (X1 X2 X3 X5 : Option Value) : zev 30 224 [some (.ref o), X1, X2, X3, some (.ref r), X5] [] (nput (o + 1) F g h) (zQo o (U + 1)) := by
  have hb := w.hb
  have hn7 := q.nb.n70
  have ho := w.o1
  obtain ⟨dr, hdr, hO⟩ := w.ob
  obtain ⟨rr1, rr2, rr3, rr4, rr5, rr6, rr7⟩ := w.rr
  obtain ⟨lf, l1, l2⟩ := w.li
  have hbu := w.bu
  have hrl : r < h.length := (List.getElem?_eq_some_iff.mp hr).1
  obtain ⟨G, hG1, hG2, hcw⟩ := c_with (H := nput (o + 1) F g h) rl nl r (3 + c) lf f (by omega) (by omega) (by omega) (zo_at hb l1 (by omega)) (zo_at hb hr (by omega)) (fun i hi => by
    obtain ⟨p, p1, p2⟩ := l2 i hi
    obtain ⟨n, f, p3⟩ := zln_row p2
    have := p2.1
    exact ⟨p, p1, by omega, n, f, zo_at hb p3 (by omega)⟩)
  rw [nput_app hb, nput_len hb] at hcw
  refine zev_of (fun _ kk => zr_aload_n (pc' := 225) zi_30_224 rfl rfl kk) ?_
  refine zev_of (fun _ kk => zr_aload_n (pc' := 226) zi_30_225 rfl rfl kk) ?_
  refine zev_of (fun _ kk => zo_get (pc' := 229) zi_30_226 hb hO rfl rfl kk) ?_
  refine zev_of (fun _ kk => zr_aload (pc' := 231) zi_30_229 rfl rfl kk) ?_
  refine zev_of (fun _ kk => zr_s2 (pc' := 234) zi_30_231 rfl hcw rfl kk) ?_
  have hb2 : o + 1 + 71 ≤ (h ++ [zrr (nl + 1) G]).length := by rw [List.length_append]; omega
  have hO2 : (h ++ [zrr (nl + 1) G])[o]? = some (zow o dr rl nm rt) := by rw [List.getElem?_append_left (by omega)]; exact hO
  refine zev_of (fun _ kk => zo_put (pc' := 237) zi_30_234 hb2 ho hO2 (Nat.le_of_ble_eq_true rfl) rfl rfl rfl kk) ?_
  refine zev_of (fun _ kk => zr_iconst (v := (nI 1)) (pc' := 238) zi_30_237 rfl rfl kk) ?_
  refine zev_ret (zr_zreturn zi_30_238 rfl (by decide)) ?_
  have hlen : ((h ++ [zrr (nl + 1) G]).set o (zow o dr h.length nm rt)).length = h.length + 1 := by rw [List.length_set, List.length_append]; rfl
  have hag : ∀ i, i < h.length → i ≠ o → ((h ++ [zrr (nl + 1) G]).set o (zow o dr h.length nm rt))[i]? = h[i]? := fun i h1 h2 => by rw [List.getElem?_set_ne (Ne.symm h2), List.getElem?_append_left h1]
  refine ⟨_, ⟨(h ++ [zrr (nl + 1) G]).set o (zow o dr h.length nm rt), F, g, x, sh, gp, wi, bk, h.length, rt, ((h ++ [zrr (nl + 1) G]).set o (zow o dr h.length nm rt)).length, q, by rw [hg0]; exact hx, ?_, rfl⟩, rfl⟩
  rw [hg0, hg1, hg2]
  refine zOw_li (p := r) w (fun i h1 h2 => hag i (by omega) h2) ⟨dr, by omega, List.getElem?_set_self (by rw [List.length_append]; omega)⟩ (by omega) ⟨by omega, ?_⟩ hA ⟨rr7, by omega⟩ (by rw [List.getElem?_set_ne (by omega), List.getElem?_append_right (Nat.le_refl _), Nat.sub_self]; rfl) (fun lf0 h1 l hl => ?_) ⟨hG2, by omega, by omega, c, f, hc, by rw [hag r hrl (by omega)]; exact hr, f0, hF, hfw⟩
  · rw [zss_set _ o _ (zow o dr h.length nm rt) hO2 rfl, zss_app]
    show zss h + (nl + 1) ≤ _
    omega
  · rw [l1] at h1
    cases h1
    exact hG1 l hl
theorem l_addw {h : zH} {F : Nat → Nat → Int32} {d : Nat} (w : zOw o h A nl nm nT sh gp wi bk rl rt e u d) (q : zOk F g x sh gp wi bk) (hA : zAg nl nT A F) (hg0 : g 0 = nl + 1) (hg1 : g 1 = nm) (hg2 : g 2 = nT) (hnm : nm ≤ nl) (hx : ∀ i, i < nl + 1 → x i ≤ 24 * (i + 1)) {U c r kd j : Nat} {f : Nat → Int32} (hr : h[r]? = some (zri (3 + c) f)) (hre : e ≤ r) (f0 : f 0 = F 0 nl) (hc : c ≤ 4) (hj : j ≤ c) (hF : F 3 nl = nI j) (hfw : ∀ k, k < j → f (3 + k) = F 4 (nl * 8 + k)) (hkd : kd ≤ 4) (hd : d + 2 * (c - j) ≤ 30 * (U + 1)) (hU : U ≤ 1000) (hu : u + 1 ≤ 100 * (U + 1)) (X1 : Option Value) : zev 30 156 [some (.ref o), X1, some (.int (nI kd)), some (.int (nI c)), some (.ref r), some (.int (nI j))] [] (nput (o + 1) F g h) (zQo o (U + 1)) := by
  have hb := w.hb
  have hn7 := q.nb.n70
  have ho := w.o1
  obtain ⟨dr, hdr, hO⟩ := w.ob
  obtain ⟨rr1, rr2, rr3, rr4, rr5, rr6, rr7⟩ := w.rr
  have hstep : j < c → ∀ (v : Nat) (h1 : zH) (d1 : Nat), v ≤ 999 → zOw o h1 A nl nm nT sh gp wi bk rl rt e u d1 → h1[r]? = some (zri (3 + c) f) → d1 ≤ d + 2 → zev 30 194 [some (.ref o), X1, some (.int (nI kd)), some (.int (nI c)), some (.ref r), some (.int (nI j))] [.int (nI v), .int (nI (3 + j)), .ref r] (nput (o + 1) F g h1) (zQo o (U + 1)) := by
    intro hjc v h1 d1 hv w1 hr1 hd1
    have hb := w1.hb
    have hrl : r < h1.length := (List.getElem?_eq_some_iff.mp hr1).1
    have hbu := w1.bu
    have hr2 : (h1.set r (zri (3 + c) (upd f (3 + j) (nI v))))[r]? = some (zri (3 + c) (upd f (3 + j) (nI v))) := List.getElem?_set_self hrl
    have w2 : zOw o (h1.set r (zri (3 + c) (upd f (3 + j) (nI v)))) A nl nm nT sh gp wi bk rl rt e u d1 := by
      obtain ⟨dr, hdr, hO⟩ := w1.ob
      refine zOw_fr w1 (fun i h2 _ => List.getElem?_set_ne (by omega)) ⟨dr, hdr, ?_⟩ (by rw [List.length_set]; exact Nat.le_refl _) ?_ zAg_rf
      · rw [List.getElem?_set_ne (by omega)]
        exact hO
      · rw [List.length_set, zss_set h1 r _ (zri (3 + c) (upd f (3 + j) (nI v))) hr1 rfl]
        exact hbu
    have hcw := c_word w2.hb F g x sh gp wi bk j v q (by omega) (by omega) (by rw [hg0]; exact hF) (by omega) hv
    rw [hg0, Nat.add_sub_cancel] at hcw
    obtain ⟨q2, hcw⟩ := hcw
    refine zev_of (fun _ kk => zo_iast (pc' := 195) zi_30_194 hb hr1 (by omega) (by omega) (by omega) rfl kk) ?_
    have hb := w2.hb
    obtain ⟨dr, hdr, hO⟩ := w2.ob
    refine zev_of (fun _ kk => zr_aload_n (pc' := 196) zi_30_195 rfl rfl kk) ?_
    refine zev_of (fun _ kk => zo_get (pc' := 199) zi_30_196 hb hO rfl rfl kk) ?_
    refine zev_of (fun _ kk => zr_aload (pc' := 201) zi_30_199 rfl rfl kk) ?_
    refine zev_of (fun _ kk => zr_iconst (v := (nI 3)) (pc' := 202) zi_30_201 rfl rfl kk) ?_
    refine zev_of (fun _ kk => zr_iload (pc' := 204) zi_30_202 rfl rfl kk) ?_
    refine zev_of (fun _ kk => zr_iadd (pc' := 205) zi_30_204 (by first | exact nI_add _ _ | rfl) rfl kk) ?_
    refine zev_of (fun _ kk => zo_iald (v := nI v) (pc' := 206) zi_30_205 hb hr2 (by omega) (by omega) (by omega) pk_us rfl kk) ?_
    refine zev_of (fun _ kk => zr_v1 (pc' := 209) zi_30_206 (nput_at hb (k := 0) rfl) rfl hcw rfl kk) ?_
    refine zev_of (fun _ kk => zr_iload (pc' := 211) zi_30_209 rfl rfl kk) ?_
    refine zev_of (fun _ kk => zr_iconst (v := (nI 1)) (pc' := 212) zi_30_211 rfl rfl kk) ?_
    refine zev_of (fun _ kk => zr_iadd (pc' := 213) zi_30_212 (by first | exact nI_add _ _ | rfl) rfl kk) ?_
    refine zv_icmp (pc' := 216) zi_30_213 rfl (fun h213 => ?_) (fun h213 => ?_)
    · replace h213 := zc_eq_t h213
      refine zev_of (fun _ kk => zr_iinc (pc' := 221) zi_30_218 rfl (by first | exact n_inc _ | rfl) rfl rfl kk) ?_
      dsimp only [zst1, zst2, zkill, List.set, List.getElem?_cons_succ, List.getElem?_cons_zero]
      refine zev_of (fun _ kk => zr_goto zi_30_221 kk) ?_
      refine l_addw (j := j + 1) w2 q2 ⟨fun l hl => ?_, hA.2⟩ hg0 hg1 hg2 hnm hx hr2 hre ?_ hc hjc pk_us (fun k hk => ?_) hkd (by omega) hU hu X1
      · refine ⟨(hA.1 l hl).1, ?_, fun k hk => ?_⟩
        · rw [updR_eq, pk_un (by omega)]
          exact (hA.1 l hl).2.1
        · rw [updR_ne (by decide), updR_eq, pk_un (by omega)]
          exact (hA.1 l hl).2.2 k hk
      · rw [pk_un (by omega)]
        exact f0
      · rw [updR_ne (by decide), updR_eq]
        by_cases z : k = j
        · subst z
          rw [pk_us, pk_us]
        · rw [pk_un (by omega), pk_un (by omega)]
          exact hfw k (by omega)
    · replace h213 := zc_eq_f h213
      exact absurd rfl h213
  refine zev_of (fun _ kk => zr_iload (pc' := 158) zi_30_156 rfl rfl kk) ?_
  refine zev_of (fun _ kk => zr_iload_n (pc' := 159) zi_30_158 rfl rfl kk) ?_
  refine zv_icmp (pc' := 162) zi_30_159 rfl (fun h159 => ?_) (fun h159 => ?_)
  · replace h159 := zc_ge_t (by omega) (by omega) h159
    have e : j = c := by omega
    subst e
    exact l_addx w q hA hg0 hg1 hg2 hx hr hre f0 hc hF hfw (by omega) hu X1 _ _ _
  · replace h159 := zc_ge_f (by omega) (by omega) h159
    refine zev_of (fun _ kk => zr_aload (pc' := 164) zi_30_162 rfl rfl kk) ?_
    refine zev_of (fun _ kk => zr_iconst (v := (nI 3)) (pc' := 165) zi_30_164 rfl rfl kk) ?_
    refine zev_of (fun _ kk => zr_iload (pc' := 167) zi_30_165 rfl rfl kk) ?_
    refine zev_of (fun _ kk => zr_iadd (pc' := 168) zi_30_167 (by first | exact nI_add _ _ | rfl) rfl kk) ?_
    refine zev_of (fun _ kk => zr_aload_n (pc' := 169) zi_30_168 rfl rfl kk) ?_
    refine zev_of (fun _ kk => zr_iconst (v := (nI 3)) (pc' := 170) zi_30_169 rfl rfl kk) ?_
    obtain ⟨k170, h170H, hk170, w170, hf170, hc170⟩ := c_draw (F := F) (g := g) w (by omega) 3 (by omega) (by omega)
    refine zev_of (fun _ kk => zr_v1 (pc' := 173) zi_30_170 (zo_at' hb hO) rfl hc170 rfl kk) ?_
    have hb := w170.hb
    obtain ⟨dr170, hd170, hO⟩ := w170.ob
    refine zv_if (pc' := 176) zi_30_173 rfl (fun h173 => ?_) (fun h173 => ?_)
    · replace h173 := zc_ne_t h173
      refine zev_of (fun _ kk => zr_bipush (v := (nI 10)) (pc' := 189) zi_30_187 rfl rfl kk) ?_
      refine zev_of (fun _ kk => zr_iload_n (pc' := 190) zi_30_189 rfl rfl kk) ?_
      refine zev_of (fun _ kk => zr_imul (pc' := 191) zi_30_190 (by first | exact pk_mul _ _ | rfl) rfl kk) ?_
      refine zev_of (fun _ kk => zr_iload (pc' := 193) zi_30_191 rfl rfl kk) ?_
      refine zev_of (fun _ kk => zr_iadd (pc' := 194) zi_30_193 (by first | exact nI_add _ _ | rfl) rfl kk) ?_
      refine hstep (by omega) _ _ _ ?_ w170 ?_ (by omega)
      · omega
      · rw [hf170.2 r (by omega)]
        exact hr
    · replace h173 := zc_ne_f h173
      refine zev_of (fun _ kk => zr_bipush (v := (nI 100)) (pc' := 178) zi_30_176 rfl rfl kk) ?_
      refine zev_of (fun _ kk => zr_aload_n (pc' := 179) zi_30_178 rfl rfl kk) ?_
      refine zev_of (fun _ kk => zr_iconst (v := (nI 4)) (pc' := 180) zi_30_179 rfl rfl kk) ?_
      obtain ⟨k180, h180H, hk180, w180, hf180, hc180⟩ := c_draw (F := F) (g := g) w170 (by omega) 4 (by omega) (by omega)
      refine zev_of (fun _ kk => zr_v1 (pc' := 183) zi_30_180 (zo_at' hb hO) rfl hc180 rfl kk) ?_
      have hb := w180.hb
      obtain ⟨dr180, hd180, hO⟩ := w180.ob
      refine zev_of (fun _ kk => zr_iadd (pc' := 184) zi_30_183 (by first | exact nI_add _ _ | rfl) rfl kk) ?_
      refine zev_of (fun _ kk => zr_goto zi_30_184 kk) ?_
      refine hstep (by omega) _ _ _ ?_ w180 ?_ (by omega)
      · omega
      · rw [hf180.2 r (by omega), hf170.2 r (by omega)]
        exact hr
termination_by c - j
theorem l_add96 (w : zOw o h F nl (g 1) (g 2) sh gp wi bk rl rt e u d) (q : zOk F g x sh gp wi bk) (hn : g 0 = nl) (hn70 : nl < 70) (hx : ∀ i, i < nl → x i ≤ 24 * (i + 1)) {U t c kd : Nat} (ht : t ≤ 24 * (nl + 1)) (hxt : ∀ i, i < nl → x i ≤ t) (hc : c ≤ 4) (hkd : kd ≤ 4) (hd : d + 2 + 2 * c ≤ 30 * (U + 1)) (hU : U ≤ 1000) (hu : u + 2 ≤ 100 * (U + 1)) (X3 X4 X5 : Option Value) : zev 30 96 [some (.ref o), some (.int (nI t)), some (.int (nI kd)), X3, X4, X5] [.int (nI c)] (nput (o + 1) F g h) (zQo o (U + 1)) := by
  have hb := w.hb
  have ho := w.o1
  have hb2 := w.hb2
  obtain ⟨dr, hdr, hO⟩ := w.ob
  obtain ⟨rr1, rr2, rr3, rr4, rr5, rr6, rr7⟩ := w.rr
  have hbu := w.bu
  have hmn := q.nb.mn
  -- its row, behind all
  have w1 : ∀ f, zOw o (h ++ [zri (3 + c) f]) F nl (g 1) (g 2) sh gp wi bk rl rt e (u + 1) d := fun f => by
    refine zOw_fr w (fun i h1 _ => List.getElem?_append_left (by omega)) ⟨dr, hdr, ?_⟩ (by rw [List.length_append]; omega) ?_ zAg_rf
    · rw [List.getElem?_append_left (by omega)]
      exact hO
    · rw [List.length_append, zss_app]
      refine ⟨by show h.length + 1 ≤ _; omega, ?_⟩
      show zss h + (3 + c) ≤ _
      omega
  have hset : ∀ {h1 : zH} {d1 : Nat} {f f' : Nat → Int32}, zOw o h1 F nl (g 1) (g 2) sh gp wi bk rl rt e (u + 1) d1 → h1[h.length]? = some (zri (3 + c) f) → zOw o (h1.set h.length (zri (3 + c) f')) F nl (g 1) (g 2) sh gp wi bk rl rt e (u + 1) d1 ∧ (h1.set h.length (zri (3 + c) f'))[h.length]? = some (zri (3 + c) f') := by
    intro h1 d1 f f' w1 hr1
    obtain ⟨dr, hdr, hO⟩ := w1.ob
    have hrl := (List.getElem?_eq_some_iff.mp hr1).1
    refine ⟨zOw_fr w1 (fun i h2 _ => List.getElem?_set_ne (by omega)) ⟨dr, hdr, ?_⟩ (by rw [List.length_set]; exact Nat.le_refl _) ?_ zAg_rf, List.getElem?_set_self hrl⟩
    · rw [List.getElem?_set_ne (by omega)]
      exact hO
    · rw [List.length_set, zss_set h1 _ _ (zri (3 + c) f') hr1 rfl]
      exact w1.bu
  have hlast : ∀ a : zE, (h ++ [a])[h.length]? = some a := fun a => by rw [List.getElem?_append_right (Nat.le_refl _), Nat.sub_self]; rfl
  refine zev_of (fun _ kk => zr_istore_n (pc' := 97) zi_30_96 (Nat.le_of_ble_eq_true rfl) rfl rfl kk) ?_
  dsimp only [zst1, zst2, zkill, List.set, List.getElem?_cons_succ, List.getElem?_cons_zero]
  refine zev_of (fun _ kk => zr_iconst (v := (nI 3)) (pc' := 98) zi_30_97 rfl rfl kk) ?_
  refine zev_of (fun _ kk => zr_iload_n (pc' := 99) zi_30_98 rfl rfl kk) ?_
  refine zev_of (fun _ kk => zr_iadd (pc' := 100) zi_30_99 (by first | exact nI_add _ _ | rfl) rfl kk) ?_
  refine zev_of (fun _ kk => zo_newa (pc' := 102) zi_30_100 hb (by omega) rfl kk) ?_
  refine zev_of (fun _ kk => zr_astore (pc' := 104) zi_30_102 (Nat.le_of_ble_eq_true rfl) rfl rfl kk) ?_
  dsimp only [zst1, zst2, zkill, List.set, List.getElem?_cons_succ, List.getElem?_cons_zero]
  refine zev_of (fun _ kk => zr_aload (pc' := 106) zi_30_104 rfl rfl kk) ?_
  refine zev_of (fun _ kk => zr_iconst (v := (nI 0)) (pc' := 107) zi_30_106 rfl rfl kk) ?_
  refine zev_of (fun _ kk => zr_iload_n (pc' := 108) zi_30_107 rfl rfl kk) ?_
  have hb := (w1 (fun _ => 0)).hb
  refine zev_of (fun _ kk => zo_iast (pc' := 109) zi_30_108 hb (hlast _) (by omega) (by omega) (by omega) rfl kk) ?_
  rw [set_last]
  have wa := w1 (upd (fun _ => 0) 0 (nI t))
  have hb := wa.hb
  obtain ⟨dra, hdra, hO⟩ := wa.ob
  refine zev_of (fun _ kk => zr_aload (pc' := 111) zi_30_109 rfl rfl kk) ?_
  refine zev_of (fun _ kk => zr_iconst (v := (nI 1)) (pc' := 112) zi_30_111 rfl rfl kk) ?_
  refine zev_of (fun _ kk => zr_aload_n (pc' := 113) zi_30_112 rfl rfl kk) ?_
  refine zev_of (fun _ kk => zr_iconst (v := (nI 3)) (pc' := 114) zi_30_113 rfl rfl kk) ?_
  obtain ⟨k114, h114H, hk114, w114, hf114, hc114⟩ := c_draw (F := F) (g := g) wa (by omega) 3 (by omega) (by omega)
  refine zev_of (fun _ kk => zr_v1 (pc' := 117) zi_30_114 (zo_at' hb hO) rfl hc114 rfl kk) ?_
  have hb := w114.hb
  obtain ⟨dr114, hd114, hO⟩ := w114.ob
  have hr114 : h114H[h.length]? = some (zri (3 + c) (upd (fun _ => 0) 0 (nI t))) := by
    rw [hf114.2 _ (by omega)]
    exact hlast _
  obtain ⟨wb, hrb⟩ := hset (f' := upd (upd (fun _ => 0) 0 (nI t)) 1 (nI k114)) w114 hr114
  refine zev_of (fun _ kk => zo_iast (pc' := 118) zi_30_117 hb hr114 (by omega) (by omega) (by omega) rfl kk) ?_
  have hb := wb.hb
  obtain ⟨drb, hdrb, hO⟩ := wb.ob
  refine zev_of (fun _ kk => zr_aload (pc' := 120) zi_30_118 rfl rfl kk) ?_
  refine zev_of (fun _ kk => zr_iconst (v := (nI 2)) (pc' := 121) zi_30_120 rfl rfl kk) ?_
  refine zev_of (fun _ kk => zr_aload_n (pc' := 122) zi_30_121 rfl rfl kk) ?_
  refine zev_of (fun _ kk => zr_iconst (v := (nI 4)) (pc' := 123) zi_30_122 rfl rfl kk) ?_
  obtain ⟨k123, h123H, hk123, w123, hf123, hc123⟩ := c_draw (F := F) (g := g) wb (by omega) 4 (by omega) (by omega)
  refine zev_of (fun _ kk => zr_v1 (pc' := 126) zi_30_123 (zo_at' hb hO) rfl hc123 rfl kk) ?_
  have hb := w123.hb
  obtain ⟨dr123, hd123, hO⟩ := w123.ob
  have hr123 : h123H[h.length]? = some (zri (3 + c) (upd (upd (fun _ => 0) 0 (nI t)) 1 (nI k114))) := by
    rw [hf123.2 _ (by omega)]
    exact hrb
  obtain ⟨wc, hrc⟩ := hset (f' := upd (upd (upd (fun _ => 0) 0 (nI t)) 1 (nI k114)) 2 (nI k123)) w123 hr123
  refine zev_of (fun _ kk => zo_iast (pc' := 127) zi_30_126 hb hr123 (by omega) (by omega) (by omega) rfl kk) ?_
  have hb := wc.hb
  obtain ⟨drc, hdrc, hO⟩ := wc.ob
  obtain ⟨F1, g1, ⟨hz, q1⟩, hcl⟩ := c_line hb F g x sh gp wi bk t k114 k123 q.nb (by omega) (by omega) (by rw [hn]; exact hxt) (by omega) (by omega)
  obtain ⟨z0, z1, z2, z3, z5, z4, z7, z8, z31, v0, v1, v2⟩ := hz
  obtain ⟨lf, l1, l2⟩ := wc.li
  refine zev_of (fun _ kk => zr_aload_n (pc' := 128) zi_30_127 rfl rfl kk) ?_
  refine zev_of (fun _ kk => zo_get (pc' := 131) zi_30_128 hb hO rfl rfl kk) ?_
  refine zev_of (fun _ kk => zr_iload_n (pc' := 132) zi_30_131 rfl rfl kk) ?_
  refine zev_of (fun _ kk => zr_aload (pc' := 134) zi_30_132 rfl rfl kk) ?_
  refine zev_of (fun _ kk => zr_iconst (v := (nI 1)) (pc' := 135) zi_30_134 rfl rfl kk) ?_
  refine zev_of (fun _ kk => zo_iald (v := nI k114) (pc' := 136) zi_30_135 hb hrc (by omega) (by omega) (by omega) (by rw [pk_un (by decide), pk_us]) rfl kk) ?_
  refine zev_of (fun _ kk => zr_aload (pc' := 138) zi_30_136 rfl rfl kk) ?_
  refine zev_of (fun _ kk => zr_iconst (v := (nI 2)) (pc' := 139) zi_30_138 rfl rfl kk) ?_
  refine zev_of (fun _ kk => zo_iald (v := nI k123) (pc' := 140) zi_30_139 hb hrc (by omega) (by omega) (by omega) pk_us rfl kk) ?_
  refine zev_of (fun _ kk => zr_v3 (pc' := 143) zi_30_140 (nput_at hb (k := 0) rfl) rfl hcl rfl kk) ?_
  refine zev_of (fun _ kk => zr_aload_n (pc' := 144) zi_30_143 rfl rfl kk) ?_
  refine zev_of (fun _ kk => zo_get (pc' := 147) zi_30_144 hb hO rfl rfl kk) ?_
  refine zev_of (fun _ kk => zo_alen (pc' := 148) zi_30_147 hb l1 (by omega) rfl kk) ?_
  refine zv_icmp (pc' := 151) zi_30_148 rfl (fun h148 => ?_) (fun h148 => ?_)
  · replace h148 := zc_eq_t h148
    refine zev_of (fun _ kk => zr_iconst (v := (nI 0)) (pc' := 154) zi_30_153 rfl rfl kk) ?_
    refine zev_of (fun _ kk => zr_istore (pc' := 156) zi_30_154 (Nat.le_of_ble_eq_true rfl) rfl rfl kk) ?_
    dsimp only [zst1, zst2, zkill, List.set, List.getElem?_cons_succ, List.getElem?_cons_zero]
    refine l_addw (j := 0) (f := upd (upd (upd (fun _ => 0) 0 (nI t)) 1 (nI k114)) 2 (nI k123)) wc q1 ⟨fun l hl => ⟨?_, ?_, fun k hk => by rw [z4]⟩, fun t ht => ⟨by rw [z7], fun k hk => by rw [z8]⟩⟩ (by rw [v0, hn]) v1 v2 (by omega) (fun i hi => ?_) hrc rr7 ?_ hc (Nat.zero_le _) ?_ (fun k hk => absurd hk (Nat.not_lt_zero _)) hkd (by omega) hU (by omega) _
    · rw [z0, hn, pk_un (by omega)]
    · rw [z3, hn, pk_un (by omega)]
    · rw [hn]
      by_cases z : i = nl
      · rw [z, nup_eq]
        exact ht
      · rw [nup_ne z]
        exact hx i (by omega)
    · rw [pk_un (by decide), pk_un (by decide), pk_us, z0, hn, pk_us]
    · rw [z3, hn, pk_us]
  · replace h148 := zc_eq_f h148
    exact absurd (by rw [hn]) h148
theorem l_add38 (w : zOw o h F nl (g 1) (g 2) sh gp wi bk rl rt e u d) (q : zOk F g x sh gp wi bk) (hn : g 0 = nl) (hn70 : nl < 70) (hx : ∀ i, i < nl → x i ≤ 24 * (i + 1)) {U t : Nat} (ht : t ≤ 24 * nl) (hxt : ∀ i, i < nl → x i ≤ t) (hd : d + 14 ≤ 30 * (U + 1)) (hU : U ≤ 1000) (hu : u + 2 ≤ 100 * (U + 1)) (X1 X2 X3 X4 X5 : Option Value) : zev 30 38 [some (.ref o), X1, X2, X3, X4, X5] [.int (nI t)] (nput (o + 1) F g h) (zQo o (U + 1)) := by
  have hb := w.hb
  have ho := w.o1
  obtain ⟨dr, hdr, hO⟩ := w.ob
  have h53 : ∀ (m : Nat) (h : zH) (d1 : Nat), 0 < m → m ≤ 25 → d1 ≤ d + 1 → zOw o h F nl (g 1) (g 2) sh gp wi bk rl rt e u d1 → zev 30 53 [some (.ref o), X1, X2, X3, X4, X5] [.int (nI m), .ref o, .int (nI t)] (nput (o + 1) F g h) (zQo o (U + 1)) := by
    intro m h d1 hm0 hm hd1 w
    have hb := w.hb
    obtain ⟨dr, hdr, hO⟩ := w.ob
    obtain ⟨k53, h53H, hk53, w53, hf53, hc53⟩ := c_draw (F := F) (g := g) w (by omega) m (by omega) (by omega)
    refine zev_of (fun _ kk => zr_v1 (pc' := 56) zi_30_53 (zo_at' hb hO) rfl hc53 rfl kk) ?_
    have hb := w53.hb
    obtain ⟨dr53, hd53, hO⟩ := w53.ob
    refine zev_of (fun _ kk => zr_iadd (pc' := 57) zi_30_56 (by first | exact nI_add _ _ | rfl) rfl kk) ?_
    refine zev_of (fun _ kk => zr_istore_n (pc' := 58) zi_30_57 (Nat.le_of_ble_eq_true rfl) rfl rfl kk) ?_
    dsimp only [zst1, zst2, zkill, List.set, List.getElem?_cons_succ, List.getElem?_cons_zero]
    refine zev_of (fun _ kk => zr_aload_n (pc' := 59) zi_30_58 rfl rfl kk) ?_
    refine zev_of (fun _ kk => zr_iconst (v := (nI 5)) (pc' := 60) zi_30_59 rfl rfl kk) ?_
    obtain ⟨k60, h60H, hk60, w60, hf60, hc60⟩ := c_draw (F := F) (g := g) w53 (by omega) 5 (by omega) (by omega)
    refine zev_of (fun _ kk => zr_v1 (pc' := 63) zi_30_60 (zo_at' hb hO) rfl hc60 rfl kk) ?_
    have hb := w60.hb
    obtain ⟨dr60, hd60, hO⟩ := w60.ob
    refine zev_of (fun _ kk => zr_istore_n (pc' := 64) zi_30_63 (Nat.le_of_ble_eq_true rfl) rfl rfl kk) ?_
    dsimp only [zst1, zst2, zkill, List.set, List.getElem?_cons_succ, List.getElem?_cons_zero]
    refine zev_of (fun _ kk => zr_iload_n (pc' := 65) zi_30_64 rfl rfl kk) ?_
    refine zev_of (fun _ kk => zr_iconst (v := (nI 2)) (pc' := 66) zi_30_65 rfl rfl kk) ?_
    refine zv_icmp (pc' := 69) zi_30_66 rfl (fun h66 => ?_) (fun h66 => ?_)
    · replace h66 := zc_ge_t (by omega) (by omega) h66
      refine zev_of (fun _ kk => zr_iload_n (pc' := 74) zi_30_73 rfl rfl kk) ?_
      refine zev_of (fun _ kk => zr_iconst (v := (nI 2)) (pc' := 75) zi_30_74 rfl rfl kk) ?_
      refine zv_icmp (pc' := 78) zi_30_75 rfl (fun h75 => ?_) (fun h75 => ?_)
      · replace h75 := zc_ne_t h75
        refine zev_of (fun _ kk => zr_iload_n (pc' := 83) zi_30_82 rfl rfl kk) ?_
        refine zev_of (fun _ kk => zr_iconst (v := (nI 3)) (pc' := 84) zi_30_83 rfl rfl kk) ?_
        refine zv_icmp (pc' := 87) zi_30_84 rfl (fun h84 => ?_) (fun h84 => ?_)
        · replace h84 := zc_ne_t h84
          refine zev_of (fun _ kk => zr_aload_n (pc' := 92) zi_30_91 rfl rfl kk) ?_
          refine zev_of (fun _ kk => zr_iconst (v := (nI 5)) (pc' := 93) zi_30_92 rfl rfl kk) ?_
          obtain ⟨k93, h93H, hk93, w93, hf93, hc93⟩ := c_draw (F := F) (g := g) w60 (by omega) 5 (by omega) (by omega)
          refine zev_of (fun _ kk => zr_v1 (pc' := 96) zi_30_93 (zo_at' hb hO) rfl hc93 rfl kk) ?_
          exact l_add96 w93 q hn hn70 hx (by omega) (fun i hi => by have := hxt i hi; omega) (by omega) (by omega) (by omega) hU hu _ _ _
        · replace h84 := zc_ne_f h84
          refine zev_of (fun _ kk => zr_iconst (v := (nI 2)) (pc' := 88) zi_30_87 rfl rfl kk) ?_
          refine zev_of (fun _ kk => zr_goto zi_30_88 kk) ?_
          exact l_add96 w60 q hn hn70 hx (by omega) (fun i hi => by have := hxt i hi; omega) (by omega) (by omega) (by omega) hU hu _ _ _
      · replace h75 := zc_ne_f h75
        refine zev_of (fun _ kk => zr_iconst (v := (nI 4)) (pc' := 79) zi_30_78 rfl rfl kk) ?_
        refine zev_of (fun _ kk => zr_goto zi_30_79 kk) ?_
        exact l_add96 w60 q hn hn70 hx (by omega) (fun i hi => by have := hxt i hi; omega) (by omega) (by omega) (by omega) hU hu _ _ _
    · replace h66 := zc_ge_f (by omega) (by omega) h66
      refine zev_of (fun _ kk => zr_iconst (v := (nI 3)) (pc' := 70) zi_30_69 rfl rfl kk) ?_
      refine zev_of (fun _ kk => zr_goto zi_30_70 kk) ?_
      exact l_add96 w60 q hn hn70 hx (by omega) (fun i hi => by have := hxt i hi; omega) (by omega) (by omega) (by omega) hU hu _ _ _
  refine zev_of (fun _ kk => zr_aload_n (pc' := 39) zi_30_38 rfl rfl kk) ?_
  refine zev_of (fun _ kk => zr_aload_n (pc' := 40) zi_30_39 rfl rfl kk) ?_
  refine zev_of (fun _ kk => zr_iconst (v := (nI 4)) (pc' := 41) zi_30_40 rfl rfl kk) ?_
  obtain ⟨k41, h41H, hk41, w41, hf41, hc41⟩ := c_draw (F := F) (g := g) w (by omega) 4 (by omega) (by omega)
  refine zev_of (fun _ kk => zr_v1 (pc' := 44) zi_30_41 (zo_at' hb hO) rfl hc41 rfl kk) ?_
  have hb := w41.hb
  obtain ⟨dr41, hd41, hO⟩ := w41.ob
  refine zv_if (pc' := 47) zi_30_44 rfl (fun h44 => ?_) (fun h44 => ?_)
  · replace h44 := zc_ne_t h44
    refine zev_of (fun _ kk => zr_iconst (v := (nI 4)) (pc' := 53) zi_30_52 rfl rfl kk) ?_
    exact h53 4 _ _ (by omega) (by omega) (by omega) w41
  · replace h44 := zc_ne_f h44
    refine zev_of (fun _ kk => zr_bipush (v := (nI 25)) (pc' := 49) zi_30_47 rfl rfl kk) ?_
    refine zev_of (fun _ kk => zr_goto zi_30_49 kk) ?_
    exact h53 25 _ _ (by omega) (by omega) (by omega) w41
theorem c_add {U : Nat} {H : zH} (hU : U ≤ 1000) (W : zOW o U H) : ∃ H', zOW o (U + 1) H' ∧ zcalls zTB 30 [.ref o] H (some (.int 1), H') := by
  have W0 := W
  obtain ⟨h, F, g, x, sh, gp, wi, bk, rl, rt, e, q, hx, w, rfl⟩ := W
  refine zQo_out (zev_calls (Nat.le_of_ble_eq_true rfl) ?_)
  have hb := w.hb
  have ho := w.o1
  obtain ⟨dr, hdr, hO⟩ := w.ob
  obtain ⟨rr1, rr2, rr3, rr4, rr5, rr6, rr7⟩ := w.rr
  obtain ⟨lf, l1, l2⟩ := w.li
  have hn7 := q.nb.n70
  show zev 30 0 [some (.ref o), none, none, none, none, none] [] _ _
  refine zev_of (fun _ kk => zr_aload_n (pc' := 1) zi_30_0 rfl rfl kk) ?_
  refine zev_of (fun _ kk => zo_get (pc' := 4) zi_30_1 hb hO rfl rfl kk) ?_
  refine zev_of (fun _ kk => zo_alen (pc' := 5) zi_30_4 hb l1 (by omega) rfl kk) ?_
  refine zev_of (fun _ kk => zr_bipush (v := (nI 70)) (pc' := 7) zi_30_5 rfl rfl kk) ?_
  refine zv_icmp (pc' := 10) zi_30_7 rfl (fun h7 => ?_) (fun h7 => ?_)
  · replace h7 := zc_ne_t h7
    refine zev_of (fun _ kk => zr_aload_n (pc' := 13) zi_30_12 rfl rfl kk) ?_
    refine zev_of (fun _ kk => zo_get (pc' := 16) zi_30_13 hb hO rfl rfl kk) ?_
    refine zev_of (fun _ kk => zo_alen (pc' := 17) zi_30_16 hb l1 (by omega) rfl kk) ?_
    refine zv_if (pc' := 20) zi_30_17 rfl (fun h17 => ?_) (fun h17 => ?_)
    · replace h17 := zc_ne_t h17
      have hn0 : 1 ≤ g 0 := Nat.pos_of_ne_zero fun e => h17 (by rw [e]; rfl)
      have hn1 : g 0 < 70 := Nat.lt_of_le_of_ne hn7 fun e => h7 (by rw [e])
      obtain ⟨p, p1, p2, p3, c, f, p4, p5, p6, p7, p8⟩ := l2 (g 0 - 1) (by omega)
      have ht := q.nb.tm (g 0 - 1) (by omega)
      refine zev_of (fun _ kk => zr_aload_n (pc' := 25) zi_30_24 rfl rfl kk) ?_
      refine zev_of (fun _ kk => zo_get (pc' := 28) zi_30_25 hb hO rfl rfl kk) ?_
      refine zev_of (fun _ kk => zr_aload_n (pc' := 29) zi_30_28 rfl rfl kk) ?_
      refine zev_of (fun _ kk => zo_get (pc' := 32) zi_30_29 hb hO rfl rfl kk) ?_
      refine zev_of (fun _ kk => zo_alen (pc' := 33) zi_30_32 hb l1 (by omega) rfl kk) ?_
      refine zev_of (fun _ kk => zr_iconst (v := (nI 1)) (pc' := 34) zi_30_33 rfl rfl kk) ?_
      refine zev_of (fun _ kk => zr_isub (pc' := 35) zi_30_34 (by first | exact pk_sub (by omega) | rfl) rfl kk) ?_
      refine zev_of (fun _ kk => zo_aald (pc' := 36) zi_30_35 hb l1 (by omega) (by omega) (by omega) p1 rfl kk) ?_
      refine zev_of (fun _ kk => zr_iconst (v := (nI 0)) (pc' := 37) zi_30_36 rfl rfl kk) ?_
      refine zev_of (fun _ kk => zo_iald (j := 0) (v := nI (x (g 0 - 1))) (pc' := 38) zi_30_37 hb p5 (by omega) (by omega) (by omega) (p6.trans ht.1) rfl kk) ?_
      refine l_add38 w q rfl hn1 hx ?_ (fun i hi => ?_) (by omega) hU (by omega) _ _ _ _ _
      · have := hx (g 0 - 1) (by omega)
        omega
      · exact q.nb.mo i _ (by omega) (by omega)
    · replace h17 := zc_ne_f h17
      refine zev_of (fun _ kk => zr_iconst (v := (nI 0)) (pc' := 21) zi_30_20 rfl rfl kk) ?_
      refine zev_of (fun _ kk => zr_goto zi_30_21 kk) ?_
      have hn0 : g 0 = 0 := (nI_eq (by omega) (by omega)).mp h17
      exact l_add38 (t := 0) w q rfl (by omega) hx (by omega) (fun i hi => absurd hi (by omega)) (by omega) hU (by omega) _ _ _ _ _
  · replace h7 := zc_ne_f h7
    refine zev_of (fun _ kk => zr_iconst (v := (nI 1)) (pc' := 11) zi_30_10 rfl rfl kk) ?_
    refine zev_ret (zr_zreturn zi_30_11 rfl (by decide)) ?_
    exact ⟨_, zOW_mono W0 (Nat.le_succ _), rfl⟩
end


theorem zi_96_0 : zI 96 0 = some (.aload_n 0, []) := by decide +kernel
theorem zi_96_1 : zI 96 1 = some (.getfield 18, [7, 3, 132]) := by decide +kernel
theorem zi_96_4 : zI 96 4 = some (.iload_n 1, []) := by decide +kernel
theorem zi_96_5 : zI 96 5 = some (.aaload, []) := by decide +kernel
theorem zi_96_6 : zI 96 6 = some (.astore_n 3, []) := by decide +kernel
theorem zi_96_7 : zI 96 7 = some (.aload_n 3, []) := by decide +kernel
theorem zi_96_8 : zI 96 8 = some (.arraylength, []) := by decide +kernel
theorem zi_96_9 : zI 96 9 = some (.iconst 3, []) := by decide +kernel
theorem zi_96_10 : zI 96 10 = some (.isub, []) := by decide +kernel
theorem zi_96_11 : zI 96 11 = some (.istore 4, []) := by decide +kernel
theorem zi_96_13 : zI 96 13 = some (.iconst (-1), []) := by decide +kernel
theorem zi_96_14 : zI 96 14 = some (.istore 5, []) := by decide +kernel
theorem zi_96_16 : zI 96 16 = some (.aload_n 0, []) := by decide +kernel
theorem zi_96_17 : zI 96 17 = some (.getfield 25, [7, 6, 492]) := by decide +kernel
theorem zi_96_20 : zI 96 20 = some (.arraylength, []) := by decide +kernel
theorem zi_96_21 : zI 96 21 = some (.iconst 1, []) := by decide +kernel
theorem zi_96_22 : zI 96 22 = some (.isub, []) := by decide +kernel
theorem zi_96_23 : zI 96 23 = some (.istore 6, []) := by decide +kernel
theorem zi_96_25 : zI 96 25 = some (.iload 6, []) := by decide +kernel
theorem zi_96_27 : zI 96 27 = some (.ifCond .lt 57, [84]) := by decide +kernel
theorem zi_96_30 : zI 96 30 = some (.aload_n 3, []) := by decide +kernel
theorem zi_96_31 : zI 96 31 = some (.aload_n 0, []) := by decide +kernel
theorem zi_96_32 : zI 96 32 = some (.getfield 25, [7, 6, 492]) := by decide +kernel
theorem zi_96_35 : zI 96 35 = some (.iload 6, []) := by decide +kernel
theorem zi_96_37 : zI 96 37 = some (.aaload, []) := by decide +kernel
theorem zi_96_38 : zI 96 38 = some (.invokestatic 72, [22, 1, 2, 0, 499, 0, 130, 498, 0, 497]) := by decide +kernel
theorem zi_96_41 : zI 96 41 = some (.ifCond .lt 37, [78]) := by decide +kernel
theorem zi_96_44 : zI 96 44 = some (.iload 5, []) := by decide +kernel
theorem zi_96_46 : zI 96 46 = some (.ifCond .lt 28, [74]) := by decide +kernel
theorem zi_96_49 : zI 96 49 = some (.aload_n 3, []) := by decide +kernel
theorem zi_96_50 : zI 96 50 = some (.aload_n 0, []) := by decide +kernel
theorem zi_96_51 : zI 96 51 = some (.getfield 25, [7, 6, 492]) := by decide +kernel
theorem zi_96_54 : zI 96 54 = some (.iload 6, []) := by decide +kernel
theorem zi_96_56 : zI 96 56 = some (.aaload, []) := by decide +kernel
theorem zi_96_57 : zI 96 57 = some (.invokestatic 72, [22, 1, 2, 0, 499, 0, 130, 498, 0, 497]) := by decide +kernel
theorem zi_96_60 : zI 96 60 = some (.aload_n 3, []) := by decide +kernel
theorem zi_96_61 : zI 96 61 = some (.aload_n 0, []) := by decide +kernel
theorem zi_96_62 : zI 96 62 = some (.getfield 25, [7, 6, 492]) := by decide +kernel
theorem zi_96_65 : zI 96 65 = some (.iload 5, []) := by decide +kernel
theorem zi_96_67 : zI 96 67 = some (.aaload, []) := by decide +kernel
theorem zi_96_68 : zI 96 68 = some (.invokestatic 72, [22, 1, 2, 0, 499, 0, 130, 498, 0, 497]) := by decide +kernel
theorem zi_96_71 : zI 96 71 = some (.if_icmp .lt 7, [78]) := by decide +kernel
theorem zi_96_74 : zI 96 74 = some (.iload 6, []) := by decide +kernel
theorem zi_96_76 : zI 96 76 = some (.istore 5, []) := by decide +kernel
theorem zi_96_78 : zI 96 78 = some (.iinc 6 (-1), []) := by decide +kernel
theorem zi_96_81 : zI 96 81 = some (.goto (-56), [25]) := by decide +kernel
theorem zi_96_84 : zI 96 84 = some (.iload 5, []) := by decide +kernel
theorem zi_96_86 : zI 96 86 = some (.ifCond .lt 24, [110]) := by decide +kernel
theorem zi_96_89 : zI 96 89 = some (.bipush 100, []) := by decide +kernel
theorem zi_96_91 : zI 96 91 = some (.aload_n 3, []) := by decide +kernel
theorem zi_96_92 : zI 96 92 = some (.aload_n 0, []) := by decide +kernel
theorem zi_96_93 : zI 96 93 = some (.getfield 25, [7, 6, 492]) := by decide +kernel
theorem zi_96_96 : zI 96 96 = some (.iload 5, []) := by decide +kernel
theorem zi_96_98 : zI 96 98 = some (.aaload, []) := by decide +kernel
theorem zi_96_99 : zI 96 99 = some (.invokestatic 72, [22, 1, 2, 0, 499, 0, 130, 498, 0, 497]) := by decide +kernel
theorem zi_96_102 : zI 96 102 = some (.imul, []) := by decide +kernel
theorem zi_96_103 : zI 96 103 = some (.iload 4, []) := by decide +kernel
theorem zi_96_105 : zI 96 105 = some (.iload_n 2, []) := by decide +kernel
theorem zi_96_106 : zI 96 106 = some (.imul, []) := by decide +kernel
theorem zi_96_107 : zI 96 107 = some (.if_icmp .ge 52, [159]) := by decide +kernel
theorem zi_96_110 : zI 96 110 = some (.aload_n 0, []) := by decide +kernel
theorem zi_96_111 : zI 96 111 = some (.getfield 25, [7, 6, 492]) := by decide +kernel
theorem zi_96_114 : zI 96 114 = some (.arraylength, []) := by decide +kernel
theorem zi_96_115 : zI 96 115 = some (.bipush 20, []) := by decide +kernel
theorem zi_96_117 : zI 96 117 = some (.if_icmp .ne 5, [122]) := by decide +kernel
theorem zi_96_120 : zI 96 120 = some (.iconst (-1), []) := by decide +kernel
theorem zi_96_121 : zI 96 121 = some (.ireturn, []) := by decide +kernel
theorem zi_96_122 : zI 96 122 = some (.iload 4, []) := by decide +kernel
theorem zi_96_124 : zI 96 124 = some (.newarray .int, [0, 4]) := by decide +kernel
theorem zi_96_126 : zI 96 126 = some (.astore 6, []) := by decide +kernel
theorem zi_96_128 : zI 96 128 = some (.aload_n 3, []) := by decide +kernel
theorem zi_96_129 : zI 96 129 = some (.iconst 3, []) := by decide +kernel
theorem zi_96_130 : zI 96 130 = some (.aload 6, []) := by decide +kernel
theorem zi_96_132 : zI 96 132 = some (.iconst 0, []) := by decide +kernel
theorem zi_96_133 : zI 96 133 = some (.iload 4, []) := by decide +kernel
theorem zi_96_135 : zI 96 135 = some (.invokestatic 48, [0, 3, 258, 259, 260, 261]) := by decide +kernel
theorem zi_96_138 : zI 96 138 = some (.aload_n 0, []) := by decide +kernel
theorem zi_96_139 : zI 96 139 = some (.aload_n 0, []) := by decide +kernel
theorem zi_96_140 : zI 96 140 = some (.getfield 25, [7, 6, 492]) := by decide +kernel
theorem zi_96_143 : zI 96 143 = some (.aload 6, []) := by decide +kernel
theorem zi_96_145 : zI 96 145 = some (.invokestatic 65, [45, 1, 2, 0, 191, 0, 130, 190, 0, 189]) := by decide +kernel
theorem zi_96_148 : zI 96 148 = some (.putfield 25, [7, 6, 1, 492]) := by decide +kernel
theorem zi_96_151 : zI 96 151 = some (.aload_n 0, []) := by decide +kernel
theorem zi_96_152 : zI 96 152 = some (.getfield 25, [7, 6, 492]) := by decide +kernel
theorem zi_96_155 : zI 96 155 = some (.arraylength, []) := by decide +kernel
theorem zi_96_156 : zI 96 156 = some (.iconst 1, []) := by decide +kernel
theorem zi_96_157 : zI 96 157 = some (.isub, []) := by decide +kernel
theorem zi_96_158 : zI 96 158 = some (.ireturn, []) := by decide +kernel
theorem zi_96_159 : zI 96 159 = some (.iload 4, []) := by decide +kernel
theorem zi_96_161 : zI 96 161 = some (.newarray .int, [0, 4]) := by decide +kernel
theorem zi_96_163 : zI 96 163 = some (.astore 6, []) := by decide +kernel
theorem zi_96_165 : zI 96 165 = some (.iconst 0, []) := by decide +kernel
theorem zi_96_166 : zI 96 166 = some (.istore 7, []) := by decide +kernel
theorem zi_96_168 : zI 96 168 = some (.iload 7, []) := by decide +kernel
theorem zi_96_170 : zI 96 170 = some (.iload 4, []) := by decide +kernel
theorem zi_96_172 : zI 96 172 = some (.if_icmp .ge 43, [215]) := by decide +kernel
theorem zi_96_175 : zI 96 175 = some (.aload 6, []) := by decide +kernel
theorem zi_96_177 : zI 96 177 = some (.iload 7, []) := by decide +kernel
theorem zi_96_179 : zI 96 179 = some (.aload_n 0, []) := by decide +kernel
theorem zi_96_180 : zI 96 180 = some (.getfield 25, [7, 6, 492]) := by decide +kernel
theorem zi_96_183 : zI 96 183 = some (.iload 5, []) := by decide +kernel
theorem zi_96_185 : zI 96 185 = some (.aaload, []) := by decide +kernel
theorem zi_96_186 : zI 96 186 = some (.iload 7, []) := by decide +kernel
theorem zi_96_188 : zI 96 188 = some (.iaload, []) := by decide +kernel
theorem zi_96_189 : zI 96 189 = some (.aload_n 3, []) := by decide +kernel
theorem zi_96_190 : zI 96 190 = some (.iconst 3, []) := by decide +kernel
theorem zi_96_191 : zI 96 191 = some (.iload 7, []) := by decide +kernel
theorem zi_96_193 : zI 96 193 = some (.iadd, []) := by decide +kernel
theorem zi_96_194 : zI 96 194 = some (.iaload, []) := by decide +kernel
theorem zi_96_195 : zI 96 195 = some (.if_icmp .ne 12, [207]) := by decide +kernel
theorem zi_96_198 : zI 96 198 = some (.aload_n 3, []) := by decide +kernel
theorem zi_96_199 : zI 96 199 = some (.iconst 3, []) := by decide +kernel
theorem zi_96_200 : zI 96 200 = some (.iload 7, []) := by decide +kernel
theorem zi_96_202 : zI 96 202 = some (.iadd, []) := by decide +kernel
theorem zi_96_203 : zI 96 203 = some (.iaload, []) := by decide +kernel
theorem zi_96_204 : zI 96 204 = some (.goto 4, [208]) := by decide +kernel
theorem zi_96_207 : zI 96 207 = some (.iconst (-1), []) := by decide +kernel
theorem zi_96_208 : zI 96 208 = some (.iastore, []) := by decide +kernel
theorem zi_96_209 : zI 96 209 = some (.iinc 7 1, []) := by decide +kernel
theorem zi_96_212 : zI 96 212 = some (.goto (-44), [168]) := by decide +kernel
theorem zi_96_215 : zI 96 215 = some (.aload_n 0, []) := by decide +kernel
theorem zi_96_216 : zI 96 216 = some (.getfield 25, [7, 6, 492]) := by decide +kernel
theorem zi_96_219 : zI 96 219 = some (.iload 5, []) := by decide +kernel
theorem zi_96_221 : zI 96 221 = some (.aload 6, []) := by decide +kernel
theorem zi_96_223 : zI 96 223 = some (.aastore, []) := by decide +kernel
theorem zi_96_224 : zI 96 224 = some (.iload 5, []) := by decide +kernel
theorem zi_96_226 : zI 96 226 = some (.ireturn, []) := by decide +kernel
/-! the Owl: a line is learned -/
theorem zcho_no {A : Nat → Nat → Int32} {T l c s M : Nat} {r : Int32} (h : zcho A T l c s r) (hM : ∀ u, u < T → zak A l u ≤ M) (hn : M = 0 ∨ 100 * (M - 1) < c * s) : r = if T < 20 then nI T else -1 := by
  rcases h with ⟨t, h1, h2, h3, h4, _⟩ | ⟨_, h⟩
  · have := hM t h1
    omega
  · exact h
theorem zcho_yes {A : Nat → Nat → Int32} {T l c s M B : Nat} {r : Int32} (h : zcho A T l c s r) (hB : B < T) (hz : zak A l B = M) (h0 : 0 < M) (hM : ∀ u, u < T → zak A l u ≤ M) (hm : ∀ u, u < B → zak A l u < M) (hn : c * s ≤ 100 * (M - 1)) : r = nI B := by
  rcases h with ⟨t, h1, h2, h3, h4, h5, h6⟩ | ⟨h1, _⟩
  · have e : t = B := by
      rcases Nat.lt_trichotomy t B with w | w | w
      · have := hm t w
        have := h5 B hB
        omega
      · exact w
      · have := h6 B w
        have := hM t h1
        omega
    rw [h2, e]
  · rcases h1 B hB with w | w <;> omega
theorem nI_prd {M : Nat} (h : 0 < M) : nI M - 1 = nI (M - 1) := by
  obtain ⟨k, rfl⟩ : ∃ k, M = k + 1 := ⟨M - 1, by omega⟩
  rw [nI_pred, Nat.add_sub_cancel]
/-- the best of the templates from i on -/
def zobs (A : Nat → Nat → Int32) (l T i B M : Nat) : Prop := (∀ u, i ≤ u → u < T → zak A l u ≤ M) ∧ (M = 0 → B = 0) ∧ (0 < M → ∃ t, i ≤ t ∧ t < T ∧ B = t + 1 ∧ zak A l t = M ∧ ∀ u, i ≤ u → u < t → zak A l u < M)
section
variable {o : Nat} {h : zH} {A : Nat → Nat → Int32} {nl nm nT sh gp wi bk rl rt e u d : Nat} {F : Nat → Nat → Int32} {g : Nat → Nat}
theorem zOw.lik (w : zOw o h A nl nm nT sh gp wi bk rl rt e u d) {l c p : Nat} {f : Nat → Int32} (hc8 : c ≤ 8) (hc : A 3 l = nI c) (hr : h[p]? = some (zri (3 + c) f)) (hp : o + 76 ≤ p) (e4 : ∀ k, k < c → f (3 + k) = A 4 (l * 8 + k)) : ∃ tf, h[rt]? = some (zrr nT tf) ∧ ∀ t, t < nT → ∃ q, tf t = some q ∧ ztm o h A e t q ∧ zak A l t ≤ 9 ∧ zcalls zTB 22 [.ref p, .ref q] (nput (o + 1) F g h) (some (.int (nI (zak A l t) - 1)), nput (o + 1) F g h) := by
  have hb := w.hb
  obtain ⟨tf, t1, t2⟩ := w.te
  refine ⟨tf, t1, fun t ht => ?_⟩
  obtain ⟨q, q1, q2⟩ := t2 t ht
  obtain ⟨s1, s2, a, f2, s3, s4, s5, s6⟩ := q2
  exact ⟨q, q1, ⟨s1, s2, a, f2, s3, s4, s5, s6⟩, zak_le s5 s3, c_oalike l t c a p q f f2 (zo_at hb hr (by omega)) (zo_at hb s4 (by omega)) hc8 s3 hc s5 e4 s6⟩
/-- where the best template gets a hole wherever the line has another word -/
theorem l_ol168 {h1 : zH} {fk : Nat → Int32} (w : zOw o h A nl nm nT sh gp wi bk rl rt e u d) {l c p B j q : Nat} {f f2 : Nat → Int32} {A1 : Nat → Nat → Int32} {tf : Nat → Option Nat} {r : Int32} (hc8 : c ≤ 8) (hr : h[p]? = some (zri (3 + c) f)) (hp : o + 76 ≤ p) (e4 : ∀ k, k < c → f (3 + k) = A 4 (l * 8 + k)) (ht : h[rt]? = some (zrr nT tf)) (hn20 : nT ≤ 20) (hB : B < nT) (hq : tf B = some q) (hq2 : o + 76 ≤ q) (hrow : h[q]? = some (zri c f2)) (e8 : ∀ k, k < c → f2 k = A 8 (B * 8 + k)) (e7 : A 7 B = nI c) (hz : zwid A A1 l B 0 c) (hold : ∀ t, t < nT → ∃ p, tf t = some p ∧ ztm o h A e t p) (er : r = nI B) (hj : j ≤ c) (h1e : h1 = h ++ [zri c fk]) (hfk : ∀ k, k < j → fk k = if A 8 (B * 8 + k) = A 4 (l * 8 + k) then A 8 (B * 8 + k) else -1) (X1 X2 : Option Value) : zev 96 168 [some (.ref o), X1, X2, some (.ref p), some (.int (nI c)), some (.int (nI B)), some (.ref h.length), some (.int (nI j))] [] (nput (o + 1) F g h1) (fun q => ∃ h', (∃ rt' e', zOw o h' A1 nl nm nT sh gp wi bk rl rt' e' (u + 2) d) ∧ q = (some (.int r), nput (o + 1) F g h')) := by
  subst h1e
  have hb := w.hb
  have hb2 := w.hb2
  have hbu := w.bu
  obtain ⟨dr, hdr, hO⟩ := w.ob
  obtain ⟨rr1, rr2, rr3, rr4, rr5, rr6, rr7⟩ := w.rr
  have hll : (h ++ [zri c fk]).length = h.length + 1 := by rw [List.length_append]; rfl
  have hb : o + 1 + 71 ≤ (h ++ [zri c fk]).length := by omega
  have hpl := (List.getElem?_eq_some_iff.mp hr).1
  have hql := (List.getElem?_eq_some_iff.mp hrow).1
  have hap : ∀ {i : Nat} {e0 : zE}, h[i]? = some e0 → (h ++ [zri c fk])[i]? = some e0 := fun {i e0} q => by
    rw [List.getElem?_append_left (List.getElem?_eq_some_iff.mp q).1]
    exact q
  have hlast : (h ++ [zri c fk])[h.length]? = some (zri c fk) := by rw [List.getElem?_append_right (Nat.le_refl _), Nat.sub_self]; rfl
  have hO := hap hO
  refine zev_of (fun _ kk => zr_iload (pc' := 170) zi_96_168 rfl rfl kk) ?_
  refine zev_of (fun _ kk => zr_iload (pc' := 172) zi_96_170 rfl rfl kk) ?_
  refine zv_icmp (pc' := 175) zi_96_172 rfl (fun h172 => ?_) (fun h172 => ?_)
  · replace h172 := zc_ge_t (by omega) (by omega) h172
    refine zev_of (fun _ kk => zr_aload_n (pc' := 216) zi_96_215 rfl rfl kk) ?_
    refine zev_of (fun _ kk => zo_get (pc' := 219) zi_96_216 hb hO rfl rfl kk) ?_
    refine zev_of (fun _ kk => zr_iload (pc' := 221) zi_96_219 rfl rfl kk) ?_
    refine zev_of (fun _ kk => zr_aload (pc' := 223) zi_96_221 rfl rfl kk) ?_
    refine zev_of (fun _ kk => zo_aast (pc' := 224) zi_96_223 hb (hap ht) (by omega) hlast (by omega) hB (by omega) rfl kk) ?_
    refine zev_of (fun _ kk => zr_iload (pc' := 226) zi_96_224 rfl rfl kk) ?_
    refine zev_ret (zr_ireturn zi_96_226 rfl) ?_
    have ej : j = c := by omega
    subst ej
    rw [er]
    obtain ⟨z1, z2, z3⟩ := hz
    have hrtl : rt < (h ++ [zri j fk]).length := by omega
    have hag : ∀ i, i < h.length → i ≠ rt → ((h ++ [zri j fk]).set rt (zrr nT (va_up tf B (some h.length))))[i]? = h[i]? := fun i k1 k2 => by rw [List.getElem?_set_ne (Ne.symm k2), List.getElem?_append_left k1]
    have hlen : ((h ++ [zri j fk]).set rt (zrr nT (va_up tf B (some h.length)))).length = h.length + 1 := by rw [List.length_set, hll]
    refine ⟨_, ⟨rt, ((h ++ [zri j fk]).set rt (zrr nT (va_up tf B (some h.length)))).length, ?_⟩, rfl⟩
    refine zOw_te w (fun i k1 _ k3 => hag i (by omega) k3) ⟨dr, hdr, ?_⟩ (by omega) ⟨by omega, ?_⟩ (fun l' _ => ?_) ⟨rr2, Ne.symm rr3, by omega⟩ (List.getElem?_set_self hrtl) (fun t ht' => ?_)
    · rw [List.getElem?_set_ne (by omega)]
      exact hO
    · rw [zss_set _ rt _ (zrr nT (va_up tf B (some h.length))) (hap ht) rfl, zss_app]
      show zss h + j ≤ _
      omega
    · rw [z1 _ (by decide), z1 _ (by decide), z1 _ (by decide)]
      exact ⟨rfl, rfl, fun _ _ => rfl⟩
    · by_cases et : t = B
      · subst et
        refine ⟨h.length, va_up_self _ _ _, by omega, by omega, j, fk, hc8, ?_, ?_, fun k hk => ?_⟩
        · rw [List.getElem?_set_ne (by omega)]
          exact hlast
        · rw [z1 _ (by decide)]
          exact e7
        · rw [z2 k (Nat.zero_le _) hk]
          exact hfk k hk
      · obtain ⟨p', p1, p2⟩ := hold t ht'
        obtain ⟨n', f', p3⟩ := ztm_row p2
        refine ⟨p', by rw [va_up_ne _ _ et]; exact p1, ztm_mono p2 (hag p' (by have := p2.2.1; omega) (zne p3 ht)) (by omega) ⟨by rw [z1 _ (by decide)], fun k hk => z3 _ (by omega)⟩⟩
  · replace h172 := zc_ge_f (by omega) (by omega) h172
    refine zev_of (fun _ kk => zr_aload (pc' := 177) zi_96_175 rfl rfl kk) ?_
    refine zev_of (fun _ kk => zr_iload (pc' := 179) zi_96_177 rfl rfl kk) ?_
    refine zev_of (fun _ kk => zr_aload_n (pc' := 180) zi_96_179 rfl rfl kk) ?_
    refine zev_of (fun _ kk => zo_get (pc' := 183) zi_96_180 hb hO rfl rfl kk) ?_
    refine zev_of (fun _ kk => zr_iload (pc' := 185) zi_96_183 rfl rfl kk) ?_
    refine zev_of (fun _ kk => zo_aald (pc' := 186) zi_96_185 hb (hap ht) (by omega) hB (by omega) hq rfl kk) ?_
    refine zev_of (fun _ kk => zr_iload (pc' := 188) zi_96_186 rfl rfl kk) ?_
    refine zev_of (fun _ kk => zo_iald (v := A 8 (B * 8 + j)) (pc' := 189) zi_96_188 hb (hap hrow) (by omega) (by omega) (by omega) (e8 j (by omega)) rfl kk) ?_
    refine zev_of (fun _ kk => zr_aload_n (pc' := 190) zi_96_189 rfl rfl kk) ?_
    refine zev_of (fun _ kk => zr_iconst (v := (nI 3)) (pc' := 191) zi_96_190 rfl rfl kk) ?_
    refine zev_of (fun _ kk => zr_iload (pc' := 193) zi_96_191 rfl rfl kk) ?_
    refine zev_of (fun _ kk => zr_iadd (pc' := 194) zi_96_193 (by first | exact nI_add _ _ | rfl) rfl kk) ?_
    refine zev_of (fun _ kk => zo_iald (v := A 4 (l * 8 + j)) (pc' := 195) zi_96_194 hb (hap hr) (by omega) (by omega) (by omega) (e4 j (by omega)) rfl kk) ?_
    refine zv_icmp (pc' := 198) zi_96_195 rfl (fun h195 => ?_) (fun h195 => ?_)
    · replace h195 := zc_ne_t h195
      refine zev_of (fun _ kk => zr_iconst (v := (-1)) (pc' := 208) zi_96_207 rfl rfl kk) ?_
      refine zev_of (fun _ kk => zo_iast (pc' := 209) zi_96_208 hb hlast (by omega) (by omega) (by omega) rfl kk) ?_
      rw [set_last]
      refine zev_of (fun _ kk => zr_iinc (pc' := 212) zi_96_209 rfl (by first | exact n_inc _ | rfl) rfl rfl kk) ?_
      dsimp only [zst1, zst2, zkill, List.set, List.getElem?_cons_succ, List.getElem?_cons_zero]
      refine zev_of (fun _ kk => zr_goto zi_96_212 kk) ?_
      refine l_ol168 w hc8 hr hp e4 ht hn20 hB hq hq2 hrow e8 e7 hz hold er (j := j + 1) (by omega) rfl (fun k hk => ?_) X1 X2
      by_cases ek : k = j
      · subst ek
        rw [pk_us, if_neg h195]
      · rw [pk_un ek]
        exact hfk k (by omega)
    · replace h195 := zc_ne_f h195
      refine zev_of (fun _ kk => zr_aload_n (pc' := 199) zi_96_198 rfl rfl kk) ?_
      refine zev_of (fun _ kk => zr_iconst (v := (nI 3)) (pc' := 200) zi_96_199 rfl rfl kk) ?_
      refine zev_of (fun _ kk => zr_iload (pc' := 202) zi_96_200 rfl rfl kk) ?_
      refine zev_of (fun _ kk => zr_iadd (pc' := 203) zi_96_202 (by first | exact nI_add _ _ | rfl) rfl kk) ?_
      refine zev_of (fun _ kk => zo_iald (v := A 4 (l * 8 + j)) (pc' := 204) zi_96_203 hb (hap hr) (by omega) (by omega) (by omega) (e4 j (by omega)) rfl kk) ?_
      refine zev_of (fun _ kk => zr_goto zi_96_204 kk) ?_
      refine zev_of (fun _ kk => zo_iast (pc' := 209) zi_96_208 hb hlast (by omega) (by omega) (by omega) rfl kk) ?_
      rw [set_last]
      refine zev_of (fun _ kk => zr_iinc (pc' := 212) zi_96_209 rfl (by first | exact n_inc _ | rfl) rfl rfl kk) ?_
      dsimp only [zst1, zst2, zkill, List.set, List.getElem?_cons_succ, List.getElem?_cons_zero]
      refine zev_of (fun _ kk => zr_goto zi_96_212 kk) ?_
      refine l_ol168 w hc8 hr hp e4 ht hn20 hB hq hq2 hrow e8 e7 hz hold er (j := j + 1) (by omega) rfl (fun k hk => ?_) X1 X2
      by_cases ek : k = j
      · subst ek
        rw [pk_us, if_pos h195, h195]
      · rw [pk_un ek]
        exact hfk k (by omega)
termination_by c - j
/-- where a template of its own is made -/
theorem l_ol122 (w : zOw o h A nl nm nT sh gp wi bk rl rt e u d) {l c p : Nat} {f : Nat → Int32} {A1 : Nat → Nat → Int32} {r : Int32} (hc8 : c ≤ 8) (hr : h[p]? = some (zri (3 + c) f)) (hp : o + 76 ≤ p) (e4 : ∀ k, k < c → f (3 + k) = A 4 (l * 8 + k)) (hn20 : nT < 20) (hz : zcop (updR A 7 (upd (A 7) nT (nI c))) A1 l nT 0 c) (er : r = nI nT) (X1 X2 X6 X7 : Option Value) (bv : Int32) : zev 96 122 [some (.ref o), X1, X2, some (.ref p), some (.int (nI c)), some (.int bv), X6, X7] [] (nput (o + 1) F g h) (fun q => ∃ h', (∃ rt' e', zOw o h' A1 nl nm (nT + 1) sh gp wi bk rl rt' e' (u + 2) d) ∧ q = (some (.int r), nput (o + 1) F g h')) := by
  subst er
  have hb := w.hb
  have hb2 := w.hb2
  have ho := w.o1
  have hbu := w.bu
  obtain ⟨dr, hdr, hO⟩ := w.ob
  obtain ⟨rr1, rr2, rr3, rr4, rr5, rr6, rr7⟩ := w.rr
  obtain ⟨tf, t1, t2⟩ := w.te
  have hpl := (List.getElem?_eq_some_iff.mp hr).1
  have hll : ∀ a : zE, (h ++ [a]).length = h.length + 1 := fun a => by rw [List.length_append]; rfl
  have hbx : ∀ a : zE, o + 1 + 71 ≤ (h ++ [a]).length := fun a => by rw [hll]; omega
  have hap : ∀ (a : zE) {i : Nat} {e0 : zE}, h[i]? = some e0 → (h ++ [a])[i]? = some e0 := fun a {i e0} q => by
    rw [List.getElem?_append_left (List.getElem?_eq_some_iff.mp q).1]
    exact q
  have hlast : ∀ a : zE, (h ++ [a])[h.length]? = some a := fun a => by rw [List.getElem?_append_right (Nat.le_refl _), Nat.sub_self]; rfl
  obtain ⟨fn, hfn⟩ : ∃ fn, fn = va_cpy f (fun _ => (0 : Int32)) 3 0 c := ⟨_, rfl⟩
  have hfn2 : ∀ k, k < c → fn k = A 4 (l * 8 + k) := fun k hk => by
    rw [hfn]
    unfold va_cpy
    rw [if_pos (by omega), Nat.sub_zero]
    exact e4 k hk
  obtain ⟨G, hG1, hG2, hcw⟩ := c_with (H := nput (o + 1) F g (h ++ [zri c fn])) rt nT h.length c tf fn (by omega) (by omega) (by omega) (zo_at (hbx _) (hap _ t1) (by have := zne (hap (zri c fn) hr) (hap _ t1); omega)) (zo_at (hbx _) (hlast _) (by omega)) (fun i hi => by
    obtain ⟨p, p1, p2⟩ := t2 i hi
    obtain ⟨n, f, p3⟩ := ztm_row p2
    have := p2.1
    exact ⟨p, p1, by omega, n, f, zo_at (hbx _) (hap _ p3) (by omega)⟩)
  rw [nput_app (hbx _), nput_len (hbx _)] at hcw
  have hO2 : (h ++ [zri c fn] ++ [zrr (nT + 1) G])[o]? = some (zow o dr rl nm rt) := by
    rw [List.getElem?_append_left (by rw [hll]; omega)]
    exact hap _ hO
  have hb3 : o + 1 + 71 ≤ (h ++ [zri c fn] ++ [zrr (nT + 1) G]).length := by rw [List.length_append, hll]; omega
  have hlen : ((h ++ [zri c fn] ++ [zrr (nT + 1) G]).set o (zow o dr rl nm (h ++ [zri c fn]).length)).length = h.length + 2 := by rw [List.length_set, List.length_append, hll]; rfl
  have hnew : ((h ++ [zri c fn] ++ [zrr (nT + 1) G]).set o (zow o dr rl nm (h ++ [zri c fn]).length))[(h ++ [zri c fn]).length]? = some (zrr (nT + 1) G) := by
    rw [List.getElem?_set_ne (by rw [hll]; omega), List.getElem?_append_right (Nat.le_refl _), Nat.sub_self]
    rfl
  have hb4 : o + 1 + 71 ≤ ((h ++ [zri c fn] ++ [zrr (nT + 1) G]).set o (zow o dr rl nm (h ++ [zri c fn]).length)).length := by omega
  have hO4 : ((h ++ [zri c fn] ++ [zrr (nT + 1) G]).set o (zow o dr rl nm (h ++ [zri c fn]).length))[o]? = some (zow o dr rl nm (h ++ [zri c fn]).length) := List.getElem?_set_self (by rw [List.length_append, hll]; omega)
  refine zev_of (fun _ kk => zr_iload (pc' := 124) zi_96_122 rfl rfl kk) ?_
  refine zev_of (fun _ kk => zo_newa (pc' := 126) zi_96_124 hb (by omega) rfl kk) ?_
  refine zev_of (fun _ kk => zr_astore (pc' := 128) zi_96_126 (Nat.le_of_ble_eq_true rfl) rfl rfl kk) ?_
  dsimp only [zst1, zst2, zkill, List.set, List.getElem?_cons_succ, List.getElem?_cons_zero]
  refine zev_of (fun _ kk => zr_aload_n (pc' := 129) zi_96_128 rfl rfl kk) ?_
  refine zev_of (fun _ kk => zr_iconst (v := (nI 3)) (pc' := 130) zi_96_129 rfl rfl kk) ?_
  refine zev_of (fun _ kk => zr_aload (pc' := 132) zi_96_130 rfl rfl kk) ?_
  refine zev_of (fun _ kk => zr_iconst (v := (nI 0)) (pc' := 133) zi_96_132 rfl rfl kk) ?_
  refine zev_of (fun _ kk => zr_iload (pc' := 135) zi_96_133 rfl rfl kk) ?_
  refine zev_of (fun _ kk => zo_cpy (n := c) (sp := 3) (dp := 0) (pc' := 138) zi_96_135 (by omega) (by omega) (by omega) (by omega) (by omega) (by omega) (zo_at (hbx _) (hap _ hr) (by omega)) (zo_at (hbx _) (hlast _) (by omega)) (by omega) rfl rfl kk) ?_
  rw [nput_setO (hbx _) (by omega), set_last, ← hfn]
  have hb := hbx (zri c fn)
  have hO := hap (zri c fn) hO
  refine zev_of (fun _ kk => zr_aload_n (pc' := 139) zi_96_138 rfl rfl kk) ?_
  refine zev_of (fun _ kk => zr_aload_n (pc' := 140) zi_96_139 rfl rfl kk) ?_
  refine zev_of (fun _ kk => zo_get (pc' := 143) zi_96_140 hb hO rfl rfl kk) ?_
  refine zev_of (fun _ kk => zr_aload (pc' := 145) zi_96_143 rfl rfl kk) ?_
  refine zev_of (fun _ kk => zr_s2 (pc' := 148) zi_96_145 rfl hcw rfl kk) ?_
  refine zev_of (fun _ kk => zo_put (pc' := 151) zi_96_148 hb3 ho hO2 (Nat.le_of_ble_eq_true rfl) rfl rfl rfl kk) ?_
  have hb := hb4
  have hO := hO4
  refine zev_of (fun _ kk => zr_aload_n (pc' := 152) zi_96_151 rfl rfl kk) ?_
  refine zev_of (fun _ kk => zo_get (pc' := 155) zi_96_152 hb hO rfl rfl kk) ?_
  refine zev_of (fun _ kk => zo_alen (pc' := 156) zi_96_155 hb hnew (by rw [hll]; omega) rfl kk) ?_
  refine zev_of (fun _ kk => zr_iconst (v := (nI 1)) (pc' := 157) zi_96_156 rfl rfl kk) ?_
  refine zev_of (fun _ kk => zr_isub (pc' := 158) zi_96_157 (by first | exact pk_sub (by omega) | rfl) rfl kk) ?_
  rw [show nT + 1 - 1 = nT by omega]
  refine zev_ret (zr_ireturn zi_96_158 rfl) ?_
  obtain ⟨z1, z2, z3⟩ := hz
  have hag : ∀ i, i < h.length → i ≠ o → ((h ++ [zri c fn] ++ [zrr (nT + 1) G]).set o (zow o dr rl nm (h ++ [zri c fn]).length))[i]? = h[i]? := fun i k1 k2 => by rw [List.getElem?_set_ne (Ne.symm k2), List.getElem?_append_left (by rw [hll]; omega), List.getElem?_append_left k1]
  refine ⟨(h ++ [zri c fn] ++ [zrr (nT + 1) G]).set o (zow o dr rl nm (h ++ [zri c fn]).length), ⟨(h ++ [zri c fn]).length, ((h ++ [zri c fn] ++ [zrr (nT + 1) G]).set o (zow o dr rl nm (h ++ [zri c fn]).length)).length, ?_⟩, rfl⟩
  refine zOw_te w (fun i k1 k2 _ => hag i (by omega) k2) ⟨dr, hdr, hO4⟩ (by omega) ⟨by omega, ?_⟩ (fun l' _ => ?_) ⟨by rw [hll]; omega, by rw [hll]; omega, by rw [hlen, hll]; omega⟩ hnew (fun t ht' => ?_)
  · rw [zss_set _ o _ (zow o dr rl nm (h ++ [zri c fn]).length) hO2 rfl, zss_app, zss_app]
    show zss h + c + (nT + 1) ≤ _
    omega
  · rw [z1 _ (by decide), z1 _ (by decide), z1 _ (by decide)]
    exact ⟨rfl, rfl, fun _ _ => rfl⟩
  · by_cases et : t = nT
    · subst et
      refine ⟨h.length, hG2, by omega, by omega, c, fn, hc8, ?_, ?_, fun k hk => ?_⟩
      · rw [List.getElem?_set_ne (by omega), List.getElem?_append_left (by rw [hll]; omega)]
        exact hlast _
      · rw [z1 _ (by decide), updR_eq, pk_us]
      · rw [z2 k (Nat.zero_le _) hk]
        exact hfn2 k hk
    · obtain ⟨p', p1, p2⟩ := t2 t (by omega)
      refine ⟨p', by rw [hG1 t (by omega)]; exact p1, ztm_mono p2 (hag p' (by have := p2.2.1; omega) (by have := p2.1; omega)) (by omega) ⟨by rw [z1 _ (by decide), updR_eq, pk_un et], fun k hk => z3 _ (by omega)⟩⟩
theorem l_ol84 (w : zOw o h A nl nm nT sh gp wi bk rl rt e u d) {l c p B M : Nat} {f : Nat → Int32} {A1 : Nat → Nat → Int32} {gA gA1 : Nat → Nat} {r bv : Int32} (hc8 : c ≤ 8) (hc : A 3 l = nI c) (hsh : sh ≤ 100) (hr : h[p]? = some (zri (3 + c) f)) (hp : o + 76 ≤ p) (e4 : ∀ k, k < c → f (3 + k) = A 4 (l * 8 + k)) (hn20 : nT ≤ 20) (hg2 : gA 2 = nT) (ht : ztak A gA l c sh r A1 gA1) (hB : zobs A l nT 0 B M) (hbv : bv = nI B - 1) (X1 X6 X7 : Option Value) : zev 96 84 [some (.ref o), X1, some (.int (nI sh)), some (.ref p), some (.int (nI c)), some (.int bv), X6, X7] [] (nput (o + 1) F g h) (fun q => ∃ h', (∃ rt' e', zOw o h' A1 nl nm (gA1 2) sh gp wi bk rl rt' e' (u + 2) d) ∧ q = (some (.int r), nput (o + 1) F g h')) := by
  have hb := w.hb
  have ho := w.o1
  have hbu := w.bu
  obtain ⟨dr, hdr, hO⟩ := w.ob
  obtain ⟨rr1, rr2, rr3, rr4, rr5, rr6, rr7⟩ := w.rr
  obtain ⟨tf, t1, t2⟩ := w.lik (F := F) (g := g) hc8 hc hr hp e4
  have hrt : rt < o + 1 ∨ o + 1 + 71 ≤ rt := by omega
  have hcs : c * sh ≤ 800 := Nat.mul_le_mul hc8 hsh
  obtain ⟨hcho, hcase⟩ := ht
  rw [hg2] at hcho hcase
  have hno : (M = 0 ∨ 100 * (M - 1) < c * sh) → ∀ Y : Int32, zev 96 110 [some (.ref o), X1, some (.int (nI sh)), some (.ref p), some (.int (nI c)), some (.int Y), X6, X7] [] (nput (o + 1) F g h) (fun q => ∃ h', (∃ rt' e', zOw o h' A1 nl nm (gA1 2) sh gp wi bk rl rt' e' (u + 2) d) ∧ q = (some (.int r), nput (o + 1) F g h')) := by
    intro hM Y
    have er := zcho_no hcho (fun u hu => hB.1 u (Nat.zero_le _) hu) hM
    refine zev_of (fun _ kk => zr_aload_n (pc' := 111) zi_96_110 rfl rfl kk) ?_
    refine zev_of (fun _ kk => zo_get (pc' := 114) zi_96_111 hb hO rfl rfl kk) ?_
    refine zev_of (fun _ kk => zo_alen (pc' := 115) zi_96_114 hb t1 hrt rfl kk) ?_
    refine zev_of (fun _ kk => zr_bipush (v := (nI 20)) (pc' := 117) zi_96_115 rfl rfl kk) ?_
    refine zv_icmp (pc' := 120) zi_96_117 rfl (fun h117 => ?_) (fun h117 => ?_)
    · replace h117 := zc_ne_t h117
      have h20 : nT < 20 := Nat.lt_of_le_of_ne hn20 fun e => h117 (by rw [e])
      rw [if_pos h20] at er
      rcases hcase with ⟨k1, _⟩ | ⟨_, _, k3, k4⟩ | ⟨t, a, k1, k2, _⟩
      · exact absurd (er.symm.trans k1) (nI_neg (by omega))
      · rw [k4, updG_eq]
        exact l_ol122 w hc8 hr hp e4 h20 k3 er _ _ _ _ _
      · have := (nI_eq (by omega) (by omega)).mp (er.symm.trans k2)
        omega
    · replace h117 := zc_ne_f h117
      refine zev_of (fun _ kk => zr_iconst (v := (-1)) (pc' := 121) zi_96_120 rfl rfl kk) ?_
      refine zev_ret (zr_ireturn zi_96_121 rfl) ?_
      have h20 : nT = 20 := (nI_eq (by omega) (by omega)).mp h117
      rw [if_neg (by omega)] at er
      rcases hcase with ⟨_, k2, k3⟩ | ⟨k1, _⟩ | ⟨t, a, k1, k2, _⟩
      · subst k2
        subst k3
        rw [hg2, er]
        exact ⟨h, ⟨rt, e, zOw_fr w (fun _ _ _ => rfl) ⟨dr, hdr, hO⟩ (Nat.le_refl _) ⟨by omega, by omega⟩ zAg_rf⟩, rfl⟩
      · omega
      · exact absurd (k2.symm.trans er) (nI_neg (by omega))
  rcases Nat.eq_zero_or_pos M with hM | hM
  · have e0 : bv = -1 := by rw [hbv, hB.2.1 hM]; rfl
    subst e0
    refine zev_of (fun _ kk => zr_iload (pc' := 86) zi_96_84 rfl rfl kk) ?_
    refine zv_if (pc' := 89) zi_96_86 rfl (fun h86 => ?_) (fun h86 => ?_)
    · replace h86 := zx_lt_t h86
      exact hno (.inl hM) _
    · replace h86 := zx_lt_f h86
      exact absurd (by decide) h86
  · obtain ⟨B1, b1, b2, b3, b4, b5⟩ := hB.2.2 hM
    have e0 : bv = nI B1 := by rw [hbv, b3, nI_pred]
    subst e0
    obtain ⟨q, q1, q2, q3, q4⟩ := t2 B1 b2
    rw [b4, show nI M - 1 = nI (M - 1) from nI_prd hM] at q4
    rw [b4] at q3
    refine zev_of (fun _ kk => zr_iload (pc' := 86) zi_96_84 rfl rfl kk) ?_
    refine zv_if (pc' := 89) zi_96_86 rfl (fun h86 => ?_) (fun h86 => ?_)
    · replace h86 := zx_lt_t h86
      exact absurd h86 (nI_pos (by omega))
    · replace h86 := zx_lt_f h86
      refine zev_of (fun _ kk => zr_bipush (v := (nI 100)) (pc' := 91) zi_96_89 rfl rfl kk) ?_
      refine zev_of (fun _ kk => zr_aload_n (pc' := 92) zi_96_91 rfl rfl kk) ?_
      refine zev_of (fun _ kk => zr_aload_n (pc' := 93) zi_96_92 rfl rfl kk) ?_
      refine zev_of (fun _ kk => zo_get (pc' := 96) zi_96_93 hb hO rfl rfl kk) ?_
      refine zev_of (fun _ kk => zr_iload (pc' := 98) zi_96_96 rfl rfl kk) ?_
      refine zev_of (fun _ kk => zo_aald (pc' := 99) zi_96_98 hb t1 hrt b2 (by omega) q1 rfl kk) ?_
      refine zev_of (fun _ kk => zr_s2 (pc' := 102) zi_96_99 rfl q4 rfl kk) ?_
      refine zev_of (fun _ kk => zr_imul (pc' := 103) zi_96_102 (by first | exact pk_mul _ _ | rfl) rfl kk) ?_
      refine zev_of (fun _ kk => zr_iload (pc' := 105) zi_96_103 rfl rfl kk) ?_
      refine zev_of (fun _ kk => zr_iload_n (pc' := 106) zi_96_105 rfl rfl kk) ?_
      refine zev_of (fun _ kk => zr_imul (pc' := 107) zi_96_106 (by first | exact pk_mul _ _ | rfl) rfl kk) ?_
      refine zv_icmp (pc' := 110) zi_96_107 rfl (fun h107 => ?_) (fun h107 => ?_)
      · replace h107 := zc_ge_t (by omega) (by omega) h107
        have er := zcho_yes hcho b2 b4 hM (fun u hu => hB.1 u (Nat.zero_le _) hu) (fun u hu => b5 u (Nat.zero_le _) hu) h107
        obtain ⟨s1, s2, a, f2, s3, s4, s5, s6⟩ := q2
        have eca : c = a := by
          unfold zak at b4
          split at b4
          · rename_i k
            exact (nI_eq (by omega) (by omega)).mp (hc.symm.trans (k.trans s5))
          · omega
        subst eca
        rcases hcase with ⟨k1, _⟩ | ⟨k1, k2, _⟩ | ⟨t, a, k1, k2, k3, k4, k5, k6⟩
        · exact absurd (er.symm.trans k1) (nI_neg (by omega))
        · have := (nI_eq (by omega) (by omega)).mp (er.symm.trans k2)
          omega
        · have et := (nI_eq (by omega) (by omega)).mp (er.symm.trans k2)
          subst et
          have ea := (nI_eq (by omega) (by omega)).mp (s5.symm.trans k3)
          subst ea
          subst k6
          rw [hg2]
          refine zev_of (fun _ kk => zr_iload (pc' := 161) zi_96_159 rfl rfl kk) ?_
          refine zev_of (fun _ kk => zo_newa (pc' := 163) zi_96_161 hb (by omega) rfl kk) ?_
          refine zev_of (fun _ kk => zr_astore (pc' := 165) zi_96_163 (Nat.le_of_ble_eq_true rfl) rfl rfl kk) ?_
          dsimp only [zst1, zst2, zkill, List.set, List.getElem?_cons_succ, List.getElem?_cons_zero]
          refine zev_of (fun _ kk => zr_iconst (v := (nI 0)) (pc' := 166) zi_96_165 rfl rfl kk) ?_
          refine zev_of (fun _ kk => zr_istore (pc' := 168) zi_96_166 (Nat.le_of_ble_eq_true rfl) rfl rfl kk) ?_
          dsimp only [zst1, zst2, zkill, List.set, List.getElem?_cons_succ, List.getElem?_cons_zero]
          exact l_ol168 w (j := 0) hc8 hr hp e4 t1 hn20 b2 q1 s1 s4 s6 s5 k5 (fun t ht => by obtain ⟨p', m1, m2, _⟩ := t2 t ht; exact ⟨p', m1, m2⟩) er (Nat.zero_le _) rfl (fun k hk => absurd hk (Nat.not_lt_zero _)) _ _
      · replace h107 := zc_ge_f (by omega) (by omega) h107
        exact hno (.inr h107) _
theorem l_ol25 (w : zOw o h A nl nm nT sh gp wi bk rl rt e u d) {l c p B M i : Nat} {f : Nat → Int32} {A1 : Nat → Nat → Int32} {gA gA1 : Nat → Nat} {r bv iv : Int32} (hc8 : c ≤ 8) (hc : A 3 l = nI c) (hsh : sh ≤ 100) (hr : h[p]? = some (zri (3 + c) f)) (hp : o + 76 ≤ p) (e4 : ∀ k, k < c → f (3 + k) = A 4 (l * 8 + k)) (hn20 : nT ≤ 20) (hg2 : gA 2 = nT) (ht : ztak A gA l c sh r A1 gA1) (hi : i ≤ nT) (hB : zobs A l nT i B M) (hbv : bv = nI B - 1) (hiv : iv = nI i - 1) (X1 X7 : Option Value) : zev 96 25 [some (.ref o), X1, some (.int (nI sh)), some (.ref p), some (.int (nI c)), some (.int bv), some (.int iv), X7] [] (nput (o + 1) F g h) (fun q => ∃ h', (∃ rt' e', zOw o h' A1 nl nm (gA1 2) sh gp wi bk rl rt' e' (u + 2) d) ∧ q = (some (.int r), nput (o + 1) F g h')) := by
  have hb := w.hb
  obtain ⟨dr, hdr, hO⟩ := w.ob
  obtain ⟨rr1, rr2, rr3, rr4, rr5, rr6, rr7⟩ := w.rr
  obtain ⟨tf, t1, t2⟩ := w.lik (F := F) (g := g) hc8 hc hr hp e4
  have hrt : rt < o + 1 ∨ o + 1 + 71 ≤ rt := by omega
  cases i with
  | zero =>
    have e0 : iv = -1 := by rw [hiv]; rfl
    subst e0
    refine zev_of (fun _ kk => zr_iload (pc' := 27) zi_96_25 rfl rfl kk) ?_
    refine zv_if (pc' := 30) zi_96_27 rfl (fun h27 => ?_) (fun h27 => ?_)
    · replace h27 := zx_lt_t h27
      exact l_ol84 w hc8 hc hsh hr hp e4 hn20 hg2 ht hB hbv _ _ _
    · replace h27 := zx_lt_f h27
      exact absurd (by decide) h27
  | succ m =>
    have e0 : iv = nI m := by rw [hiv, nI_pred]
    subst e0
    obtain ⟨q, q1, q2, q3, q4⟩ := t2 m (by omega)
    obtain ⟨z, hz⟩ : ∃ z, z = zak A l m := ⟨_, rfl⟩
    rw [← hz] at q3 q4
    have keep : (z = 0 ∨ z < M) → zobs A l nT m B M := by
      intro hzM
      refine ⟨fun u h1 h2 => ?_, hB.2.1, fun hM => ?_⟩
      · rcases Nat.lt_or_ge m u with k | k
        · exact hB.1 u k h2
        · rw [show u = m by omega, ← hz]
          omega
      · obtain ⟨t, h1, h2, h3, h4, h5⟩ := hB.2.2 hM
        refine ⟨t, by omega, h2, h3, h4, fun u k1 k2 => ?_⟩
        rcases Nat.lt_or_ge m u with k | k
        · exact h5 u k k2
        · rw [show u = m by omega, ← hz]
          omega
    have best : 0 < z → M ≤ z → zobs A l nT m (m + 1) z := by
      intro h0 hMz
      refine ⟨fun u h1 h2 => ?_, fun k => by omega, fun _ => ⟨m, Nat.le_refl _, by omega, rfl, hz.symm, fun u k1 k2 => by omega⟩⟩
      rcases Nat.lt_or_ge m u with k | k
      · exact Nat.le_trans (hB.1 u k h2) hMz
      · rw [show u = m by omega, ← hz]
        exact Nat.le_refl _
    have neg : z = 0 → nI z - 1 = (-1 : Int32) := fun k => by rw [k]; rfl
    have pos : 0 < z → nI z - 1 = nI (z - 1) := fun k => nI_prd k
    rcases Nat.eq_zero_or_pos z with hz0 | hz0
    · rw [neg hz0] at q4
      refine zev_of (fun _ kk => zr_iload (pc' := 27) zi_96_25 rfl rfl kk) ?_
      refine zv_if (pc' := 30) zi_96_27 rfl (fun h27 => ?_) (fun h27 => ?_)
      · replace h27 := zx_lt_t h27
        exact absurd h27 (nI_pos (by omega))
      · replace h27 := zx_lt_f h27
        refine zev_of (fun _ kk => zr_aload_n (pc' := 31) zi_96_30 rfl rfl kk) ?_
        refine zev_of (fun _ kk => zr_aload_n (pc' := 32) zi_96_31 rfl rfl kk) ?_
        refine zev_of (fun _ kk => zo_get (pc' := 35) zi_96_32 hb hO rfl rfl kk) ?_
        refine zev_of (fun _ kk => zr_iload (pc' := 37) zi_96_35 rfl rfl kk) ?_
        refine zev_of (fun _ kk => zo_aald (pc' := 38) zi_96_37 hb t1 hrt (by omega) (by omega) q1 rfl kk) ?_
        refine zev_of (fun _ kk => zr_s2 (pc' := 41) zi_96_38 rfl q4 rfl kk) ?_
        refine zv_if (pc' := 44) zi_96_41 rfl (fun h41 => ?_) (fun h41 => ?_)
        · replace h41 := zx_lt_t h41
          refine zev_of (fun _ kk => zr_iinc (pc' := 81) zi_96_78 rfl (n_dec _) rfl rfl kk) ?_
          dsimp only [zst1, zst2, zkill, List.set, List.getElem?_cons_succ, List.getElem?_cons_zero]
          refine zev_of (fun _ kk => zr_goto zi_96_81 kk) ?_
          exact l_ol25 w hc8 hc hsh hr hp e4 hn20 hg2 ht (by omega) (keep (.inl hz0)) hbv rfl _ _
        · replace h41 := zx_lt_f h41
          exact absurd (by decide) h41
    rw [pos hz0] at q4
    rcases Nat.eq_zero_or_pos M with hM | hM
    · have e0 : bv = -1 := by rw [hbv, hB.2.1 hM]; rfl
      subst e0
      refine zev_of (fun _ kk => zr_iload (pc' := 27) zi_96_25 rfl rfl kk) ?_
      refine zv_if (pc' := 30) zi_96_27 rfl (fun h27 => ?_) (fun h27 => ?_)
      · replace h27 := zx_lt_t h27
        exact absurd h27 (nI_pos (by omega))
      · replace h27 := zx_lt_f h27
        refine zev_of (fun _ kk => zr_aload_n (pc' := 31) zi_96_30 rfl rfl kk) ?_
        refine zev_of (fun _ kk => zr_aload_n (pc' := 32) zi_96_31 rfl rfl kk) ?_
        refine zev_of (fun _ kk => zo_get (pc' := 35) zi_96_32 hb hO rfl rfl kk) ?_
        refine zev_of (fun _ kk => zr_iload (pc' := 37) zi_96_35 rfl rfl kk) ?_
        refine zev_of (fun _ kk => zo_aald (pc' := 38) zi_96_37 hb t1 hrt (by omega) (by omega) q1 rfl kk) ?_
        refine zev_of (fun _ kk => zr_s2 (pc' := 41) zi_96_38 rfl q4 rfl kk) ?_
        refine zv_if (pc' := 44) zi_96_41 rfl (fun h41 => ?_) (fun h41 => ?_)
        · replace h41 := zx_lt_t h41
          exact absurd h41 (nI_pos (by omega))
        · replace h41 := zx_lt_f h41
          refine zev_of (fun _ kk => zr_iload (pc' := 46) zi_96_44 rfl rfl kk) ?_
          refine zv_if (pc' := 49) zi_96_46 rfl (fun h46 => ?_) (fun h46 => ?_)
          · replace h46 := zx_lt_t h46
            refine zev_of (fun _ kk => zr_iload (pc' := 76) zi_96_74 rfl rfl kk) ?_
            refine zev_of (fun _ kk => zr_istore (pc' := 78) zi_96_76 (Nat.le_of_ble_eq_true rfl) rfl rfl kk) ?_
            dsimp only [zst1, zst2, zkill, List.set, List.getElem?_cons_succ, List.getElem?_cons_zero]
            refine zev_of (fun _ kk => zr_iinc (pc' := 81) zi_96_78 rfl (n_dec _) rfl rfl kk) ?_
            dsimp only [zst1, zst2, zkill, List.set, List.getElem?_cons_succ, List.getElem?_cons_zero]
            refine zev_of (fun _ kk => zr_goto zi_96_81 kk) ?_
            exact l_ol25 w hc8 hc hsh hr hp e4 hn20 hg2 ht (by omega) (best hz0 (by omega)) (nI_pred m).symm rfl _ _
          · replace h46 := zx_lt_f h46
            exact absurd (by decide) h46
    · obtain ⟨B1, b1, b2, b3, b4, b5⟩ := hB.2.2 hM
      have e0 : bv = nI B1 := by rw [hbv, b3, nI_pred]
      subst e0
      obtain ⟨qB, p1, p2, p3, p4⟩ := t2 B1 b2
      rw [b4] at p3 p4
      rw [show nI M - 1 = nI (M - 1) from nI_prd hM] at p4
      refine zev_of (fun _ kk => zr_iload (pc' := 27) zi_96_25 rfl rfl kk) ?_
      refine zv_if (pc' := 30) zi_96_27 rfl (fun h27 => ?_) (fun h27 => ?_)
      · replace h27 := zx_lt_t h27
        exact absurd h27 (nI_pos (by omega))
      · replace h27 := zx_lt_f h27
        refine zev_of (fun _ kk => zr_aload_n (pc' := 31) zi_96_30 rfl rfl kk) ?_
        refine zev_of (fun _ kk => zr_aload_n (pc' := 32) zi_96_31 rfl rfl kk) ?_
        refine zev_of (fun _ kk => zo_get (pc' := 35) zi_96_32 hb hO rfl rfl kk) ?_
        refine zev_of (fun _ kk => zr_iload (pc' := 37) zi_96_35 rfl rfl kk) ?_
        refine zev_of (fun _ kk => zo_aald (pc' := 38) zi_96_37 hb t1 hrt (by omega) (by omega) q1 rfl kk) ?_
        refine zev_of (fun _ kk => zr_s2 (pc' := 41) zi_96_38 rfl q4 rfl kk) ?_
        refine zv_if (pc' := 44) zi_96_41 rfl (fun h41 => ?_) (fun h41 => ?_)
        · replace h41 := zx_lt_t h41
          exact absurd h41 (nI_pos (by omega))
        · replace h41 := zx_lt_f h41
          refine zev_of (fun _ kk => zr_iload (pc' := 46) zi_96_44 rfl rfl kk) ?_
          refine zv_if (pc' := 49) zi_96_46 rfl (fun h46 => ?_) (fun h46 => ?_)
          · replace h46 := zx_lt_t h46
            exact absurd h46 (nI_pos (by omega))
          · replace h46 := zx_lt_f h46
            refine zev_of (fun _ kk => zr_aload_n (pc' := 50) zi_96_49 rfl rfl kk) ?_
            refine zev_of (fun _ kk => zr_aload_n (pc' := 51) zi_96_50 rfl rfl kk) ?_
            refine zev_of (fun _ kk => zo_get (pc' := 54) zi_96_51 hb hO rfl rfl kk) ?_
            refine zev_of (fun _ kk => zr_iload (pc' := 56) zi_96_54 rfl rfl kk) ?_
            refine zev_of (fun _ kk => zo_aald (pc' := 57) zi_96_56 hb t1 hrt (by omega) (by omega) q1 rfl kk) ?_
            refine zev_of (fun _ kk => zr_s2 (pc' := 60) zi_96_57 rfl q4 rfl kk) ?_
            refine zev_of (fun _ kk => zr_aload_n (pc' := 61) zi_96_60 rfl rfl kk) ?_
            refine zev_of (fun _ kk => zr_aload_n (pc' := 62) zi_96_61 rfl rfl kk) ?_
            refine zev_of (fun _ kk => zo_get (pc' := 65) zi_96_62 hb hO rfl rfl kk) ?_
            refine zev_of (fun _ kk => zr_iload (pc' := 67) zi_96_65 rfl rfl kk) ?_
            refine zev_of (fun _ kk => zo_aald (pc' := 68) zi_96_67 hb t1 hrt b2 (by omega) p1 rfl kk) ?_
            refine zev_of (fun _ kk => zr_s2 (pc' := 71) zi_96_68 rfl p4 rfl kk) ?_
            refine zv_icmp (pc' := 74) zi_96_71 rfl (fun h71 => ?_) (fun h71 => ?_)
            · replace h71 := zc_lt_t (by omega) (by omega) h71
              refine zev_of (fun _ kk => zr_iinc (pc' := 81) zi_96_78 rfl (n_dec _) rfl rfl kk) ?_
              dsimp only [zst1, zst2, zkill, List.set, List.getElem?_cons_succ, List.getElem?_cons_zero]
              refine zev_of (fun _ kk => zr_goto zi_96_81 kk) ?_
              exact l_ol25 w hc8 hc hsh hr hp e4 hn20 hg2 ht (by omega) (keep (.inr (by omega))) hbv rfl _ _
            · replace h71 := zc_lt_f (by omega) (by omega) h71
              refine zev_of (fun _ kk => zr_iload (pc' := 76) zi_96_74 rfl rfl kk) ?_
              refine zev_of (fun _ kk => zr_istore (pc' := 78) zi_96_76 (Nat.le_of_ble_eq_true rfl) rfl rfl kk) ?_
              dsimp only [zst1, zst2, zkill, List.set, List.getElem?_cons_succ, List.getElem?_cons_zero]
              refine zev_of (fun _ kk => zr_iinc (pc' := 81) zi_96_78 rfl (n_dec _) rfl rfl kk) ?_
              dsimp only [zst1, zst2, zkill, List.set, List.getElem?_cons_succ, List.getElem?_cons_zero]
              refine zev_of (fun _ kk => zr_goto zi_96_81 kk) ?_
              exact l_ol25 w hc8 hc hsh hr hp e4 hn20 hg2 ht (by omega) (best hz0 (by omega)) (nI_pred m).symm rfl _ _
termination_by i
theorem c_olearn (w : zOw o h A nl nm nT sh gp wi bk rl rt e u d) {l c : Nat} {A1 : Nat → Nat → Int32} {gA gA1 : Nat → Nat} {r : Int32} (hl : l < nl) (hn : nl ≤ 70) (hc8 : c ≤ 8) (hc : A 3 l = nI c) (hsh : sh ≤ 100) (hn20 : nT ≤ 20) (hg2 : gA 2 = nT) (ht : ztak A gA l c sh r A1 gA1) : ∃ h', (∃ rt' e', zOw o h' A1 nl nm (gA1 2) sh gp wi bk rl rt' e' (u + 2) d) ∧ zcalls zTB 96 [.ref o, .int (nI l), .int (nI sh)] (nput (o + 1) F g h) (some (.int r), nput (o + 1) F g h') := by
  have hb := w.hb
  obtain ⟨dr, hdr, hO⟩ := w.ob
  obtain ⟨rr1, rr2, rr3, rr4, rr5, rr6, rr7⟩ := w.rr
  obtain ⟨lf, l1, l2⟩ := w.li
  obtain ⟨p, p1, p2, p3, c', f, p4, p5, p6, p7, p8⟩ := l2 l hl
  obtain ⟨tf, t1, t2⟩ := w.te
  have ec : c = c' := (nI_eq (by omega) (by omega)).mp (hc.symm.trans p7)
  subst ec
  have hz : ∃ q, (fun q : zR => ∃ h', (∃ rt' e', zOw o h' A1 nl nm (gA1 2) sh gp wi bk rl rt' e' (u + 2) d) ∧ q = (some (.int r), nput (o + 1) F g h')) q ∧ zcalls zTB 96 [.ref o, .int (nI l), .int (nI sh)] (nput (o + 1) F g h) q := by
    refine zev_calls (Nat.le_of_ble_eq_true rfl) ?_
    show zev 96 0 [some (.ref o), some (.int (nI l)), some (.int (nI sh)), none, none, none, none, none] [] _ _
    refine zev_of (fun _ kk => zr_aload_n (pc' := 1) zi_96_0 rfl rfl kk) ?_
    refine zev_of (fun _ kk => zo_get (pc' := 4) zi_96_1 hb hO rfl rfl kk) ?_
    refine zev_of (fun _ kk => zr_iload_n (pc' := 5) zi_96_4 rfl rfl kk) ?_
    refine zev_of (fun _ kk => zo_aald (pc' := 6) zi_96_5 hb l1 (by omega) hl (by omega) p1 rfl kk) ?_
    refine zev_of (fun _ kk => zr_astore_n (pc' := 7) zi_96_6 (Nat.le_of_ble_eq_true rfl) rfl rfl kk) ?_
    dsimp only [zst1, zst2, zkill, List.set, List.getElem?_cons_succ, List.getElem?_cons_zero]
    refine zev_of (fun _ kk => zr_aload_n (pc' := 8) zi_96_7 rfl rfl kk) ?_
    refine zev_of (fun _ kk => zo_alen (pc' := 9) zi_96_8 hb p5 (by omega) rfl kk) ?_
    refine zev_of (fun _ kk => zr_iconst (v := (nI 3)) (pc' := 10) zi_96_9 rfl rfl kk) ?_
    refine zev_of (fun _ kk => zr_isub (pc' := 11) zi_96_10 (by first | exact pk_sub (by omega) | rfl) rfl kk) ?_
    rw [show 3 + c - 3 = c by omega]
    refine zev_of (fun _ kk => zr_istore (pc' := 13) zi_96_11 (Nat.le_of_ble_eq_true rfl) rfl rfl kk) ?_
    dsimp only [zst1, zst2, zkill, List.set, List.getElem?_cons_succ, List.getElem?_cons_zero]
    refine zev_of (fun _ kk => zr_iconst (v := (-1)) (pc' := 14) zi_96_13 rfl rfl kk) ?_
    refine zev_of (fun _ kk => zr_istore (pc' := 16) zi_96_14 (Nat.le_of_ble_eq_true rfl) rfl rfl kk) ?_
    dsimp only [zst1, zst2, zkill, List.set, List.getElem?_cons_succ, List.getElem?_cons_zero]
    refine zev_of (fun _ kk => zr_aload_n (pc' := 17) zi_96_16 rfl rfl kk) ?_
    refine zev_of (fun _ kk => zo_get (pc' := 20) zi_96_17 hb hO rfl rfl kk) ?_
    refine zev_of (fun _ kk => zo_alen (pc' := 21) zi_96_20 hb t1 (by omega) rfl kk) ?_
    refine zev_of (fun _ kk => zr_iconst (v := (nI 1)) (pc' := 22) zi_96_21 rfl rfl kk) ?_
    refine zev_of (fun _ kk => zr_isub (pc' := 23) zi_96_22 rfl rfl kk) ?_
    refine zev_of (fun _ kk => zr_istore (pc' := 25) zi_96_23 (Nat.le_of_ble_eq_true rfl) rfl rfl kk) ?_
    dsimp only [zst1, zst2, zkill, List.set, List.getElem?_cons_succ, List.getElem?_cons_zero]
    exact l_ol25 w (B := 0) (M := 0) (i := nT) hc8 hc hsh p5 p2 p8 hn20 hg2 ht (Nat.le_refl _) ⟨fun u h1 h2 => absurd h2 (by omega), fun _ => rfl, fun k => absurd k (by omega)⟩ rfl rfl _ _
  obtain ⟨_, ⟨h', h1, rfl⟩, hcl⟩ := hz
  exact ⟨h', h1, hcl⟩
end


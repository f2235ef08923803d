theorem zi_85_0 : zI 85 0 = some (.iload_n 1, []) := by decide +kernel
theorem zi_85_1 : zI 85 1 = some (.iconst 1, []) := by decide +kernel
theorem zi_85_2 : zI 85 2 = some (.if_icmp .lt 9, [11]) := by decide +kernel
theorem zi_85_5 : zI 85 5 = some (.iload_n 1, []) := by decide +kernel
theorem zi_85_6 : zI 85 6 = some (.bipush 70, []) := by decide +kernel
theorem zi_85_8 : zI 85 8 = some (.if_icmp .le 13, [21]) := by decide +kernel
theorem zi_85_21 : zI 85 21 = some (.aload_n 0, []) := by decide +kernel
theorem zi_85_22 : zI 85 22 = some (.getfield 12, [6, 0, 13]) := by decide +kernel
theorem zi_85_25 : zI 85 25 = some (.getfield 71, [0, 7, 108]) := by decide +kernel
theorem zi_85_28 : zI 85 28 = some (.aload_n 0, []) := by decide +kernel
theorem zi_85_29 : zI 85 29 = some (.getfield 12, [6, 0, 13]) := by decide +kernel
theorem zi_85_32 : zI 85 32 = some (.getfield 101, [0, 8, 109]) := by decide +kernel
theorem zi_85_35 : zI 85 35 = some (.isub, []) := by decide +kernel
theorem zi_85_36 : zI 85 36 = some (.istore_n 2, []) := by decide +kernel
theorem zi_85_37 : zI 85 37 = some (.iload_n 1, []) := by decide +kernel
theorem zi_85_38 : zI 85 38 = some (.iload_n 2, []) := by decide +kernel
theorem zi_85_39 : zI 85 39 = some (.if_icmp .ge 7, [46]) := by decide +kernel
theorem zi_85_42 : zI 85 42 = some (.iload_n 1, []) := by decide +kernel
theorem zi_85_43 : zI 85 43 = some (.goto 4, [47]) := by decide +kernel
theorem zi_85_46 : zI 85 46 = some (.iload_n 2, []) := by decide +kernel
theorem zi_85_47 : zI 85 47 = some (.istore_n 3, []) := by decide +kernel
theorem zi_85_48 : zI 85 48 = some (.iconst 0, []) := by decide +kernel
theorem zi_85_49 : zI 85 49 = some (.istore 4, []) := by decide +kernel
theorem zi_85_51 : zI 85 51 = some (.iload 4, []) := by decide +kernel
theorem zi_85_53 : zI 85 53 = some (.iload_n 3, []) := by decide +kernel
theorem zi_85_54 : zI 85 54 = some (.if_icmp .ge 62, [116]) := by decide +kernel
theorem zi_85_57 : zI 85 57 = some (.aload_n 0, []) := by decide +kernel
theorem zi_85_58 : zI 85 58 = some (.getfield 12, [6, 0, 13]) := by decide +kernel
theorem zi_85_61 : zI 85 61 = some (.getfield 101, [0, 8, 109]) := by decide +kernel
theorem zi_85_64 : zI 85 64 = some (.istore 5, []) := by decide +kernel
theorem zi_85_66 : zI 85 66 = some (.aload_n 0, []) := by decide +kernel
theorem zi_85_67 : zI 85 67 = some (.getfield 12, [6, 0, 13]) := by decide +kernel
theorem zi_85_70 : zI 85 70 = some (.getfield 112, [0, 5, 23]) := by decide +kernel
theorem zi_85_73 : zI 85 73 = some (.iload 5, []) := by decide +kernel
theorem zi_85_75 : zI 85 75 = some (.aload_n 0, []) := by decide +kernel
theorem zi_85_76 : zI 85 76 = some (.getfield 19, [6, 1, 80]) := by decide +kernel
theorem zi_85_79 : zI 85 79 = some (.aload_n 0, []) := by decide +kernel
theorem zi_85_80 : zI 85 80 = some (.getfield 12, [6, 0, 13]) := by decide +kernel
theorem zi_85_83 : zI 85 83 = some (.iload 5, []) := by decide +kernel
theorem zi_85_85 : zI 85 85 = some (.aload_n 0, []) := by decide +kernel
theorem zi_85_86 : zI 85 86 = some (.getfield 52, [6, 6, 27]) := by decide +kernel
theorem zi_85_89 : zI 85 89 = some (.iconst 0, []) := by decide +kernel
theorem zi_85_90 : zI 85 90 = some (.invokevirtual 83, [0, 0, 1, 1, 17, 18, 19, 16, 0, 15]) := by decide +kernel
theorem zi_85_93 : zI 85 93 = some (.invokevirtual 115, [79, 0, 3, 5, 448, 449, 86, 447, 0, 446]) := by decide +kernel
theorem zi_85_96 : zI 85 96 = some (.invokevirtual 56, [1, 0, 2, 1, 282, 283, 19, 281, 0, 433]) := by decide +kernel
theorem zi_85_99 : zI 85 99 = some (.aload_n 0, []) := by decide +kernel
theorem zi_85_100 : zI 85 100 = some (.getfield 12, [6, 0, 13]) := by decide +kernel
theorem zi_85_103 : zI 85 103 = some (.iload 5, []) := by decide +kernel
theorem zi_85_105 : zI 85 105 = some (.iconst 1, []) := by decide +kernel
theorem zi_85_106 : zI 85 106 = some (.iadd, []) := by decide +kernel
theorem zi_85_107 : zI 85 107 = some (.putfield 101, [0, 8, 0, 109]) := by decide +kernel
theorem zi_85_110 : zI 85 110 = some (.iinc 4 1, []) := by decide +kernel
theorem zi_85_113 : zI 85 113 = some (.goto (-62), [51]) := by decide +kernel
theorem zi_85_116 : zI 85 116 = some (.aload_n 0, []) := by decide +kernel
theorem zi_85_117 : zI 85 117 = some (.invokevirtual 93, [29, 0, 0, 6, 440, 441, 9, 439, 0, 438]) := by decide +kernel
theorem zi_85_120 : zI 85 120 = some (.iload_n 3, []) := by decide +kernel
theorem zi_85_121 : zI 85 121 = some (.ireturn, []) := by decide +kernel
/-! what is called: learn -/
section
variable {b : Nat} {h : zH}
theorem zNb_take {F F1 : Nat → Nat → Int32} {g g1 : Nat → Nat} {x : Nat → Nat} {sh gp wi bk c : Nat} {r : Int32} (q : zNb F g x sh gp wi bk) (hm : g 1 < g 0) (hc : F 3 (g 1) = nI c) (hc8 : c ≤ 8) (w : ztak F g (g 1) c sh r F1 g1) : zNb (updR F1 5 (upd (F1 5) (g 1) r)) (updG g1 1 (g 1 + 1)) x sh gp wi bk := by
  have hn := q.n70
  have hT := q.t20
  obtain ⟨wc, w⟩ := w
  have key : ∀ (F1 : Nat → Nat → Int32) (T' : Nat), T' ≤ 20 → g 2 ≤ T' → (∀ r, r ≠ 7 → r ≠ 8 → F1 r = F r) → (∀ t, t < T' → ∃ a, a ≤ 8 ∧ F1 7 t = nI a) → (∀ t, t < g 2 → F1 7 t = F 7 t) → (∀ t a, t < g 2 → F 7 t = nI a → a ≤ 8 → ∀ p, p < a → F1 8 (t * 8 + p) = -1 ∨ F1 8 (t * 8 + p) = F 8 (t * 8 + p)) → (r = -1 ∨ ∃ t, t < T' ∧ r = nI t ∧ F1 7 t = nI c ∧ ∀ p, p < c → F1 8 (t * 8 + p) = -1 ∨ F1 8 (t * 8 + p) = F 4 (g 1 * 8 + p)) → ∀ g1 : Nat → Nat, g1 0 = g 0 → g1 2 = T' → zNb (updR F1 5 (upd (F1 5) (g 1) r)) (updG g1 1 (g 1 + 1)) x sh gp wi bk := by
    intro F1 T' hT' hTT ho hts hse hsl hr g1 v0 v2
    have e5 : ∀ i, updR F1 5 (upd (F1 5) (g 1) r) 5 i = upd (F 5) (g 1) r i := by
      intro i
      rw [updR_eq, ho 5 (by decide) (by decide)]
    have e1 : updG g1 1 (g 1 + 1) 1 = g 1 + 1 := rfl
    have e0 : updG g1 1 (g 1 + 1) 0 = g 0 := v0
    have e2 : updG g1 1 (g 1 + 1) 2 = T' := v2
    have rr : ∀ k, k ≠ 5 → updR F1 5 (upd (F1 5) (g 1) r) k = F1 k := fun k hk => updR_ne hk
    unfold zNb
    rw [e0, e1, e2, rr 0 (by decide), rr 3 (by decide), rr 4 (by decide), rr 7 (by decide), rr 8 (by decide), rr 31 (by decide), ho 0 (by decide) (by decide), ho 3 (by decide) (by decide), ho 4 (by decide) (by decide), ho 31 (by decide) (by decide)]
    refine ⟨hn, hm, hT', q.tm, q.mo, q.sz, q.wd, hts, fun i h1 h2 => ?_, fun i hi => ?_, q.s0, q.s1, q.s2, q.s3⟩
    · rw [e5, pk_un (by omega)]
      exact q.o1 i (by omega) h2
    · rw [e5]
      rcases Nat.lt_or_ge i (g 1) with k | k
      · rw [pk_un (by omega)]
        rcases q.o2 i k with e | ⟨t, a, h1, h2, h3, h4, h5, h6⟩
        · exact .inl e
        · refine .inr ⟨t, a, by omega, h2, h3, h4, (hse t h1).trans h5, fun p hp => ?_⟩
          rcases hsl t a h1 h5 h3 p hp with l | l
          · exact .inl l
          · rw [l]
            exact h6 p hp
      · rw [show i = g 1 by omega, pk_us]
        rcases hr with e | ⟨t, h1, h2, h3, h4⟩
        · exact .inl e
        · exact .inr ⟨t, c, h1, h2, hc8, hc, h3, h4⟩
  rcases w with ⟨rfl, rfl, rfl⟩ | ⟨hT20, rfl, ⟨c1, c2, c3⟩, rfl⟩ | ⟨t, a, ht, rfl, hs, ha, ⟨c1, c2, c3⟩, rfl⟩
  · exact key F1 _ hT (Nat.le_refl _) (fun _ _ _ => rfl) q.ts (fun _ _ => rfl) (fun _ _ _ _ _ _ _ => .inr rfl) (.inl rfl) _ rfl rfl
  · have e7 : F1 7 = upd (F 7) (g 2) (nI c) := c1 _ (by decide)
    refine key F1 (g 2 + 1) hT20 (Nat.le_succ _) (fun k h1 h2 => (c1 k h2).trans (updR_ne h1)) (fun t ht => ?_) (fun t ht => ?_) (fun t a ht hs ha p hp => .inr (c3 _ (by omega))) (.inr ⟨g 2, by omega, rfl, ?_, fun p hp => .inr (c2 p (Nat.zero_le _) hp)⟩) _ rfl rfl
    · rw [e7]
      by_cases k : t = g 2
      · rw [k, pk_us]
        exact ⟨c, hc8, rfl⟩
      · rw [pk_un k]
        exact q.ts t (by omega)
    · rw [e7, pk_un (by omega)]
    · rw [e7, pk_us]
  · have hca : c = a := by
      rcases wc with ⟨u, h1, h2, h3, _⟩ | ⟨_, h2⟩
      · have e := (nI_eq (by omega) (by omega)).mp h2
        subst e
        unfold zak at h3
        split at h3
        · rename_i k
          exact (nI_eq (by omega) (by omega)).mp (hc.symm.trans (k.trans hs))
        · omega
      · split at h2
        · have := (nI_eq (by omega) (by omega)).mp h2
          omega
        · exact absurd h2 (nI_neg (by omega))
    subst hca
    refine key F1 _ hT (Nat.le_refl _) (fun k h1 h2 => c1 k h2) (fun t ht => by rw [c1 _ (by decide)]; exact q.ts t ht) (fun t ht => by rw [c1 _ (by decide)]) (fun u a' hu hs' ha' p hp => ?_) (.inr ⟨t, ht, rfl, by rw [c1 _ (by decide)]; exact hs, fun p hp => ?_⟩) _ rfl rfl
    · by_cases k : u = t
      · subst k
        have e := (nI_eq (by omega) (by omega)).mp (hs'.symm.trans hs)
        rw [c2 p (Nat.zero_le _) (by omega)]
        split
        · exact .inr rfl
        · exact .inl rfl
      · exact .inr (c3 _ (by omega))
    · rw [c2 p (Nat.zero_le _) hp]
      split
      · rename_i k
        exact .inr k
      · exact .inl rfl
/-- k lines are learned, one after the other -/
def zlrn (sh : Nat) : Nat → (Nat → Nat → Int32) → (Nat → Nat) → (Nat → Nat → Int32) → (Nat → Nat) → Prop
  | 0, F, g, F', g' => F' = F ∧ g' = g
  | k + 1, F, g, F', g' => ∃ r c F1 g1, c ≤ 8 ∧ F 3 (g 1) = nI c ∧ ztak F g (g 1) c sh r F1 g1 ∧ zlrn sh k (updR F1 5 (upd (F1 5) (g 1) r)) (updG g1 1 (g 1 + 1)) F' g'
theorem ztak_g {F F1 : Nat → Nat → Int32} {g g1 : Nat → Nat} {l c s : Nat} {r : Int32} (w : ztak F g l c s r F1 g1) (k : Nat) (hk : k ≠ 2) : g1 k = g k := by
  rcases w.2 with ⟨_, _, e⟩ | ⟨_, _, _, e⟩ | ⟨t, a, _, _, _, _, _, e⟩
  · rw [e]
  · rw [e, updG_ne hk]
  · rw [e]
theorem l_learn (hb : b + 71 ≤ h.length) {Q : zR → Prop} (x : Nat → Nat) (sh gp wi bk tk : Nat) (A B : Value) (htk : tk ≤ 70) : ∀ j i F g, i + j = tk → zNb F g x sh gp wi bk → g 1 + j ≤ g 0 → (∀ F' g' X, zlrn sh j F g F' g' → zNb F' g' x sh gp wi bk → zev 85 116 [some (.ref b), some A, some B, some (.int (nI tk)), some (.int (nI tk)), X] [] (nput b F' g' h) Q) → ∀ X, zev 85 51 [some (.ref b), some A, some B, some (.int (nI tk)), some (.int (nI i)), X] [] (nput b F g h) Q
  | 0, i, F, g, hij, q, hr, k, X => by
    refine zev_of (fun _ kk => zr_iload (pc' := 53) zi_85_51 rfl rfl kk) ?_
    refine zev_of (fun _ kk => zr_iload_n (pc' := 54) zi_85_53 rfl rfl kk) ?_
    refine zv_icmp (pc' := 57) zi_85_54 rfl (fun h54 => ?_) (fun h54 => ?_)
    · replace h54 := zc_ge_t (by omega) (by omega) h54
      have e : i = tk := by omega
      subst e
      exact k F g X ⟨rfl, rfl⟩ q
    · replace h54 := zc_ge_f (by omega) (by omega) h54
      omega
  | j + 1, i, F, g, hij, q, hr, k, X => by
    have hn := q.n70
    obtain ⟨c, hc8, hc⟩ := q.sz (g 1) (by omega)
    obtain ⟨r, F1, g1, hz, hcl⟩ := c_take hb F g (g 1) c sh (by omega) hc hc8 q.s0.2 q.t20 q.ts
    refine zev_of (fun _ kk => zr_iload (pc' := 53) zi_85_51 rfl rfl kk) ?_
    refine zev_of (fun _ kk => zr_iload_n (pc' := 54) zi_85_53 rfl rfl kk) ?_
    refine zv_icmp (pc' := 57) zi_85_54 rfl (fun h54 => ?_) (fun h54 => ?_)
    · replace h54 := zc_ge_t (by omega) (by omega) h54
      omega
    · replace h54 := zc_ge_f (by omega) (by omega) h54
      refine zev_of (fun _ kk => zr_aload_n (pc' := 58) zi_85_57 rfl rfl kk) ?_
      refine zev_of (fun _ kk => zr_get (pc' := 61) zi_85_58 (nput_at hb (k := 0) rfl) rfl rfl kk) ?_
      refine zev_of (fun _ kk => zr_get (pc' := 64) zi_85_61 (nput_at hb (k := 1) rfl) rfl rfl kk) ?_
      refine zev_of (fun _ kk => zr_istore (pc' := 66) zi_85_64 (Nat.le_of_ble_eq_true rfl) rfl rfl kk) ?_
      dsimp only [zst1, zst2, zkill, List.set, List.getElem?_cons_succ, List.getElem?_cons_zero]
      refine zev_of (fun _ kk => zr_aload_n (pc' := 67) zi_85_66 rfl rfl kk) ?_
      refine zev_of (fun _ kk => zr_get (pc' := 70) zi_85_67 (nput_at hb (k := 0) rfl) rfl rfl kk) ?_
      refine zev_of (fun _ kk => zr_get (pc' := 73) zi_85_70 (nput_at hb (k := 1) rfl) rfl rfl kk) ?_
      refine zev_of (fun _ kk => zr_iload (pc' := 75) zi_85_73 rfl rfl kk) ?_
      refine zev_of (fun _ kk => zr_aload_n (pc' := 76) zi_85_75 rfl rfl kk) ?_
      refine zev_of (fun _ kk => zr_get (pc' := 79) zi_85_76 (nput_at hb (k := 0) rfl) rfl rfl kk) ?_
      refine zev_of (fun _ kk => zr_aload_n (pc' := 80) zi_85_79 rfl rfl kk) ?_
      refine zev_of (fun _ kk => zr_get (pc' := 83) zi_85_80 (nput_at hb (k := 0) rfl) rfl rfl kk) ?_
      refine zev_of (fun _ kk => zr_iload (pc' := 85) zi_85_83 rfl rfl kk) ?_
      refine zev_of (fun _ kk => zr_aload_n (pc' := 86) zi_85_85 rfl rfl kk) ?_
      refine zev_of (fun _ kk => zr_get (pc' := 89) zi_85_86 (nput_at hb (k := 0) rfl) rfl rfl kk) ?_
      refine zev_of (fun _ kk => zr_iconst (v := (nI 0)) (pc' := 90) zi_85_89 rfl rfl kk) ?_
      refine zev_of (fun _ kk => zr_atN (pc' := 93) (by omega) zi_85_90 hb rfl rfl (by decide) rfl rfl kk) ?_
      rw [q.s0.1]
      refine zev_of (fun _ kk => zr_v3 (pc' := 96) zi_85_93 (nput_at hb (k := 16) rfl) rfl hcl rfl kk) ?_
      refine zev_of (fun _ kk => zr_rputN (pc' := 99) (rr := 5) (by omega) zi_85_96 hb rfl rfl (fun _ => rfl) (by decide) (by decide) rfl rfl kk) ?_
      refine zev_of (fun _ kk => zr_aload_n (pc' := 100) zi_85_99 rfl rfl kk) ?_
      refine zev_of (fun _ kk => zr_get (pc' := 103) zi_85_100 (nput_at hb (k := 0) rfl) rfl rfl kk) ?_
      refine zev_of (fun _ kk => zr_iload (pc' := 105) zi_85_103 rfl rfl kk) ?_
      refine zev_of (fun _ kk => zr_iconst (v := (nI 1)) (pc' := 106) zi_85_105 rfl rfl kk) ?_
      refine zev_of (fun _ kk => zr_iadd (pc' := 107) zi_85_106 (by first | exact nI_add _ _ | rfl) rfl kk) ?_
      refine zev_of (fun _ kk => zr_put (pc' := 110) zi_85_107 (by omega) (nput_at hb (k := 1) rfl) (Nat.le_of_ble_eq_true rfl) rfl rfl (nput_set (g' := updG _ 1 (g 1 + 1)) hb (by decide) rfl) kk) ?_
      refine zev_of (fun _ kk => zr_iinc (pc' := 113) zi_85_110 rfl (by first | exact n_inc _ | rfl) rfl rfl kk) ?_
      dsimp only [zst1, zst2, zkill, List.set, List.getElem?_cons_succ, List.getElem?_cons_zero]
      refine zev_of (fun _ kk => zr_goto zi_85_113 kk) ?_
      refine l_learn hb x sh gp wi bk tk A B htk j (i + 1) _ _ (by omega) (zNb_take q (by omega) hc hc8 hz) ?_ (fun F' g' X h1 h2 => k F' g' X ⟨r, c, F1, g1, hc8, hc, hz, h1⟩ h2) _
      show g 1 + 1 + j ≤ g1 0
      rw [ztak_g hz _ (by decide)]
      omega
theorem c_learn (hb : b + 71 ≤ h.length) (F : Nat → Nat → Int32) (g : Nat → Nat) (x : Nat → Nat) (sh gp wi bk mo tk : Nat) (q : zNb F g x sh gp wi bk) (hmo : 1 ≤ mo ∧ mo ≤ 70) (htk : tk = min mo (g 0 - g 1)) : ∃ F' g', ((∃ F1 g1, zlrn sh tk F g F1 g1 ∧ (∀ r, zbr r = true → F' r = F1 r) ∧ ∀ j, j < 3 → g' j = g1 j) ∧ zOk F' g' x sh gp wi bk) ∧ zcalls zTB 85 [.ref b, .int (nI mo)] (nput b F g h) (some (.int (nI tk)), nput b F' g' h) := by
  have hn := q.n70
  have hmn := q.mn
  have hz : ∃ q, (fun q => ∃ F' g', ((∃ F1 g1, zlrn sh tk F g F1 g1 ∧ (∀ r, zbr r = true → F' r = F1 r) ∧ ∀ j, j < 3 → g' j = g1 j) ∧ zOk F' g' x sh gp wi bk) ∧ q = (some (.int (nI tk)), nput b F' g' h)) q ∧ zcalls zTB 85 [.ref b, .int (nI mo)] (nput b F g h) q := by
    refine zev_calls (Nat.le_of_ble_eq_true rfl) ?_
    show zev 85 0 [some (.ref b), some (.int (nI mo)), none, none, none, none] [] _ _
    have hexit : ∀ F1 g1 X, zlrn sh tk F g F1 g1 → zNb F1 g1 x sh gp wi bk → zev 85 116 [some (.ref b), some (.int (nI mo)), some (.int (nI (g 0 - g 1))), some (.int (nI tk)), some (.int (nI tk)), X] [] (nput b F1 g1 h) (fun q => ∃ F' g', ((∃ F1 g1, zlrn sh tk F g F1 g1 ∧ (∀ r, zbr r = true → F' r = F1 r) ∧ ∀ j, j < 3 → g' j = g1 j) ∧ zOk F' g' x sh gp wi bk) ∧ q = (some (.int (nI tk)), nput b F' g' h)) := by
      intro F1 g1 X h1 h2
      obtain ⟨F2, g2, ⟨r1, r2, r3⟩, cr⟩ := c_recompute hb F1 g1 _ _ _ _ _ h2
      refine zev_of (fun _ kk => zr_aload_n (pc' := 117) zi_85_116 rfl rfl kk) ?_
      refine zev_of (fun _ kk => zr_n0 (pc' := 120) zi_85_117 (nput_at hb (k := 0) rfl) rfl cr rfl kk) ?_
      refine zev_of (fun _ kk => zr_iload_n (pc' := 121) zi_85_120 rfl rfl kk) ?_
      refine zev_ret (zr_ireturn zi_85_121 rfl) ?_
      exact ⟨F2, g2, ⟨⟨F1, g1, h1, r1, r2⟩, zNb_of h2 r1 (r2 _ (by decide)) (r2 _ (by decide)) (r2 _ (by decide)), r3⟩, rfl⟩
    have hl := l_learn hb x sh gp wi bk tk (.int (nI mo)) (.int (nI (g 0 - g 1))) (by omega) tk 0 F g (by omega) q (by omega) hexit none
    refine zev_of (fun _ kk => zr_iload_n (pc' := 1) zi_85_0 rfl rfl kk) ?_
    refine zev_of (fun _ kk => zr_iconst (v := (nI 1)) (pc' := 2) zi_85_1 rfl rfl kk) ?_
    refine zv_icmp (pc' := 5) zi_85_2 rfl (fun h2 => ?_) (fun h2 => ?_)
    · replace h2 := zc_lt_t (by omega) (by omega) h2
      omega
    · replace h2 := zc_lt_f (by omega) (by omega) h2
      refine zev_of (fun _ kk => zr_iload_n (pc' := 6) zi_85_5 rfl rfl kk) ?_
      refine zev_of (fun _ kk => zr_bipush (v := (nI 70)) (pc' := 8) zi_85_6 rfl rfl kk) ?_
      refine zv_icmp (pc' := 11) zi_85_8 rfl (fun h8 => ?_) (fun h8 => ?_)
      · replace h8 := zc_le_t (by omega) (by omega) h8
        refine zev_of (fun _ kk => zr_aload_n (pc' := 22) zi_85_21 rfl rfl kk) ?_
        refine zev_of (fun _ kk => zr_get (pc' := 25) zi_85_22 (nput_at hb (k := 0) rfl) rfl rfl kk) ?_
        refine zev_of (fun _ kk => zr_get (pc' := 28) zi_85_25 (nput_at hb (k := 1) rfl) rfl rfl kk) ?_
        refine zev_of (fun _ kk => zr_aload_n (pc' := 29) zi_85_28 rfl rfl kk) ?_
        refine zev_of (fun _ kk => zr_get (pc' := 32) zi_85_29 (nput_at hb (k := 0) rfl) rfl rfl kk) ?_
        refine zev_of (fun _ kk => zr_get (pc' := 35) zi_85_32 (nput_at hb (k := 1) rfl) rfl rfl kk) ?_
        refine zev_of (fun _ kk => zr_isub (pc' := 36) zi_85_35 (by first | exact pk_sub (by omega) | rfl) rfl kk) ?_
        refine zev_of (fun _ kk => zr_istore_n (pc' := 37) zi_85_36 (Nat.le_of_ble_eq_true rfl) rfl rfl kk) ?_
        dsimp only [zst1, zst2, zkill, List.set, List.getElem?_cons_succ, List.getElem?_cons_zero]
        refine zev_of (fun _ kk => zr_iload_n (pc' := 38) zi_85_37 rfl rfl kk) ?_
        refine zev_of (fun _ kk => zr_iload_n (pc' := 39) zi_85_38 rfl rfl kk) ?_
        refine zv_icmp (pc' := 42) zi_85_39 rfl (fun h39 => ?_) (fun h39 => ?_)
        · replace h39 := zc_ge_t (by omega) (by omega) h39
          refine zev_of (fun _ kk => zr_iload_n (pc' := 47) zi_85_46 rfl rfl kk) ?_
          refine zev_of (fun _ kk => zr_istore_n (pc' := 48) zi_85_47 (Nat.le_of_ble_eq_true rfl) rfl rfl kk) ?_
          dsimp only [zst1, zst2, zkill, List.set, List.getElem?_cons_succ, List.getElem?_cons_zero]
          refine zev_of (fun _ kk => zr_iconst (v := (nI 0)) (pc' := 49) zi_85_48 rfl rfl kk) ?_
          refine zev_of (fun _ kk => zr_istore (pc' := 51) zi_85_49 (Nat.le_of_ble_eq_true rfl) rfl rfl kk) ?_
          dsimp only [zst1, zst2, zkill, List.set, List.getElem?_cons_succ, List.getElem?_cons_zero]
          rw [show tk = g 0 - g 1 by omega] at hl ⊢
          exact hl
        · replace h39 := zc_ge_f (by omega) (by omega) h39
          refine zev_of (fun _ kk => zr_iload_n (pc' := 43) zi_85_42 rfl rfl kk) ?_
          refine zev_of (fun _ kk => zr_goto zi_85_43 kk) ?_
          refine zev_of (fun _ kk => zr_istore_n (pc' := 48) zi_85_47 (Nat.le_of_ble_eq_true rfl) rfl rfl kk) ?_
          dsimp only [zst1, zst2, zkill, List.set, List.getElem?_cons_succ, List.getElem?_cons_zero]
          refine zev_of (fun _ kk => zr_iconst (v := (nI 0)) (pc' := 49) zi_85_48 rfl rfl kk) ?_
          refine zev_of (fun _ kk => zr_istore (pc' := 51) zi_85_49 (Nat.le_of_ble_eq_true rfl) rfl rfl kk) ?_
          dsimp only [zst1, zst2, zkill, List.set, List.getElem?_cons_succ, List.getElem?_cons_zero]
          rw [show tk = mo by omega] at hl ⊢
          exact hl
      · replace h8 := zc_le_f (by omega) (by omega) h8
        omega
  obtain ⟨_, ⟨F', g', h1, rfl⟩, hc⟩ := hz
  exact ⟨F', g', h1, hc⟩
end


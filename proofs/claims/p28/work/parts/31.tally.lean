theorem zi_58_0 : zI 58 0 = some (.aload_n 0, []) := by decide +kernel
theorem zi_58_1 : zI 58 1 = some (.getfield 23, [2, 2, 144]) := by decide +kernel
theorem zi_58_4 : zI 58 4 = some (.invokevirtual 65, [18, 0, 0, 1, 309, 310, 19, 308, 0, 307]) := by decide +kernel
theorem zi_58_7 : zI 58 7 = some (.aload_n 0, []) := by decide +kernel
theorem zi_58_8 : zI 58 8 = some (.getfield 26, [2, 3, 197]) := by decide +kernel
theorem zi_58_11 : zI 58 11 = some (.invokevirtual 65, [18, 0, 0, 1, 309, 310, 19, 308, 0, 307]) := by decide +kernel
theorem zi_58_14 : zI 58 14 = some (.aload_n 0, []) := by decide +kernel
theorem zi_58_15 : zI 58 15 = some (.getfield 29, [2, 4, 295]) := by decide +kernel
theorem zi_58_18 : zI 58 18 = some (.invokevirtual 65, [18, 0, 0, 1, 309, 310, 19, 308, 0, 307]) := by decide +kernel
theorem zi_58_21 : zI 58 21 = some (.iconst 0, []) := by decide +kernel
theorem zi_58_22 : zI 58 22 = some (.istore_n 3, []) := by decide +kernel
theorem zi_58_23 : zI 58 23 = some (.iload_n 3, []) := by decide +kernel
theorem zi_58_24 : zI 58 24 = some (.aload_n 1, []) := by decide +kernel
theorem zi_58_25 : zI 58 25 = some (.getfield 68, [0, 8, 311]) := by decide +kernel
theorem zi_58_28 : zI 58 28 = some (.if_icmp .ge 83, [111]) := by decide +kernel
theorem zi_58_31 : zI 58 31 = some (.aload_n 1, []) := by decide +kernel
theorem zi_58_32 : zI 58 32 = some (.getfield 51, [0, 5, 302]) := by decide +kernel
theorem zi_58_35 : zI 58 35 = some (.iload_n 3, []) := by decide +kernel
theorem zi_58_36 : zI 58 36 = some (.invokevirtual 54, [0, 0, 1, 1, 17, 18, 19, 16, 0, 125]) := by decide +kernel
theorem zi_58_39 : zI 58 39 = some (.istore 4, []) := by decide +kernel
theorem zi_58_41 : zI 58 41 = some (.aload_n 0, []) := by decide +kernel
theorem zi_58_42 : zI 58 42 = some (.getfield 29, [2, 4, 295]) := by decide +kernel
theorem zi_58_45 : zI 58 45 = some (.iload 4, []) := by decide +kernel
theorem zi_58_47 : zI 58 47 = some (.invokevirtual 71, [9, 0, 1, 1, 314, 315, 19, 313, 0, 312]) := by decide +kernel
theorem zi_58_50 : zI 58 50 = some (.iconst 0, []) := by decide +kernel
theorem zi_58_51 : zI 58 51 = some (.istore 5, []) := by decide +kernel
theorem zi_58_53 : zI 58 53 = some (.iload 5, []) := by decide +kernel
theorem zi_58_55 : zI 58 55 = some (.iload_n 2, []) := by decide +kernel
theorem zi_58_56 : zI 58 56 = some (.if_icmp .ge 49, [105]) := by decide +kernel
theorem zi_58_59 : zI 58 59 = some (.aload_n 0, []) := by decide +kernel
theorem zi_58_60 : zI 58 60 = some (.getfield 20, [2, 1, 294]) := by decide +kernel
theorem zi_58_63 : zI 58 63 = some (.iload_n 3, []) := by decide +kernel
theorem zi_58_64 : zI 58 64 = some (.invokevirtual 54, [0, 0, 1, 1, 17, 18, 19, 16, 0, 125]) := by decide +kernel
theorem zi_58_67 : zI 58 67 = some (.iload 5, []) := by decide +kernel
theorem zi_58_69 : zI 58 69 = some (.invokestatic 58, [24, 1, 1, 0, 305, 0, 67, 304, 0, 303]) := by decide +kernel
theorem zi_58_72 : zI 58 72 = some (.iand, []) := by decide +kernel
theorem zi_58_73 : zI 58 73 = some (.ifCond .eq 26, [99]) := by decide +kernel
theorem zi_58_76 : zI 58 76 = some (.aload_n 0, []) := by decide +kernel
theorem zi_58_77 : zI 58 77 = some (.getfield 26, [2, 3, 197]) := by decide +kernel
theorem zi_58_80 : zI 58 80 = some (.iload 5, []) := by decide +kernel
theorem zi_58_82 : zI 58 82 = some (.invokevirtual 71, [9, 0, 1, 1, 314, 315, 19, 313, 0, 312]) := by decide +kernel
theorem zi_58_85 : zI 58 85 = some (.aload_n 0, []) := by decide +kernel
theorem zi_58_86 : zI 58 86 = some (.getfield 23, [2, 2, 144]) := by decide +kernel
theorem zi_58_89 : zI 58 89 = some (.iload 4, []) := by decide +kernel
theorem zi_58_91 : zI 58 91 = some (.iload 5, []) := by decide +kernel
theorem zi_58_93 : zI 58 93 = some (.invokestatic 74, [12, 1, 2, 0, 124, 0, 67, 123, 0, 122]) := by decide +kernel
theorem zi_58_96 : zI 58 96 = some (.invokevirtual 71, [9, 0, 1, 1, 314, 315, 19, 313, 0, 312]) := by decide +kernel
theorem zi_58_99 : zI 58 99 = some (.iinc 5 1, []) := by decide +kernel
theorem zi_58_102 : zI 58 102 = some (.goto (-49), [53]) := by decide +kernel
theorem zi_58_105 : zI 58 105 = some (.iinc 3 1, []) := by decide +kernel
theorem zi_58_108 : zI 58 108 = some (.goto (-85), [23]) := by decide +kernel
theorem zi_58_111 : zI 58 111 = some (.return_, []) := by decide +kernel
/-! scenes: tally -/
def zB (M : Nat → Int32) (c : Nat) : Nat → Bool := fun j => decide (M j &&& zbit (nI c) ≠ 0)
def zD (M K : Nat → Int32) (e c : Nat) : Nat → Bool := fun j => decide (K j = nI e ∧ M j &&& zbit (nI c) ≠ 0)
def zTm (K : Nat → Int32) (e : Nat) : Nat → Bool := fun j => decide (K j = nI e)
/-- line i is counted for the templates below c -/
def zta (F : Nat → Nat → Int32) (M K : Nat → Int32) (T i c : Nat) : Prop := (∀ d, d < T → F 26 d = nI (zcnt (zB M d) (if d < c then i + 1 else i))) ∧ ∀ e d, e < 20 → d < T → F 25 (e * 20 + d) = nI (zcnt (zD M K e d) (if d < c then i + 1 else i))
theorem zta_skip {F : Nat → Nat → Int32} {M K : Nat → Int32} {T i c : Nat} (q : zta F M K T i c) (h : M i &&& zbit (nI c) = 0) : zta F M K T i (c + 1) := by
  refine ⟨fun d hd => ?_, fun e d he hd => ?_⟩
  · rw [q.1 d hd]
    by_cases w : d = c
    · subst w
      rw [if_neg (by omega), if_pos (by omega), zcnt_f (by simp only [zB, decide_eq_false_iff_not]; exact fun k => k h)]
    · by_cases v : d < c
      · rw [if_pos v, if_pos (by omega)]
      · rw [if_neg v, if_neg (by omega)]
  · rw [q.2 e d he hd]
    by_cases w : d = c
    · subst w
      rw [if_neg (by omega), if_pos (by omega), zcnt_f (by simp only [zD, decide_eq_false_iff_not]; exact fun k => k.2 h)]
    · by_cases v : d < c
      · rw [if_pos v, if_pos (by omega)]
      · rw [if_neg v, if_neg (by omega)]
theorem z_pneg : ∀ c, c < 20 → (-1 : Int32) * nI 20 + nI c < 0 := by decide +kernel
theorem zta_bit {F F' : Nat → Nat → Int32} {M K : Nat → Int32} {T i c : Nat} (q : zta F M K T i c) (hT : T ≤ 20) (hc : c < T) (h : M i &&& zbit (nI c) ≠ 0) (hK : K i = -1 ∨ ∃ t, t < 20 ∧ K i = nI t) (e1 : F' 26 = rput 20 (F 26) (nI c) (F 26 (nI c).toNatClampNeg + 1)) (e2 : F' 25 = rput 400 (F 25) (K i * nI 20 + nI c) (F 25 (K i * nI 20 + nI c).toNatClampNeg + 1)) : zta F' M K T i (c + 1) := by
  refine ⟨fun d hd => ?_, fun e d he hd => ?_⟩
  · rw [e1, rput_n (by omega) (by omega), nI_clamp (by omega)]
    by_cases w : d = c
    · subst w
      rw [pk_us, q.1 d hd, nI_1, if_neg (by omega), if_pos (by omega), zcnt_t (by simp only [zB, decide_eq_true_eq]; exact h)]
    · rw [pk_un w, q.1 d hd]
      by_cases v : d < c
      · rw [if_pos v, if_pos (by omega)]
      · rw [if_neg v, if_neg (by omega)]
  · rw [e2]
    rcases hK with k | ⟨u, hu, k⟩
    · rw [k]
      unfold rput
      rw [if_pos (.inl (z_pneg c (by omega))), q.2 e d he hd]
      by_cases w : d = c
      · subst w
        rw [if_neg (by omega), if_pos (by omega), zcnt_f (by simp only [zD, decide_eq_false_iff_not]; rw [k]; exact fun v => nI_neg (by omega) v.1.symm)]
      · by_cases v : d < c
        · rw [if_pos v, if_pos (by omega)]
        · rw [if_neg v, if_neg (by omega)]
    · rw [k, pk_mul, nI_add, rput_n (by omega) (by omega), nI_clamp (by omega)]
      by_cases w : d = c
      · subst w
        by_cases v : e = u
        · subst v
          rw [pk_us, q.2 e d he hd, nI_1, if_neg (by omega), if_pos (by omega), zcnt_t (by simp only [zD, decide_eq_true_eq]; exact ⟨k, h⟩)]
        · rw [pk_un (by omega), q.2 e d he hd, if_neg (by omega), if_pos (by omega), zcnt_f (by simp only [zD, decide_eq_false_iff_not]; rw [k]; exact fun x => v ((nI_eq (by omega) (by omega)).mp x.1).symm)]
      · rw [pk_un (by omega), q.2 e d he hd]
        by_cases v : d < c
        · rw [if_pos v, if_pos (by omega)]
        · rw [if_neg v, if_neg (by omega)]
section
variable {b : Nat} {h : zH}
theorem l_tallyC (hb : b + 71 ≤ h.length) {g : Nat → Nat} {Q : zR → Prop} {M K : Nat → Int32} (T i : Nat) (hT : T ≤ 20) (hi : i < 70) (hK : K i = -1 ∨ ∃ t, t < 20 ∧ K i = nI t) (F0 : Nat → Nat → Int32) (eM : F0 24 = M) (k : ∀ F1 X, (∀ r, r ≠ 25 → r ≠ 26 → F1 r = F0 r) → zta F1 M K T i T → zev 58 105 [some (.ref (b + 52)), some (.ref (b + 1)), some (.int (nI T)), some (.int (nI i)), some (.int (K i)), X] [] (nput b F1 g h) Q) (c : Nat) (hc : c ≤ T) (F : Nat → Nat → Int32) (hF : ∀ r, r ≠ 25 → r ≠ 26 → F r = F0 r) (q : zta F M K T i c) : zev 58 53 [some (.ref (b + 52)), some (.ref (b + 1)), some (.int (nI T)), some (.int (nI i)), some (.int (K i)), some (.int (nI c))] [] (nput b F g h) Q := by
  have eM' : F 24 = M := (hF _ (by decide) (by decide)).trans eM
  refine zev_of (fun _ kk => zr_iload (pc' := 55) zi_58_53 rfl rfl kk) ?_
  refine zev_of (fun _ kk => zr_iload_n (pc' := 56) zi_58_55 rfl rfl kk) ?_
  refine zv_icmp (pc' := 59) zi_58_56 rfl (fun h56 => ?_) (fun h56 => ?_)
  · replace h56 := zc_ge_t (by omega) (by omega) h56
    have e : c = T := by omega
    subst e
    exact k F _ hF q
  · replace h56 := zc_ge_f (by omega) (by omega) h56
    refine zev_of (fun _ kk => zr_aload_n (pc' := 60) zi_58_59 rfl rfl kk) ?_
    refine zev_of (fun _ kk => zr_get (pc' := 63) zi_58_60 (nput_at hb (k := 52) rfl) rfl rfl kk) ?_
    refine zev_of (fun _ kk => zr_iload_n (pc' := 64) zi_58_63 rfl rfl kk) ?_
    refine zev_of (fun _ kk => zr_atN (pc' := 67) (by omega) zi_58_64 hb rfl rfl (by decide) rfl rfl kk) ?_
    refine zev_of (fun _ kk => zr_iload (pc' := 69) zi_58_67 rfl rfl kk) ?_
    refine zev_of (fun _ kk => zr_s1 (pc' := 72) zi_58_69 rfl (c_bitOf _) rfl kk) ?_
    rw [eM']
    refine zev_of (fun _ kk => zr_iand (pc' := 73) zi_58_72 rfl rfl kk) ?_
    refine zv_if (pc' := 76) zi_58_73 rfl (fun h73 => ?_) (fun h73 => ?_)
    · replace h73 := zc_eq_t h73
      refine zev_of (fun _ kk => zr_iinc (pc' := 102) zi_58_99 rfl (by first | exact n_inc _ | rfl) rfl rfl kk) ?_
      dsimp only [zst1, zst2, zkill, List.set, List.getElem?_cons_succ, List.getElem?_cons_zero]
      refine zev_of (fun _ kk => zr_goto zi_58_102 kk) ?_
      exact l_tallyC hb T i hT hi hK F0 eM k (c + 1) (by omega) F hF (zta_skip q h73)
    · replace h73 := zc_eq_f h73
      refine zev_of (fun _ kk => zr_aload_n (pc' := 77) zi_58_76 rfl rfl kk) ?_
      refine zev_of (fun _ kk => zr_get (pc' := 80) zi_58_77 (nput_at hb (k := 52) rfl) rfl rfl kk) ?_
      refine zev_of (fun _ kk => zr_iload (pc' := 82) zi_58_80 rfl rfl kk) ?_
      refine zev_of (fun _ kk => zr_rinc (pc' := 85) (rr := 26) zi_58_82 hb rfl rfl (fun _ => rfl) (by decide) (by decide) rfl rfl kk) ?_
      refine zev_of (fun _ kk => zr_aload_n (pc' := 86) zi_58_85 rfl rfl kk) ?_
      refine zev_of (fun _ kk => zr_get (pc' := 89) zi_58_86 (nput_at hb (k := 52) rfl) rfl rfl kk) ?_
      refine zev_of (fun _ kk => zr_iload (pc' := 91) zi_58_89 rfl rfl kk) ?_
      refine zev_of (fun _ kk => zr_iload (pc' := 93) zi_58_91 rfl rfl kk) ?_
      refine zev_of (fun _ kk => zr_s2 (pc' := 96) zi_58_93 rfl (c_pair _ _) rfl kk) ?_
      refine zev_of (fun _ kk => zr_rinc (pc' := 99) (rr := 25) zi_58_96 hb rfl rfl (fun _ => rfl) (by decide) (by decide) rfl rfl kk) ?_
      refine zev_of (fun _ kk => zr_iinc (pc' := 102) zi_58_99 rfl (by first | exact n_inc _ | rfl) rfl rfl kk) ?_
      dsimp only [zst1, zst2, zkill, List.set, List.getElem?_cons_succ, List.getElem?_cons_zero]
      refine zev_of (fun _ kk => zr_goto zi_58_102 kk) ?_
      refine l_tallyC hb T i hT hi hK F0 eM k (c + 1) (by omega) _ (fun r h1 h2 => ?_) (zta_bit q hT (by omega) h73 hK rfl rfl)
      exact (updR_ne h1).trans ((updR_ne h2).trans (hF r h1 h2))
termination_by T - c
/-- the lines ahead are counted -/
def ztl (F : Nat → Nat → Int32) (M K : Nat → Int32) (T i : Nat) : Prop := (∀ d, d < T → F 26 d = nI (zcnt (zB M d) i)) ∧ (∀ e d, e < 20 → d < T → F 25 (e * 20 + d) = nI (zcnt (zD M K e d) i)) ∧ ∀ e, e < 20 → F 27 e = nI (zcnt (zTm K e) i)
def zonT (F F' : Nat → Nat → Int32) : Prop := ∀ r, r ≠ 25 → r ≠ 26 → r ≠ 27 → F' r = F r
theorem l_tally (hb : b + 71 ≤ h.length) (g : Nat → Nat) (T : Nat) (hT : T ≤ 20) (hn : g 1 ≤ 70) (M K : Nat → Int32) (hK : ∀ i, i < g 1 → K i = -1 ∨ ∃ t, t < 20 ∧ K i = nI t) (i : Nat) (hi : i ≤ g 1) (F : Nat → Nat → Int32) (eM : F 24 = M) (eK : F 5 = K) (q : ztl F M K T i) (X Y : Option Value) : zev 58 23 [some (.ref (b + 52)), some (.ref (b + 1)), some (.int (nI T)), some (.int (nI i)), X, Y] [] (nput b F g h) (zQn b h fun F' g' => (zonT F F' ∧ ztl F' M K T (g 1)) ∧ g' = g) := by
  refine zev_of (fun _ kk => zr_iload_n (pc' := 24) zi_58_23 rfl rfl kk) ?_
  refine zev_of (fun _ kk => zr_aload_n (pc' := 25) zi_58_24 rfl rfl kk) ?_
  refine zev_of (fun _ kk => zr_get (pc' := 28) zi_58_25 (nput_at hb (k := 1) rfl) rfl rfl kk) ?_
  refine zv_icmp (pc' := 31) zi_58_28 rfl (fun h28 => ?_) (fun h28 => ?_)
  · replace h28 := zc_ge_t (by omega) (by omega) h28
    refine zev_ret (zr_return zi_58_111 rfl) ?_
    have e : i = g 1 := by omega
    exact ⟨_, _, ⟨⟨fun _ _ _ _ => rfl, e ▸ q⟩, rfl⟩, rfl⟩
  · replace h28 := zc_ge_f (by omega) (by omega) h28
    refine zev_of (fun _ kk => zr_aload_n (pc' := 32) zi_58_31 rfl rfl kk) ?_
    refine zev_of (fun _ kk => zr_get (pc' := 35) zi_58_32 (nput_at hb (k := 1) rfl) rfl rfl kk) ?_
    refine zev_of (fun _ kk => zr_iload_n (pc' := 36) zi_58_35 rfl rfl kk) ?_
    refine zev_of (fun _ kk => zr_atN (pc' := 39) (by omega) zi_58_36 hb rfl rfl (by decide) rfl rfl kk) ?_
    rw [eK]
    refine zev_of (fun _ kk => zr_istore (pc' := 41) zi_58_39 (Nat.le_of_ble_eq_true rfl) rfl rfl kk) ?_
    dsimp only [zst1, zst2, zkill, List.set, List.getElem?_cons_succ, List.getElem?_cons_zero]
    refine zev_of (fun _ kk => zr_aload_n (pc' := 42) zi_58_41 rfl rfl kk) ?_
    refine zev_of (fun _ kk => zr_get (pc' := 45) zi_58_42 (nput_at hb (k := 52) rfl) rfl rfl kk) ?_
    refine zev_of (fun _ kk => zr_iload (pc' := 47) zi_58_45 rfl rfl kk) ?_
    refine zev_of (fun _ kk => zr_rinc (pc' := 50) (rr := 27) zi_58_47 hb rfl rfl (fun _ => rfl) (by decide) (by decide) rfl rfl kk) ?_
    refine zev_of (fun _ kk => zr_iconst (v := (nI 0)) (pc' := 51) zi_58_50 rfl rfl kk) ?_
    refine zev_of (fun _ kk => zr_istore (pc' := 53) zi_58_51 (Nat.le_of_ble_eq_true rfl) rfl rfl kk) ?_
    dsimp only [zst1, zst2, zkill, List.set, List.getElem?_cons_succ, List.getElem?_cons_zero]
    have hKi := hK i (by omega)
    refine l_tallyC hb T i hT (by omega) hKi (updR F 27 (rput 20 (F 27) (K i) (F 27 (K i).toNatClampNeg + 1))) eM (fun F1 X h1 h2 => ?_) 0 (Nat.zero_le _) _ (fun _ _ _ => rfl) ⟨fun d hd => ?_, fun e d he hd => ?_⟩
    · skip
      refine zev_of (fun _ kk => zr_iinc (pc' := 108) zi_58_105 rfl (by first | exact n_inc _ | rfl) rfl rfl kk) ?_
      dsimp only [zst1, zst2, zkill, List.set, List.getElem?_cons_succ, List.getElem?_cons_zero]
      refine zev_of (fun _ kk => zr_goto zi_58_108 kk) ?_
      refine zev_mono (l_tally hb g T hT hn M K hK (i + 1) (by omega) F1 ((h1 _ (by decide) (by decide)).trans eM) ((h1 _ (by decide) (by decide)).trans eK) ⟨fun d hd => ?_, fun e d he hd => ?_, fun e he => ?_⟩ _ _) ?_
      · rw [h2.1 d hd, if_pos hd]
      · rw [h2.2 e d he hd, if_pos hd]
      · rw [h1 _ (by decide) (by decide), updR_eq]
        rcases hKi with k | ⟨u, hu, k⟩
        · rw [k]
          unfold rput
          rw [if_pos (.inl (by decide)), q.2.2 e he, zcnt_f (by simp only [zTm, decide_eq_false_iff_not]; rw [k]; exact fun v => nI_neg (by omega) v.symm)]
        · rw [k, rput_n (by omega) (by omega), nI_clamp (by omega)]
          by_cases v : e = u
          · subst v
            rw [pk_us, q.2.2 e he, nI_1, zcnt_t (by simp only [zTm, decide_eq_true_eq]; exact k)]
          · rw [pk_un v, q.2.2 e he, zcnt_f (by simp only [zTm, decide_eq_false_iff_not]; rw [k]; exact fun x => v ((nI_eq (by omega) (by omega)).mp x).symm)]
      · rintro p ⟨F', g', ⟨⟨k1, k2⟩, k3⟩, rfl⟩
        exact ⟨F', g', ⟨⟨fun r h3 h4 h5 => (k1 r h3 h4 h5).trans ((h1 r h3 h4).trans (updR_ne h5)), k2⟩, k3⟩, rfl⟩
    · rw [if_neg (by omega)]
      exact q.1 d hd
    · rw [if_neg (by omega)]
      exact q.2.1 e d he hd
termination_by g 1 - i
theorem c_tally (hb : b + 71 ≤ h.length) (F : Nat → Nat → Int32) (g : Nat → Nat) (T : Nat) (hT : T ≤ 20) (hn : g 1 ≤ 70) (hK : ∀ i, i < g 1 → F 5 i = -1 ∨ ∃ t, t < 20 ∧ F 5 i = nI t) : ∃ F' g', ((zonT F F' ∧ ztl F' (F 24) (F 5) T (g 1)) ∧ g' = g) ∧ zcalls zTB 58 [.ref (b + 52), .ref (b + 1), .int (nI T)] (nput b F g h) (none, nput b F' g' h) := by
  refine zQn_out (zev_calls (Nat.le_of_ble_eq_true rfl) ?_)
  show zev 58 0 [some (.ref (b + 52)), some (.ref (b + 1)), some (.int (nI T)), none, none, none] [] _ _
  refine zev_of (fun _ kk => zr_aload_n (pc' := 1) zi_58_0 rfl rfl kk) ?_
  refine zev_of (fun _ kk => zr_get (pc' := 4) zi_58_1 (nput_at hb (k := 52) rfl) rfl rfl kk) ?_
  refine zv_rclear (pc' := 7) (rr := 25) zi_58_4 hb rfl rfl (fun _ => rfl) (by decide) (by decide) (by decide) rfl rfl (fun f25 hf25 => ?_)
  refine zev_of (fun _ kk => zr_aload_n (pc' := 8) zi_58_7 rfl rfl kk) ?_
  refine zev_of (fun _ kk => zr_get (pc' := 11) zi_58_8 (nput_at hb (k := 52) rfl) rfl rfl kk) ?_
  refine zv_rclear (pc' := 14) (rr := 26) zi_58_11 hb rfl rfl (fun _ => rfl) (by decide) (by decide) (by decide) rfl rfl (fun f26 hf26 => ?_)
  refine zev_of (fun _ kk => zr_aload_n (pc' := 15) zi_58_14 rfl rfl kk) ?_
  refine zev_of (fun _ kk => zr_get (pc' := 18) zi_58_15 (nput_at hb (k := 52) rfl) rfl rfl kk) ?_
  refine zv_rclear (pc' := 21) (rr := 27) zi_58_18 hb rfl rfl (fun _ => rfl) (by decide) (by decide) (by decide) rfl rfl (fun f27 hf27 => ?_)
  refine zev_of (fun _ kk => zr_iconst (v := (nI 0)) (pc' := 22) zi_58_21 rfl rfl kk) ?_
  refine zev_of (fun _ kk => zr_istore_n (pc' := 23) zi_58_22 (Nat.le_of_ble_eq_true rfl) rfl rfl kk) ?_
  dsimp only [zst1, zst2, zkill, List.set, List.getElem?_cons_succ, List.getElem?_cons_zero]
  refine zev_mono (l_tally hb g T hT hn (F 24) (F 5) hK 0 (Nat.zero_le _) _ (by rfl) (by rfl) ⟨fun d hd => ?_, fun e d he hd => ?_, fun e he => ?_⟩ none none) ?_
  · exact hf26 d (by omega)
  · exact hf25 (e * 20 + d) (by omega)
  · exact hf27 e he
  · rintro p ⟨F', g', ⟨⟨k1, k2⟩, k3⟩, rfl⟩
    exact ⟨F', g', ⟨⟨fun r h3 h4 h5 => (k1 r h3 h4 h5).trans ((updR_ne h5).trans ((updR_ne h4).trans (updR_ne h3))), k2⟩, k3⟩, rfl⟩
end


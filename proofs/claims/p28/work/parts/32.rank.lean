theorem zi_59_0 : zI 59 0 = some (.iconst 0, []) := by decide +kernel
theorem zi_59_1 : zI 59 1 = some (.istore_n 3, []) := by decide +kernel
theorem zi_59_2 : zI 59 2 = some (.iload_n 3, []) := by decide +kernel
theorem zi_59_3 : zI 59 3 = some (.iload_n 1, []) := by decide +kernel
theorem zi_59_4 : zI 59 4 = some (.if_icmp .ge 115, [119]) := by decide +kernel
theorem zi_59_7 : zI 59 7 = some (.aload_n 0, []) := by decide +kernel
theorem zi_59_8 : zI 59 8 = some (.getfield 29, [2, 4, 295]) := by decide +kernel
theorem zi_59_11 : zI 59 11 = some (.iload_n 3, []) := by decide +kernel
theorem zi_59_12 : zI 59 12 = some (.invokevirtual 54, [0, 0, 1, 1, 17, 18, 19, 16, 0, 125]) := by decide +kernel
theorem zi_59_15 : zI 59 15 = some (.istore 4, []) := by decide +kernel
theorem zi_59_17 : zI 59 17 = some (.aload_n 0, []) := by decide +kernel
theorem zi_59_18 : zI 59 18 = some (.getfield 38, [2, 7, 296]) := by decide +kernel
theorem zi_59_21 : zI 59 21 = some (.iload_n 3, []) := by decide +kernel
theorem zi_59_22 : zI 59 22 = some (.iconst 0, []) := by decide +kernel
theorem zi_59_23 : zI 59 23 = some (.invokevirtual 61, [1, 0, 2, 1, 282, 283, 19, 281, 0, 306]) := by decide +kernel
theorem zi_59_26 : zI 59 26 = some (.iconst 0, []) := by decide +kernel
theorem zi_59_27 : zI 59 27 = some (.istore 5, []) := by decide +kernel
theorem zi_59_29 : zI 59 29 = some (.iload 5, []) := by decide +kernel
theorem zi_59_31 : zI 59 31 = some (.iload_n 1, []) := by decide +kernel
theorem zi_59_32 : zI 59 32 = some (.if_icmp .ge 81, [113]) := by decide +kernel
theorem zi_59_35 : zI 59 35 = some (.sipush 1000, []) := by decide +kernel
theorem zi_59_38 : zI 59 38 = some (.aload_n 0, []) := by decide +kernel
theorem zi_59_39 : zI 59 39 = some (.iload_n 3, []) := by decide +kernel
theorem zi_59_40 : zI 59 40 = some (.iload 5, []) := by decide +kernel
theorem zi_59_42 : zI 59 42 = some (.invokevirtual 78, [25, 0, 2, 2, 70, 71, 67, 69, 0, 198]) := by decide +kernel
theorem zi_59_45 : zI 59 45 = some (.imul, []) := by decide +kernel
theorem zi_59_46 : zI 59 46 = some (.iload 4, []) := by decide +kernel
theorem zi_59_48 : zI 59 48 = some (.invokestatic 81, [17, 1, 2, 0, 30, 0, 9, 29, 1, 3]) := by decide +kernel
theorem zi_59_51 : zI 59 51 = some (.sipush 1000, []) := by decide +kernel
theorem zi_59_54 : zI 59 54 = some (.aload_n 0, []) := by decide +kernel
theorem zi_59_55 : zI 59 55 = some (.iload_n 3, []) := by decide +kernel
theorem zi_59_56 : zI 59 56 = some (.iload 5, []) := by decide +kernel
theorem zi_59_58 : zI 59 58 = some (.invokevirtual 84, [34, 0, 2, 2, 74, 75, 67, 73, 0, 316]) := by decide +kernel
theorem zi_59_61 : zI 59 61 = some (.imul, []) := by decide +kernel
theorem zi_59_62 : zI 59 62 = some (.iload_n 2, []) := by decide +kernel
theorem zi_59_63 : zI 59 63 = some (.iload 4, []) := by decide +kernel
theorem zi_59_65 : zI 59 65 = some (.isub, []) := by decide +kernel
theorem zi_59_66 : zI 59 66 = some (.invokestatic 81, [17, 1, 2, 0, 30, 0, 9, 29, 1, 3]) := by decide +kernel
theorem zi_59_69 : zI 59 69 = some (.isub, []) := by decide +kernel
theorem zi_59_70 : zI 59 70 = some (.istore 6, []) := by decide +kernel
theorem zi_59_72 : zI 59 72 = some (.aload_n 0, []) := by decide +kernel
theorem zi_59_73 : zI 59 73 = some (.getfield 32, [2, 5, 199]) := by decide +kernel
theorem zi_59_76 : zI 59 76 = some (.iload_n 3, []) := by decide +kernel
theorem zi_59_77 : zI 59 77 = some (.iload 5, []) := by decide +kernel
theorem zi_59_79 : zI 59 79 = some (.invokestatic 74, [12, 1, 2, 0, 124, 0, 67, 123, 0, 122]) := by decide +kernel
theorem zi_59_82 : zI 59 82 = some (.iload 6, []) := by decide +kernel
theorem zi_59_84 : zI 59 84 = some (.invokevirtual 61, [1, 0, 2, 1, 282, 283, 19, 281, 0, 306]) := by decide +kernel
theorem zi_59_87 : zI 59 87 = some (.iload 5, []) := by decide +kernel
theorem zi_59_89 : zI 59 89 = some (.iload_n 3, []) := by decide +kernel
theorem zi_59_90 : zI 59 90 = some (.if_icmp .eq 17, [107]) := by decide +kernel
theorem zi_59_93 : zI 59 93 = some (.iload 6, []) := by decide +kernel
theorem zi_59_95 : zI 59 95 = some (.ifCond .le 12, [107]) := by decide +kernel
theorem zi_59_98 : zI 59 98 = some (.aload_n 0, []) := by decide +kernel
theorem zi_59_99 : zI 59 99 = some (.iload_n 3, []) := by decide +kernel
theorem zi_59_100 : zI 59 100 = some (.iload 5, []) := by decide +kernel
theorem zi_59_102 : zI 59 102 = some (.iload 6, []) := by decide +kernel
theorem zi_59_104 : zI 59 104 = some (.invokevirtual 87, [60, 0, 3, 2, 319, 320, 67, 318, 0, 317]) := by decide +kernel
theorem zi_59_107 : zI 59 107 = some (.iinc 5 1, []) := by decide +kernel
theorem zi_59_110 : zI 59 110 = some (.goto (-81), [29]) := by decide +kernel
theorem zi_59_113 : zI 59 113 = some (.iinc 3 1, []) := by decide +kernel
theorem zi_59_116 : zI 59 116 = some (.goto (-114), [2]) := by decide +kernel
theorem zi_59_119 : zI 59 119 = some (.return_, []) := by decide +kernel
theorem zi_60_0 : zI 60 0 = some (.aload_n 0, []) := by decide +kernel
theorem zi_60_1 : zI 60 1 = some (.getfield 38, [2, 7, 296]) := by decide +kernel
theorem zi_60_4 : zI 60 4 = some (.iload_n 1, []) := by decide +kernel
theorem zi_60_5 : zI 60 5 = some (.invokevirtual 54, [0, 0, 1, 1, 17, 18, 19, 16, 0, 125]) := by decide +kernel
theorem zi_60_8 : zI 60 8 = some (.istore 4, []) := by decide +kernel
theorem zi_60_10 : zI 60 10 = some (.iload 4, []) := by decide +kernel
theorem zi_60_12 : zI 60 12 = some (.ifCond .le 49, [61]) := by decide +kernel
theorem zi_60_15 : zI 60 15 = some (.aload_n 0, []) := by decide +kernel
theorem zi_60_16 : zI 60 16 = some (.iload_n 1, []) := by decide +kernel
theorem zi_60_17 : zI 60 17 = some (.aload_n 0, []) := by decide +kernel
theorem zi_60_18 : zI 60 18 = some (.iload_n 1, []) := by decide +kernel
theorem zi_60_19 : zI 60 19 = some (.iload 4, []) := by decide +kernel
theorem zi_60_21 : zI 60 21 = some (.iconst 1, []) := by decide +kernel
theorem zi_60_22 : zI 60 22 = some (.isub, []) := by decide +kernel
theorem zi_60_23 : zI 60 23 = some (.invokevirtual 91, [20, 0, 2, 2, 65, 66, 67, 64, 0, 321]) := by decide +kernel
theorem zi_60_26 : zI 60 26 = some (.invokevirtual 94, [35, 0, 2, 2, 78, 79, 67, 77, 0, 322]) := by decide +kernel
theorem zi_60_29 : zI 60 29 = some (.iload_n 3, []) := by decide +kernel
theorem zi_60_30 : zI 60 30 = some (.if_icmp .ge 31, [61]) := by decide +kernel
theorem zi_60_33 : zI 60 33 = some (.aload_n 0, []) := by decide +kernel
theorem zi_60_34 : zI 60 34 = some (.getfield 35, [2, 6, 121]) := by decide +kernel
theorem zi_60_37 : zI 60 37 = some (.iload_n 1, []) := by decide +kernel
theorem zi_60_38 : zI 60 38 = some (.iload 4, []) := by decide +kernel
theorem zi_60_40 : zI 60 40 = some (.invokestatic 74, [12, 1, 2, 0, 124, 0, 67, 123, 0, 122]) := by decide +kernel
theorem zi_60_43 : zI 60 43 = some (.aload_n 0, []) := by decide +kernel
theorem zi_60_44 : zI 60 44 = some (.iload_n 1, []) := by decide +kernel
theorem zi_60_45 : zI 60 45 = some (.iload 4, []) := by decide +kernel
theorem zi_60_47 : zI 60 47 = some (.iconst 1, []) := by decide +kernel
theorem zi_60_48 : zI 60 48 = some (.isub, []) := by decide +kernel
theorem zi_60_49 : zI 60 49 = some (.invokevirtual 91, [20, 0, 2, 2, 65, 66, 67, 64, 0, 321]) := by decide +kernel
theorem zi_60_52 : zI 60 52 = some (.invokevirtual 61, [1, 0, 2, 1, 282, 283, 19, 281, 0, 306]) := by decide +kernel
theorem zi_60_55 : zI 60 55 = some (.iinc 4 (-1), []) := by decide +kernel
theorem zi_60_58 : zI 60 58 = some (.goto (-48), [10]) := by decide +kernel
theorem zi_60_61 : zI 60 61 = some (.aload_n 0, []) := by decide +kernel
theorem zi_60_62 : zI 60 62 = some (.getfield 35, [2, 6, 121]) := by decide +kernel
theorem zi_60_65 : zI 60 65 = some (.iload_n 1, []) := by decide +kernel
theorem zi_60_66 : zI 60 66 = some (.iload 4, []) := by decide +kernel
theorem zi_60_68 : zI 60 68 = some (.invokestatic 74, [12, 1, 2, 0, 124, 0, 67, 123, 0, 122]) := by decide +kernel
theorem zi_60_71 : zI 60 71 = some (.iload_n 2, []) := by decide +kernel
theorem zi_60_72 : zI 60 72 = some (.invokevirtual 61, [1, 0, 2, 1, 282, 283, 19, 281, 0, 306]) := by decide +kernel
theorem zi_60_75 : zI 60 75 = some (.aload_n 0, []) := by decide +kernel
theorem zi_60_76 : zI 60 76 = some (.getfield 38, [2, 7, 296]) := by decide +kernel
theorem zi_60_79 : zI 60 79 = some (.iload_n 1, []) := by decide +kernel
theorem zi_60_80 : zI 60 80 = some (.invokevirtual 71, [9, 0, 1, 1, 314, 315, 19, 313, 0, 312]) := by decide +kernel
theorem zi_60_83 : zI 60 83 = some (.return_, []) := by decide +kernel
/-! scenes: causes by their scores -/
section
variable {b : Nat} {h : zH}
/-- cause c of score k stands at place q of template e -/
def zent2 (F F' : Nat → Nat → Int32) (e c N k : Nat) (R sv : Nat → Nat) (q : Nat) : Prop := (∀ r, r ≠ 29 → r ≠ 30 → F' r = F r) ∧ (∀ x, x < e * 20 ∨ e * 20 + 20 ≤ x → F' 29 x = F 29 x) ∧ (∀ x, x ≠ e → F' 30 x = F 30 x) ∧ F' 30 e = nI (N + 1) ∧ q ≤ N ∧ (∀ p, p < q → F' 29 (e * 20 + p) = nI (R p)) ∧ F' 29 (e * 20 + q) = nI c ∧ (∀ p, q < p → p ≤ N → F' 29 (e * 20 + p) = nI (R (p - 1))) ∧ (0 < q → k ≤ sv (R (q - 1))) ∧ ∀ p, q ≤ p → p < N → sv (R p) < k
theorem l_enterC (hb : b + 71 ≤ h.length) (g : Nat → Nat) (e c N k : Nat) (R sv : Nat → Nat) (he : e < 20) (hN : N < 20) (hk : k ≤ 1000) (q : Nat) (hq : q ≤ N) (F : Nat → Nat → Int32) (hc : F 30 e = nI N) (h1 : ∀ p, p < q → F 29 (e * 20 + p) = nI (R p)) (hR : ∀ p, p < N → R p < 20 ∧ F 28 (e * 20 + R p) = nI (sv (R p)) ∧ sv (R p) ≤ 1000) (h2 : ∀ p, q < p → p ≤ N → F 29 (e * 20 + p) = nI (R (p - 1))) (h3 : ∀ p, q ≤ p → p < N → sv (R p) < k) : zev 60 10 [some (.ref (b + 52)), some (.int (nI e)), some (.int (nI c)), some (.int (nI k)), some (.int (nI q))] [] (nput b F g h) (zQn b h fun F' g' => (∃ q, zent2 F F' e c N k R sv q) ∧ g' = g) := by
  have hexit : (0 < q → k ≤ sv (R (q - 1))) → zev 60 61 [some (.ref (b + 52)), some (.int (nI e)), some (.int (nI c)), some (.int (nI k)), some (.int (nI q))] [] (nput b F g h) (zQn b h fun F' g' => (∃ q, zent2 F F' e c N k R sv q) ∧ g' = g) := by
    intro hlast
    refine zev_of (fun _ kk => zr_aload_n (pc' := 62) zi_60_61 rfl rfl kk) ?_
    refine zev_of (fun _ kk => zr_get (pc' := 65) zi_60_62 (nput_at hb (k := 52) rfl) rfl rfl kk) ?_
    refine zev_of (fun _ kk => zr_iload_n (pc' := 66) zi_60_65 rfl rfl kk) ?_
    refine zev_of (fun _ kk => zr_iload (pc' := 68) zi_60_66 rfl rfl kk) ?_
    refine zev_of (fun _ kk => zr_s2 (pc' := 71) zi_60_68 rfl (c_pairN _ _) rfl kk) ?_
    refine zev_of (fun _ kk => zr_iload_n (pc' := 72) zi_60_71 rfl rfl kk) ?_
    refine zev_of (fun _ kk => zr_rputN (pc' := 75) (rr := 29) (by omega) zi_60_72 hb rfl rfl (fun _ => rfl) (by decide) (by decide) rfl rfl kk) ?_
    refine zev_of (fun _ kk => zr_aload_n (pc' := 76) zi_60_75 rfl rfl kk) ?_
    refine zev_of (fun _ kk => zr_get (pc' := 79) zi_60_76 (nput_at hb (k := 52) rfl) rfl rfl kk) ?_
    refine zev_of (fun _ kk => zr_iload_n (pc' := 80) zi_60_79 rfl rfl kk) ?_
    refine zev_of (fun _ kk => zr_rinc (pc' := 83) (rr := 30) zi_60_80 hb rfl rfl (fun _ => rfl) (by decide) (by decide) rfl rfl kk) ?_
    refine zev_ret (zr_return zi_60_83 rfl) ?_
    refine ⟨_, _, ⟨⟨q, ?_⟩, rfl⟩, rfl⟩
    refine ⟨fun r h4 h5 => (updR_ne h5).trans (updR_ne h4), fun x hx => pk_un (by omega), fun x hx => ?_, ?_, hq, fun p hp => (pk_un (by omega)).trans (h1 p hp), pk_us, fun p h4 h5 => (pk_un (by omega)).trans (h2 p h4 h5), hlast, h3⟩
    · show rput 20 (F 30) (nI e) (F 30 (nI e).toNatClampNeg + 1) x = F 30 x
      rw [rput_n he (by omega), pk_un hx]
    · show rput 20 (F 30) (nI e) (F 30 (nI e).toNatClampNeg + 1) e = nI (N + 1)
      rw [rput_n he (by omega), pk_us, nI_clamp (by omega), hc, nI_1]
  refine zev_of (fun _ kk => zr_iload (pc' := 12) zi_60_10 rfl rfl kk) ?_
  refine zv_if (pc' := 15) zi_60_12 rfl (fun h12 => ?_) (fun h12 => ?_)
  · replace h12 := zx_le_t h12
    refine hexit fun hq0 => ?_
    exact absurd h12 (nI_nle hq0 (by omega))
  · replace h12 := zx_le_f h12
    obtain ⟨q', rfl⟩ : ∃ q', q = q' + 1 := by
      cases q with
      | zero => exact absurd (by decide : nI 0 ≤ 0) h12
      | succ q' => exact ⟨q', rfl⟩
    obtain ⟨hr1, hr2, hr3⟩ := hR q' (by omega)
    have hr0 := h1 q' (by omega)
    refine zev_of (fun _ kk => zr_aload_n (pc' := 16) zi_60_15 rfl rfl kk) ?_
    refine zev_of (fun _ kk => zr_iload_n (pc' := 17) zi_60_16 rfl rfl kk) ?_
    refine zev_of (fun _ kk => zr_aload_n (pc' := 18) zi_60_17 rfl rfl kk) ?_
    refine zev_of (fun _ kk => zr_iload_n (pc' := 19) zi_60_18 rfl rfl kk) ?_
    refine zev_of (fun _ kk => zr_iload (pc' := 21) zi_60_19 rfl rfl kk) ?_
    refine zev_of (fun _ kk => zr_iconst (v := (nI 1)) (pc' := 22) zi_60_21 rfl rfl kk) ?_
    refine zev_of (fun _ kk => zr_isub (pc' := 23) zi_60_22 (by first | exact pk_sub (by omega) | rfl) rfl kk) ?_
    rw [Nat.add_sub_cancel]
    refine zev_of (fun _ kk => zr_v2 (pc' := 26) zi_60_23 (nput_at hb (k := 52) rfl) rfl (c_causeOf hb _ _ (by omega)) rfl kk) ?_
    rw [hr0]
    refine zev_of (fun _ kk => zr_v2 (pc' := 29) zi_60_26 (nput_at hb (k := 52) rfl) rfl (c_score hb _ _ (by omega)) rfl kk) ?_
    rw [hr2]
    refine zev_of (fun _ kk => zr_iload_n (pc' := 30) zi_60_29 rfl rfl kk) ?_
    refine zv_icmp (pc' := 33) zi_60_30 rfl (fun h30 => ?_) (fun h30 => ?_)
    · replace h30 := zc_ge_t (by omega) (by omega) h30
      refine hexit fun _ => ?_
      rw [Nat.add_sub_cancel]
      exact h30
    · replace h30 := zc_ge_f (by omega) (by omega) h30
      refine zev_of (fun _ kk => zr_aload_n (pc' := 34) zi_60_33 rfl rfl kk) ?_
      refine zev_of (fun _ kk => zr_get (pc' := 37) zi_60_34 (nput_at hb (k := 52) rfl) rfl rfl kk) ?_
      refine zev_of (fun _ kk => zr_iload_n (pc' := 38) zi_60_37 rfl rfl kk) ?_
      refine zev_of (fun _ kk => zr_iload (pc' := 40) zi_60_38 rfl rfl kk) ?_
      refine zev_of (fun _ kk => zr_s2 (pc' := 43) zi_60_40 rfl (c_pairN _ _) rfl kk) ?_
      refine zev_of (fun _ kk => zr_aload_n (pc' := 44) zi_60_43 rfl rfl kk) ?_
      refine zev_of (fun _ kk => zr_iload_n (pc' := 45) zi_60_44 rfl rfl kk) ?_
      refine zev_of (fun _ kk => zr_iload (pc' := 47) zi_60_45 rfl rfl kk) ?_
      refine zev_of (fun _ kk => zr_iconst (v := (nI 1)) (pc' := 48) zi_60_47 rfl rfl kk) ?_
      refine zev_of (fun _ kk => zr_isub (pc' := 49) zi_60_48 (by first | exact pk_sub (by omega) | rfl) rfl kk) ?_
      rw [Nat.add_sub_cancel]
      refine zev_of (fun _ kk => zr_v2 (pc' := 52) zi_60_49 (nput_at hb (k := 52) rfl) rfl (c_causeOf hb _ _ (by omega)) rfl kk) ?_
      refine zev_of (fun _ kk => zr_rputN (pc' := 55) (rr := 29) (by omega) zi_60_52 hb rfl rfl (fun _ => rfl) (by decide) (by decide) rfl rfl kk) ?_
      refine zev_of (fun _ kk => zr_iinc (pc' := 58) zi_60_55 rfl (n_dec _) rfl rfl kk) ?_
      dsimp only [zst1, zst2, zkill, List.set, List.getElem?_cons_succ, List.getElem?_cons_zero]
      refine zev_of (fun _ kk => zr_goto zi_60_58 kk) ?_
      rw [nI_pred]
      refine zev_mono (l_enterC hb g e c N k R sv he hN hk q' (by omega) (updR F 29 (upd (F 29) (e * 20 + (q' + 1)) (F 29 (e * 20 + q')))) hc (fun p hp => (pk_un (by omega)).trans (h1 p (by omega))) hR (fun p h4 h5 => ?_) (fun p h4 h5 => ?_)) ?_
      · show upd (F 29) (e * 20 + (q' + 1)) (F 29 (e * 20 + q')) (e * 20 + p) = nI (R (p - 1))
        rcases Nat.lt_or_ge (q' + 1) p with w | w
        · rw [pk_un (by omega)]
          exact h2 p w h5
        · rw [show p = q' + 1 by omega, pk_us, Nat.add_sub_cancel]
          exact hr0
      · rcases Nat.lt_or_ge q' p with w | w
        · exact h3 p w h5
        · rw [show p = q' by omega]
          exact h30
      · rintro w ⟨F', g', ⟨⟨q2, k1, k2, k3⟩, k4⟩, rfl⟩
        exact ⟨F', g', ⟨⟨q2, fun r h4 h5 => (k1 r h4 h5).trans (updR_ne h4), fun x hx => (k2 x hx).trans (pk_un (by omega)), k3⟩, k4⟩, rfl⟩
termination_by q
theorem c_enterC (hb : b + 71 ≤ h.length) (F : Nat → Nat → Int32) (g : Nat → Nat) (e c N k : Nat) (R sv : Nat → Nat) (he : e < 20) (hN : N < 20) (hk : k ≤ 1000) (hc : F 30 e = nI N) (h1 : ∀ p, p < N → F 29 (e * 20 + p) = nI (R p)) (hR : ∀ p, p < N → R p < 20 ∧ F 28 (e * 20 + R p) = nI (sv (R p)) ∧ sv (R p) ≤ 1000) : ∃ F' g', ((∃ q, zent2 F F' e c N k R sv q) ∧ g' = g) ∧ zcalls zTB 60 [.ref (b + 52), .int (nI e), .int (nI c), .int (nI k)] (nput b F g h) (none, nput b F' g' h) := by
  refine zQn_out (zev_calls (Nat.le_of_ble_eq_true rfl) ?_)
  show zev 60 0 [some (.ref (b + 52)), some (.int (nI e)), some (.int (nI c)), some (.int (nI k)), none] [] _ _
  refine zev_of (fun _ kk => zr_aload_n (pc' := 1) zi_60_0 rfl rfl kk) ?_
  refine zev_of (fun _ kk => zr_get (pc' := 4) zi_60_1 (nput_at hb (k := 52) rfl) rfl rfl kk) ?_
  refine zev_of (fun _ kk => zr_iload_n (pc' := 5) zi_60_4 rfl rfl kk) ?_
  refine zev_of (fun _ kk => zr_atN (pc' := 8) (by omega) zi_60_5 hb rfl rfl (by decide) rfl rfl kk) ?_
  rw [hc]
  refine zev_of (fun _ kk => zr_istore (pc' := 10) zi_60_8 (Nat.le_of_ble_eq_true rfl) rfl rfl kk) ?_
  dsimp only [zst1, zst2, zkill, List.set, List.getElem?_cons_succ, List.getElem?_cons_zero]
  exact l_enterC hb g e c N k R sv he hN hk N (Nat.le_refl _) F hc h1 hR (fun p h4 h5 => absurd h4 (by omega)) (fun p h4 h5 => absurd h4 (by omega))
/-- the causes of template e among those below c -/
def zrk (F : Nat → Nat → Int32) (hh : Nat → Nat) (e c N : Nat) (R sv : Nat → Nat) : Prop := F 30 e = nI N ∧ N ≤ c ∧ (∀ p, p < N → F 29 (e * 20 + p) = nI (R p) ∧ R p < c ∧ R p ≠ e ∧ F 28 (e * 20 + R p) = nI (sv (R p)) ∧ 1 ≤ sv (R p) ∧ sv (R p) ≤ 1000 ∧ 1 ≤ hh (R p)) ∧ ∀ p, p + 1 < N → sv (R (p + 1)) ≤ sv (R p)
theorem zrk_skip {F : Nat → Nat → Int32} {hh : Nat → Nat} {e c N : Nat} {R sv : Nat → Nat} (q : zrk F hh e c N R sv) (v : Int32) : zrk (updR F 28 (upd (F 28) (e * 20 + c) v)) hh e (c + 1) N R sv := by
  obtain ⟨h1, h2, h3, h4⟩ := q
  refine ⟨h1, by omega, fun p hp => ?_, h4⟩
  obtain ⟨k1, k2, k3, k4, k5⟩ := h3 p hp
  exact ⟨k1, by omega, k3, (pk_un (by omega)).trans k4, k5⟩
theorem zrk_enter {F F' : Nat → Nat → Int32} {hh : Nat → Nat} {e c N k q : Nat} {R sv : Nat → Nat} (z : zrk F hh e c N R sv) (w : zent2 (updR F 28 (upd (F 28) (e * 20 + c) (nI k))) F' e c N k R sv q) (hce : c ≠ e) (hk1 : 1 ≤ k) (hk : k ≤ 1000) (hhc : 1 ≤ hh c) : ∃ R' sv', zrk F' hh e (c + 1) (N + 1) R' sv' := by
  obtain ⟨h1, h2, h3, h4⟩ := z
  obtain ⟨w1, w2, w3, w4, w5, w6, w7, w8, w9, w10⟩ := w
  obtain ⟨R', r1, r2, r3⟩ : ∃ R' : Nat → Nat, (∀ p, p < q → R' p = R p) ∧ R' q = c ∧ ∀ p, q < p → R' p = R (p - 1) := ⟨fun p => if p < q then R p else if p = q then c else R (p - 1), fun p hp => if_pos hp, (if_neg (Nat.lt_irrefl q)).trans (if_pos rfl), fun p hp => (if_neg (show ¬ p < q by omega)).trans (if_neg (show ¬ p = q by omega))⟩
  have es : F' 28 = upd (F 28) (e * 20 + c) (nI k) := w1 _ (by decide) (by decide)
  have hsv : ∀ p, p < N → nup sv c k (R p) = sv (R p) := fun p hp => nup_ne (by have := (h3 p hp).2.1; omega)
  refine ⟨R', nup sv c k, w4, by omega, fun p hp => ?_, fun p hp => ?_⟩
  · rw [es]
    have hold : ∀ p, p < N → R p < c + 1 ∧ R p ≠ e ∧ upd (F 28) (e * 20 + c) (nI k) (e * 20 + R p) = nI (nup sv c k (R p)) ∧ 1 ≤ nup sv c k (R p) ∧ nup sv c k (R p) ≤ 1000 ∧ 1 ≤ hh (R p) := by
      intro p hp
      obtain ⟨k1, k2, k3, k4, k5⟩ := h3 p hp
      rw [hsv p hp, pk_un (by omega)]
      exact ⟨by omega, k3, k4, k5⟩
    rcases Nat.lt_trichotomy p q with u | u | u
    · rw [r1 p u]
      exact ⟨w6 p u, hold p (by omega)⟩
    · subst u
      rw [r2, nup_eq, pk_us]
      exact ⟨w7, by omega, hce, rfl, hk1, hk, hhc⟩
    · rw [r3 p u]
      exact ⟨w8 p u (by omega), hold (p - 1) (by omega)⟩
  · rcases Nat.lt_trichotomy (p + 1) q with u | u | u
    · rw [r1 p (by omega), r1 (p + 1) u, hsv _ (by omega), hsv _ (by omega)]
      exact h4 p (by omega)
    · rw [u, r2, nup_eq, r1 p (by omega), hsv _ (by omega)]
      have := w9 (by omega)
      rw [show q - 1 = p by omega] at this
      exact this
    · rw [r3 (p + 1) u, Nat.add_sub_cancel, hsv _ (by omega)]
      rcases Nat.lt_or_ge q p with v | v
      · rw [r3 p v, hsv _ (by omega)]
        have := h4 (p - 1) (by omega)
        rw [show p - 1 + 1 = p by omega] at this
        exact this
      · rw [show p = q by omega, r2, nup_eq]
        exact Nat.le_of_lt (w10 q (Nat.le_refl _) (by omega))
def zonE (F F' : Nat → Nat → Int32) (e : Nat) : Prop := (∀ r, r ≠ 28 → r ≠ 29 → r ≠ 30 → F' r = F r) ∧ (∀ x, x < e * 20 ∨ e * 20 + 20 ≤ x → F' 29 x = F 29 x ∧ F' 28 x = F 28 x) ∧ ∀ x, x ≠ e → F' 30 x = F 30 x
theorem zrk_of {F F' : Nat → Nat → Int32} {hh : Nat → Nat} {e u T N : Nat} {R sv : Nat → Nat} (q : zrk F hh u T N R sv) (hT : T ≤ 20) (hu : u ≠ e) (w : zonE F F' e) : zrk F' hh u T N R sv := by
  obtain ⟨h1, h2, h3, h4⟩ := q
  refine ⟨(w.2.2 u hu).trans h1, h2, fun p hp => ?_, h4⟩
  obtain ⟨k1, k2, k3, k4, k5⟩ := h3 p hp
  exact ⟨(w.2.1 _ (by omega)).1.trans k1, k2, k3, (w.2.1 _ (by omega)).2.trans k4, k5⟩
theorem zonE_tr {F G H : Nat → Nat → Int32} {e : Nat} (a : zonE F G e) (c : zonE G H e) : zonE F H e :=
  ⟨fun r h1 h2 h3 => (c.1 r h1 h2 h3).trans (a.1 r h1 h2 h3), fun x hx => ⟨(c.2.1 x hx).1.trans (a.2.1 x hx).1, (c.2.1 x hx).2.trans (a.2.1 x hx).2⟩, fun x hx => (c.2.2 x hx).trans (a.2.2 x hx)⟩
/-- what the tallies tell of template e -/
def zta2 (F : Nat → Nat → Int32) (m T e o : Nat) (hh al : Nat → Nat) : Prop := F 27 e = nI o ∧ o ≤ m ∧ ∀ c, c < T → F 25 (e * 20 + c) = nI (hh c) ∧ F 26 c = nI (al c) ∧ hh c ≤ o ∧ hh c ≤ al c ∧ al c - hh c ≤ m - o
theorem zta2_of {F F' : Nat → Nat → Int32} {m T e u o : Nat} {hh al : Nat → Nat} (q : zta2 F m T e o hh al) (w : zonE F F' u) : zta2 F' m T e o hh al := by
  unfold zta2
  rw [w.1 _ (by decide) (by decide) (by decide), w.1 25 (by decide) (by decide) (by decide), w.1 26 (by decide) (by decide) (by decide)]
  exact q
theorem c_quo {H : zH} (x o : Nat) (hx : x < 2 ^ 31) (ho : o < 2 ^ 31) : zcalls zTB 17 [.int (nI x), .int (nI o)] H (some (.int (nI (if o = 0 then 0 else x / o))), H) := by
  have hc := c_quotient (H := H) (nI x) (nI o)
  by_cases e : o = 0
  · subst e
    rw [if_pos (by rfl : nI 0 = 0)] at hc
    rw [if_pos rfl]
    exact hc
  · rw [if_neg (nI_ne0 (by omega) ho), pk_div hx (by omega) ho] at hc
    rw [if_neg e]
    exact hc
theorem l_rankC (hb : b + 71 ≤ h.length) {g : Nat → Nat} {Q : zR → Prop} (T m e o : Nat) (hh al : Nat → Nat) (hT : T ≤ 20) (hm : m ≤ 70) (he : e < T) (F0 : Nat → Nat → Int32) (h0 : zta2 F0 m T e o hh al) (k : ∀ F1 X Y, zonE F0 F1 e → (∃ N R sv, zrk F1 hh e T N R sv) → zev 59 113 [some (.ref (b + 52)), some (.int (nI T)), some (.int (nI m)), some (.int (nI e)), some (.int (nI o)), X, Y] [] (nput b F1 g h) Q) (c : Nat) (hc : c ≤ T) (F : Nat → Nat → Int32) (hF : zonE F0 F e) (N : Nat) (R sv : Nat → Nat) (q : zrk F hh e c N R sv) (X : Option Value) : zev 59 29 [some (.ref (b + 52)), some (.int (nI T)), some (.int (nI m)), some (.int (nI e)), some (.int (nI o)), some (.int (nI c)), X] [] (nput b F g h) Q := by
  obtain ⟨ho, hom, hcs⟩ := zta2_of h0 hF
  refine zev_of (fun _ kk => zr_iload (pc' := 31) zi_59_29 rfl rfl kk) ?_
  refine zev_of (fun _ kk => zr_iload_n (pc' := 32) zi_59_31 rfl rfl kk) ?_
  refine zv_icmp (pc' := 35) zi_59_32 rfl (fun h32 => ?_) (fun h32 => ?_)
  · replace h32 := zc_ge_t (by omega) (by omega) h32
    have e2 : c = T := by omega
    subst e2
    exact k F _ _ hF ⟨N, R, sv, q⟩
  · replace h32 := zc_ge_f (by omega) (by omega) h32
    obtain ⟨c1, c2, c3, c4, c5⟩ := hcs c (by omega)
    have hqA := c_quo (H := nput b F g h) (1000 * hh c) o (by omega) (by omega)
    have hqB := c_quo (H := nput b F g h) (1000 * (al c - hh c)) (m - o) (by omega) (by omega)
    obtain ⟨A, hA⟩ : ∃ A, A = if o = 0 then 0 else 1000 * hh c / o := ⟨_, rfl⟩
    obtain ⟨B, hB⟩ : ∃ B, B = if m - o = 0 then 0 else 1000 * (al c - hh c) / (m - o) := ⟨_, rfl⟩
    rw [← hA] at hqA
    rw [← hB] at hqB
    have hA1 : A ≤ 1000 := by
      rw [hA]
      split
      · omega
      · exact Nat.div_le_of_le_mul (by rw [Nat.mul_comm]; exact Nat.mul_le_mul_right _ c3)
    have hA0 : 0 < A → 1 ≤ hh c := by
      intro w
      refine Nat.pos_of_ne_zero fun v => ?_
      rw [hA, v] at w
      simp at w
    have hB1 : B ≤ 1000 := by
      rw [hB]
      split
      · omega
      · exact Nat.div_le_of_le_mul (by rw [Nat.mul_comm]; exact Nat.mul_le_mul_right _ c5)
    have hF1 : ∀ v, zonE F (updR F 28 (upd (F 28) (e * 20 + c) v)) e := fun v => ⟨fun r h1 h2 h3 => updR_ne h1, fun x hx => ⟨rfl, pk_un (by omega)⟩, fun _ _ => rfl⟩
    refine zev_of (fun _ kk => zr_sipush (v := (nI 1000)) (pc' := 38) zi_59_35 rfl rfl kk) ?_
    refine zev_of (fun _ kk => zr_aload_n (pc' := 39) zi_59_38 rfl rfl kk) ?_
    refine zev_of (fun _ kk => zr_iload_n (pc' := 40) zi_59_39 rfl rfl kk) ?_
    refine zev_of (fun _ kk => zr_iload (pc' := 42) zi_59_40 rfl rfl kk) ?_
    refine zev_of (fun _ kk => zr_v2 (pc' := 45) zi_59_42 (nput_at hb (k := 52) rfl) rfl (c_hits hb _ _ (by omega)) rfl kk) ?_
    rw [c1]
    refine zev_of (fun _ kk => zr_imul (pc' := 46) zi_59_45 (by first | exact pk_mul _ _ | rfl) rfl kk) ?_
    refine zev_of (fun _ kk => zr_iload (pc' := 48) zi_59_46 rfl rfl kk) ?_
    refine zev_of (fun _ kk => zr_s2 (pc' := 51) zi_59_48 rfl hqA rfl kk) ?_
    refine zev_of (fun _ kk => zr_sipush (v := (nI 1000)) (pc' := 54) zi_59_51 rfl rfl kk) ?_
    refine zev_of (fun _ kk => zr_aload_n (pc' := 55) zi_59_54 rfl rfl kk) ?_
    refine zev_of (fun _ kk => zr_iload_n (pc' := 56) zi_59_55 rfl rfl kk) ?_
    refine zev_of (fun _ kk => zr_iload (pc' := 58) zi_59_56 rfl rfl kk) ?_
    refine zev_of (fun _ kk => zr_v2 (pc' := 61) zi_59_58 (nput_at hb (k := 52) rfl) rfl (c_rest hb _ _ (by omega) (by omega)) rfl kk) ?_
    rw [c2, c1, pk_sub c4]
    refine zev_of (fun _ kk => zr_imul (pc' := 62) zi_59_61 (by first | exact pk_mul _ _ | rfl) rfl kk) ?_
    refine zev_of (fun _ kk => zr_iload_n (pc' := 63) zi_59_62 rfl rfl kk) ?_
    refine zev_of (fun _ kk => zr_iload (pc' := 65) zi_59_63 rfl rfl kk) ?_
    refine zev_of (fun _ kk => zr_isub (pc' := 66) zi_59_65 (by first | exact pk_sub (by omega) | rfl) rfl kk) ?_
    refine zev_of (fun _ kk => zr_s2 (pc' := 69) zi_59_66 rfl hqB rfl kk) ?_
    refine zev_of (fun _ kk => zr_isub (pc' := 70) zi_59_69 (by first | exact pk_sub (by omega) | rfl) rfl kk) ?_
    refine zev_of (fun _ kk => zr_istore (pc' := 72) zi_59_70 (Nat.le_of_ble_eq_true rfl) rfl rfl kk) ?_
    dsimp only [zst1, zst2, zkill, List.set, List.getElem?_cons_succ, List.getElem?_cons_zero]
    refine zev_of (fun _ kk => zr_aload_n (pc' := 73) zi_59_72 rfl rfl kk) ?_
    refine zev_of (fun _ kk => zr_get (pc' := 76) zi_59_73 (nput_at hb (k := 52) rfl) rfl rfl kk) ?_
    refine zev_of (fun _ kk => zr_iload_n (pc' := 77) zi_59_76 rfl rfl kk) ?_
    refine zev_of (fun _ kk => zr_iload (pc' := 79) zi_59_77 rfl rfl kk) ?_
    refine zev_of (fun _ kk => zr_s2 (pc' := 82) zi_59_79 rfl (c_pairN _ _) rfl kk) ?_
    refine zev_of (fun _ kk => zr_iload (pc' := 84) zi_59_82 rfl rfl kk) ?_
    refine zev_of (fun _ kk => zr_rputN (pc' := 87) (rr := 28) (by omega) zi_59_84 hb rfl rfl (fun _ => rfl) (by decide) (by decide) rfl rfl kk) ?_
    refine zev_of (fun _ kk => zr_iload (pc' := 89) zi_59_87 rfl rfl kk) ?_
    refine zev_of (fun _ kk => zr_iload_n (pc' := 90) zi_59_89 rfl rfl kk) ?_
    refine zv_icmp (pc' := 93) zi_59_90 rfl (fun h90 => ?_) (fun h90 => ?_)
    · replace h90 := zc_eq_t h90
      refine zev_of (fun _ kk => zr_iinc (pc' := 110) zi_59_107 rfl (by first | exact n_inc _ | rfl) rfl rfl kk) ?_
      dsimp only [zst1, zst2, zkill, List.set, List.getElem?_cons_succ, List.getElem?_cons_zero]
      refine zev_of (fun _ kk => zr_goto zi_59_110 kk) ?_
      exact l_rankC hb T m e o hh al hT hm he F0 h0 k (c + 1) (by omega) _ (zonE_tr hF (hF1 _)) N R sv (zrk_skip q _) _
    · replace h90 := zc_eq_f h90
      refine zev_of (fun _ kk => zr_iload (pc' := 95) zi_59_93 rfl rfl kk) ?_
      refine zv_if (pc' := 98) zi_59_95 rfl (fun h95 => ?_) (fun h95 => ?_)
      · replace h95 := zx_le_t h95
        refine zev_of (fun _ kk => zr_iinc (pc' := 110) zi_59_107 rfl (by first | exact n_inc _ | rfl) rfl rfl kk) ?_
        dsimp only [zst1, zst2, zkill, List.set, List.getElem?_cons_succ, List.getElem?_cons_zero]
        refine zev_of (fun _ kk => zr_goto zi_59_110 kk) ?_
        exact l_rankC hb T m e o hh al hT hm he F0 h0 k (c + 1) (by omega) _ (zonE_tr hF (hF1 _)) N R sv (zrk_skip q _) _
      · replace h95 := zx_le_f h95
        refine zev_of (fun _ kk => zr_aload_n (pc' := 99) zi_59_98 rfl rfl kk) ?_
        refine zev_of (fun _ kk => zr_iload_n (pc' := 100) zi_59_99 rfl rfl kk) ?_
        refine zev_of (fun _ kk => zr_iload (pc' := 102) zi_59_100 rfl rfl kk) ?_
        refine zev_of (fun _ kk => zr_iload (pc' := 104) zi_59_102 rfl rfl kk) ?_
        have hBA : B < A := by
          refine Nat.lt_of_not_le fun w => h95 ?_
          rcases Nat.lt_or_ge A B with v | v
          · exact Int32.le_of_lt (pk_sneg (by omega) v)
          · rw [show A = B by omega, Int32.sub_self]
            exact Int32.le_refl _
        have hce : c ≠ e := fun w => h90 (by rw [w])
        obtain ⟨q1, q2, q3, q4⟩ := q
        obtain ⟨F2, g2, ⟨⟨pl, hpl⟩, hg2⟩, hcl⟩ := c_enterC hb (updR F 28 (upd (F 28) (e * 20 + c) (nI (A - B)))) g e c N (A - B) R sv (by omega) (by omega) (by omega) q1 (fun p hp => (q3 p hp).1) (fun p hp => by
          obtain ⟨k1, k2, k3, k4, k5⟩ := q3 p hp
          exact ⟨by omega, (pk_un (by omega)).trans k4, k5.2.1⟩)
        subst hg2
        rw [pk_sub (Nat.le_of_lt hBA)]
        refine zev_of (fun _ kk => zr_n3 (pc' := 107) zi_59_104 (nput_at hb (k := 52) rfl) rfl hcl rfl kk) ?_
        refine zev_of (fun _ kk => zr_iinc (pc' := 110) zi_59_107 rfl (by first | exact n_inc _ | rfl) rfl rfl kk) ?_
        dsimp only [zst1, zst2, zkill, List.set, List.getElem?_cons_succ, List.getElem?_cons_zero]
        refine zev_of (fun _ kk => zr_goto zi_59_110 kk) ?_
        obtain ⟨R', sv', hz⟩ := zrk_enter ⟨q1, q2, q3, q4⟩ hpl hce (by omega) (by omega) (hA0 (by omega))
        refine l_rankC hb T m e o hh al hT hm he F0 h0 k (c + 1) (by omega) F2 (zonE_tr hF (zonE_tr (hF1 _) ⟨fun r h1 h2 h3 => hpl.1 r h2 h3, fun x hx => ⟨hpl.2.1 x hx, by rw [hpl.1 _ (by decide) (by decide)]⟩, fun x hx => hpl.2.2.1 x hx⟩)) (N + 1) R' sv' hz _
termination_by T - c
theorem l_rankCauses (hb : b + 71 ≤ h.length) (g : Nat → Nat) (T m : Nat) (hT : T ≤ 20) (hm : m ≤ 70) (o : Nat → Nat) (hh : Nat → Nat → Nat) (al : Nat → Nat) (e : Nat) (he : e ≤ T) (F : Nat → Nat → Int32) (h0 : ∀ u, u < T → zta2 F m T u (o u) (hh u) al) (q : ∀ u, u < e → ∃ N R sv, zrk F (hh u) u T N R sv) (X Y Z : Option Value) : zev 59 2 [some (.ref (b + 52)), some (.int (nI T)), some (.int (nI m)), some (.int (nI e)), X, Y, Z] [] (nput b F g h) (zQn b h fun F' g' => ((∀ r, r ≠ 28 → r ≠ 29 → r ≠ 30 → F' r = F r) ∧ ∀ u, u < T → ∃ N R sv, zrk F' (hh u) u T N R sv) ∧ g' = g) := by
  refine zev_of (fun _ kk => zr_iload_n (pc' := 3) zi_59_2 rfl rfl kk) ?_
  refine zev_of (fun _ kk => zr_iload_n (pc' := 4) zi_59_3 rfl rfl kk) ?_
  refine zv_icmp (pc' := 7) zi_59_4 rfl (fun h4 => ?_) (fun h4 => ?_)
  · replace h4 := zc_ge_t (by omega) (by omega) h4
    refine zev_ret (zr_return zi_59_119 rfl) ?_
    have e2 : e = T := by omega
    exact ⟨_, _, ⟨⟨fun _ _ _ _ => rfl, e2 ▸ q⟩, rfl⟩, rfl⟩
  · replace h4 := zc_ge_f (by omega) (by omega) h4
    refine zev_of (fun _ kk => zr_aload_n (pc' := 8) zi_59_7 rfl rfl kk) ?_
    refine zev_of (fun _ kk => zr_get (pc' := 11) zi_59_8 (nput_at hb (k := 52) rfl) rfl rfl kk) ?_
    refine zev_of (fun _ kk => zr_iload_n (pc' := 12) zi_59_11 rfl rfl kk) ?_
    refine zev_of (fun _ kk => zr_atN (pc' := 15) (by omega) zi_59_12 hb rfl rfl (by decide) rfl rfl kk) ?_
    rw [(h0 e (by omega)).1]
    refine zev_of (fun _ kk => zr_istore (pc' := 17) zi_59_15 (Nat.le_of_ble_eq_true rfl) rfl rfl kk) ?_
    dsimp only [zst1, zst2, zkill, List.set, List.getElem?_cons_succ, List.getElem?_cons_zero]
    refine zev_of (fun _ kk => zr_aload_n (pc' := 18) zi_59_17 rfl rfl kk) ?_
    refine zev_of (fun _ kk => zr_get (pc' := 21) zi_59_18 (nput_at hb (k := 52) rfl) rfl rfl kk) ?_
    refine zev_of (fun _ kk => zr_iload_n (pc' := 22) zi_59_21 rfl rfl kk) ?_
    refine zev_of (fun _ kk => zr_iconst (v := (nI 0)) (pc' := 23) zi_59_22 rfl rfl kk) ?_
    refine zev_of (fun _ kk => zr_rputN (pc' := 26) (rr := 30) (by omega) zi_59_23 hb rfl rfl (fun _ => rfl) (by decide) (by decide) rfl rfl kk) ?_
    refine zev_of (fun _ kk => zr_iconst (v := (nI 0)) (pc' := 27) zi_59_26 rfl rfl kk) ?_
    refine zev_of (fun _ kk => zr_istore (pc' := 29) zi_59_27 (Nat.le_of_ble_eq_true rfl) rfl rfl kk) ?_
    dsimp only [zst1, zst2, zkill, List.set, List.getElem?_cons_succ, List.getElem?_cons_zero]
    have hw : zonE F (updR F 30 (upd (F 30) e (nI 0))) e := ⟨fun r h1 h2 h3 => updR_ne h3, fun x hx => ⟨rfl, rfl⟩, fun x hx => pk_un hx⟩
    refine l_rankC hb T m e (o e) (hh e) al hT hm (by omega) _ (zta2_of (h0 e (by omega)) hw) (fun F1 X Y h1 h2 => ?_) 0 (Nat.zero_le _) _ ⟨fun _ _ _ _ => rfl, fun _ _ => ⟨rfl, rfl⟩, fun _ _ => rfl⟩ 0 (fun _ => 0) (fun _ => 0) ⟨pk_us, Nat.le_refl _, fun p hp => absurd hp (Nat.not_lt_zero _), fun p hp => absurd hp (Nat.not_lt_zero _)⟩ _
    refine zev_of (fun _ kk => zr_iinc (pc' := 116) zi_59_113 rfl (by first | exact n_inc _ | rfl) rfl rfl kk) ?_
    dsimp only [zst1, zst2, zkill, List.set, List.getElem?_cons_succ, List.getElem?_cons_zero]
    refine zev_of (fun _ kk => zr_goto zi_59_116 kk) ?_
    have h3 := zonE_tr hw h1
    refine zev_mono (l_rankCauses hb g T m hT hm o hh al (e + 1) (by omega) F1 (fun u hu => zta2_of (h0 u hu) h3) (fun u hu => ?_) _ _ _) ?_
    · rcases Nat.lt_or_ge u e with v | v
      · obtain ⟨N, R, sv, z⟩ := q u v
        exact ⟨N, R, sv, zrk_of z hT (by omega) h3⟩
      · rw [show u = e by omega]
        exact h2
    · rintro p ⟨F', g', ⟨⟨k1, k2⟩, k3⟩, rfl⟩
      exact ⟨F', g', ⟨⟨fun r h4 h5 h6 => (k1 r h4 h5 h6).trans (h3.1 r h4 h5 h6), k2⟩, k3⟩, rfl⟩
termination_by T - e
theorem c_rankCauses (hb : b + 71 ≤ h.length) (F : Nat → Nat → Int32) (g : Nat → Nat) (T m : Nat) (hT : T ≤ 20) (hm : m ≤ 70) (o : Nat → Nat) (hh : Nat → Nat → Nat) (al : Nat → Nat) (h0 : ∀ u, u < T → zta2 F m T u (o u) (hh u) al) : ∃ F' g', (((∀ r, r ≠ 28 → r ≠ 29 → r ≠ 30 → F' r = F r) ∧ ∀ u, u < T → ∃ N R sv, zrk F' (hh u) u T N R sv) ∧ g' = g) ∧ zcalls zTB 59 [.ref (b + 52), .int (nI T), .int (nI m)] (nput b F g h) (none, nput b F' g' h) := by
  refine zQn_out (zev_calls (Nat.le_of_ble_eq_true rfl) ?_)
  show zev 59 0 [some (.ref (b + 52)), some (.int (nI T)), some (.int (nI m)), none, none, none, none] [] _ _
  refine zev_of (fun _ kk => zr_iconst (v := (nI 0)) (pc' := 1) zi_59_0 rfl rfl kk) ?_
  refine zev_of (fun _ kk => zr_istore_n (pc' := 2) zi_59_1 (Nat.le_of_ble_eq_true rfl) rfl rfl kk) ?_
  dsimp only [zst1, zst2, zkill, List.set, List.getElem?_cons_succ, List.getElem?_cons_zero]
  exact l_rankCauses hb g T m hT hm o hh al 0 (Nat.zero_le _) F h0 (fun u hu => absurd hu (Nat.not_lt_zero _)) none none none
end


theorem zi_75_0 : zI 75 0 = some (.aload_n 0, []) := by decide +kernel
theorem zi_75_1 : zI 75 1 = some (.iconst 0, []) := by decide +kernel
theorem zi_75_2 : zI 75 2 = some (.putfield 29, [4, 4, 0, 371]) := by decide +kernel
theorem zi_75_5 : zI 75 5 = some (.aload_n 0, []) := by decide +kernel
theorem zi_75_6 : zI 75 6 = some (.getfield 26, [4, 3, 370]) := by decide +kernel
theorem zi_75_9 : zI 75 9 = some (.invokevirtual 33, [18, 0, 0, 1, 309, 310, 19, 308, 0, 372]) := by decide +kernel
theorem zi_75_12 : zI 75 12 = some (.iconst 0, []) := by decide +kernel
theorem zi_75_13 : zI 75 13 = some (.istore 4, []) := by decide +kernel
theorem zi_75_15 : zI 75 15 = some (.iload 4, []) := by decide +kernel
theorem zi_75_17 : zI 75 17 = some (.aload_n 1, []) := by decide +kernel
theorem zi_75_18 : zI 75 18 = some (.getfield 36, [0, 8, 373]) := by decide +kernel
theorem zi_75_21 : zI 75 21 = some (.if_icmp .ge 80, [101]) := by decide +kernel
theorem zi_75_24 : zI 75 24 = some (.aload_n 0, []) := by decide +kernel
theorem zi_75_25 : zI 75 25 = some (.getfield 26, [4, 3, 370]) := by decide +kernel
theorem zi_75_28 : zI 75 28 = some (.aload_n 1, []) := by decide +kernel
theorem zi_75_29 : zI 75 29 = some (.getfield 41, [0, 5, 374]) := by decide +kernel
theorem zi_75_32 : zI 75 32 = some (.iload 4, []) := by decide +kernel
theorem zi_75_34 : zI 75 34 = some (.invokevirtual 44, [0, 0, 1, 1, 17, 18, 19, 16, 0, 375]) := by decide +kernel
theorem zi_75_37 : zI 75 37 = some (.invokevirtual 48, [9, 0, 1, 1, 314, 315, 19, 313, 0, 376]) := by decide +kernel
theorem zi_75_40 : zI 75 40 = some (.aload_n 1, []) := by decide +kernel
theorem zi_75_41 : zI 75 41 = some (.getfield 51, [0, 0, 377]) := by decide +kernel
theorem zi_75_44 : zI 75 44 = some (.iload 4, []) := by decide +kernel
theorem zi_75_46 : zI 75 46 = some (.invokevirtual 44, [0, 0, 1, 1, 17, 18, 19, 16, 0, 375]) := by decide +kernel
theorem zi_75_49 : zI 75 49 = some (.iload_n 3, []) := by decide +kernel
theorem zi_75_50 : zI 75 50 = some (.invokestatic 54, [17, 1, 2, 0, 30, 0, 9, 29, 1, 4]) := by decide +kernel
theorem zi_75_53 : zI 75 53 = some (.istore 5, []) := by decide +kernel
theorem zi_75_55 : zI 75 55 = some (.iload 4, []) := by decide +kernel
theorem zi_75_57 : zI 75 57 = some (.iconst 1, []) := by decide +kernel
theorem zi_75_58 : zI 75 58 = some (.iadd, []) := by decide +kernel
theorem zi_75_59 : zI 75 59 = some (.aload_n 1, []) := by decide +kernel
theorem zi_75_60 : zI 75 60 = some (.getfield 36, [0, 8, 373]) := by decide +kernel
theorem zi_75_63 : zI 75 63 = some (.if_icmp .eq 23, [86]) := by decide +kernel
theorem zi_75_66 : zI 75 66 = some (.aload_n 1, []) := by decide +kernel
theorem zi_75_67 : zI 75 67 = some (.getfield 51, [0, 0, 377]) := by decide +kernel
theorem zi_75_70 : zI 75 70 = some (.iload 4, []) := by decide +kernel
theorem zi_75_72 : zI 75 72 = some (.iconst 1, []) := by decide +kernel
theorem zi_75_73 : zI 75 73 = some (.iadd, []) := by decide +kernel
theorem zi_75_74 : zI 75 74 = some (.invokevirtual 44, [0, 0, 1, 1, 17, 18, 19, 16, 0, 375]) := by decide +kernel
theorem zi_75_77 : zI 75 77 = some (.iload_n 3, []) := by decide +kernel
theorem zi_75_78 : zI 75 78 = some (.invokestatic 54, [17, 1, 2, 0, 30, 0, 9, 29, 1, 4]) := by decide +kernel
theorem zi_75_81 : zI 75 81 = some (.iload 5, []) := by decide +kernel
theorem zi_75_83 : zI 75 83 = some (.if_icmp .eq 12, [95]) := by decide +kernel
theorem zi_75_86 : zI 75 86 = some (.aload_n 0, []) := by decide +kernel
theorem zi_75_87 : zI 75 87 = some (.aload_n 1, []) := by decide +kernel
theorem zi_75_88 : zI 75 88 = some (.iload_n 2, []) := by decide +kernel
theorem zi_75_89 : zI 75 89 = some (.iload 5, []) := by decide +kernel
theorem zi_75_91 : zI 75 91 = some (.iload_n 3, []) := by decide +kernel
theorem zi_75_92 : zI 75 92 = some (.invokevirtual 58, [76, 0, 4, 4, 380, 381, 168, 379, 0, 378]) := by decide +kernel
theorem zi_75_95 : zI 75 95 = some (.iinc 4 1, []) := by decide +kernel
theorem zi_75_98 : zI 75 98 = some (.goto (-83), [15]) := by decide +kernel
theorem zi_75_101 : zI 75 101 = some (.return_, []) := by decide +kernel
theorem zi_76_0 : zI 76 0 = some (.iconst 0, []) := by decide +kernel
theorem zi_76_1 : zI 76 1 = some (.istore 5, []) := by decide +kernel
theorem zi_76_3 : zI 76 3 = some (.iload 5, []) := by decide +kernel
theorem zi_76_5 : zI 76 5 = some (.iload_n 2, []) := by decide +kernel
theorem zi_76_6 : zI 76 6 = some (.if_icmp .ge 70, [76]) := by decide +kernel
theorem zi_76_9 : zI 76 9 = some (.aload_n 0, []) := by decide +kernel
theorem zi_76_10 : zI 76 10 = some (.getfield 26, [4, 3, 370]) := by decide +kernel
theorem zi_76_13 : zI 76 13 = some (.iload 5, []) := by decide +kernel
theorem zi_76_15 : zI 76 15 = some (.invokevirtual 44, [0, 0, 1, 1, 17, 18, 19, 16, 0, 375]) := by decide +kernel
theorem zi_76_18 : zI 76 18 = some (.istore 6, []) := by decide +kernel
theorem zi_76_20 : zI 76 20 = some (.iload 6, []) := by decide +kernel
theorem zi_76_22 : zI 76 22 = some (.iconst 3, []) := by decide +kernel
theorem zi_76_23 : zI 76 23 = some (.if_icmp .lt 37, [60]) := by decide +kernel
theorem zi_76_26 : zI 76 26 = some (.aload_n 1, []) := by decide +kernel
theorem zi_76_27 : zI 76 27 = some (.iload 5, []) := by decide +kernel
theorem zi_76_29 : zI 76 29 = some (.iload_n 3, []) := by decide +kernel
theorem zi_76_30 : zI 76 30 = some (.iconst 4, []) := by decide +kernel
theorem zi_76_31 : zI 76 31 = some (.isub, []) := by decide +kernel
theorem zi_76_32 : zI 76 32 = some (.iload_n 3, []) := by decide +kernel
theorem zi_76_33 : zI 76 33 = some (.iconst 1, []) := by decide +kernel
theorem zi_76_34 : zI 76 34 = some (.isub, []) := by decide +kernel
theorem zi_76_35 : zI 76 35 = some (.iload 4, []) := by decide +kernel
theorem zi_76_37 : zI 76 37 = some (.invokevirtual 62, [31, 0, 4, 0, 384, 385, 91, 383, 0, 382]) := by decide +kernel
theorem zi_76_40 : zI 76 40 = some (.istore 7, []) := by decide +kernel
theorem zi_76_42 : zI 76 42 = some (.iconst 2, []) := by decide +kernel
theorem zi_76_43 : zI 76 43 = some (.iload 6, []) := by decide +kernel
theorem zi_76_45 : zI 76 45 = some (.imul, []) := by decide +kernel
theorem zi_76_46 : zI 76 46 = some (.iload 7, []) := by decide +kernel
theorem zi_76_48 : zI 76 48 = some (.if_icmp .le 12, [60]) := by decide +kernel
theorem zi_76_51 : zI 76 51 = some (.aload_n 0, []) := by decide +kernel
theorem zi_76_52 : zI 76 52 = some (.iload_n 3, []) := by decide +kernel
theorem zi_76_53 : zI 76 53 = some (.iload 5, []) := by decide +kernel
theorem zi_76_55 : zI 76 55 = some (.iload 6, []) := by decide +kernel
theorem zi_76_57 : zI 76 57 = some (.invokevirtual 66, [77, 0, 3, 4, 388, 389, 168, 387, 0, 386]) := by decide +kernel
theorem zi_76_60 : zI 76 60 = some (.aload_n 0, []) := by decide +kernel
theorem zi_76_61 : zI 76 61 = some (.getfield 26, [4, 3, 370]) := by decide +kernel
theorem zi_76_64 : zI 76 64 = some (.iload 5, []) := by decide +kernel
theorem zi_76_66 : zI 76 66 = some (.iconst 0, []) := by decide +kernel
theorem zi_76_67 : zI 76 67 = some (.invokevirtual 70, [1, 0, 2, 1, 282, 283, 19, 281, 0, 390]) := by decide +kernel
theorem zi_76_70 : zI 76 70 = some (.iinc 5 1, []) := by decide +kernel
theorem zi_76_73 : zI 76 73 = some (.goto (-70), [3]) := by decide +kernel
theorem zi_76_76 : zI 76 76 = some (.return_, []) := by decide +kernel
theorem zi_77_0 : zI 77 0 = some (.aload_n 0, []) := by decide +kernel
theorem zi_77_1 : zI 77 1 = some (.getfield 14, [4, 0, 367]) := by decide +kernel
theorem zi_77_4 : zI 77 4 = some (.aload_n 0, []) := by decide +kernel
theorem zi_77_5 : zI 77 5 = some (.getfield 29, [4, 4, 371]) := by decide +kernel
theorem zi_77_8 : zI 77 8 = some (.iload_n 1, []) := by decide +kernel
theorem zi_77_9 : zI 77 9 = some (.invokevirtual 70, [1, 0, 2, 1, 282, 283, 19, 281, 0, 390]) := by decide +kernel
theorem zi_77_12 : zI 77 12 = some (.aload_n 0, []) := by decide +kernel
theorem zi_77_13 : zI 77 13 = some (.getfield 20, [4, 1, 368]) := by decide +kernel
theorem zi_77_16 : zI 77 16 = some (.aload_n 0, []) := by decide +kernel
theorem zi_77_17 : zI 77 17 = some (.getfield 29, [4, 4, 371]) := by decide +kernel
theorem zi_77_20 : zI 77 20 = some (.iload_n 2, []) := by decide +kernel
theorem zi_77_21 : zI 77 21 = some (.invokevirtual 70, [1, 0, 2, 1, 282, 283, 19, 281, 0, 390]) := by decide +kernel
theorem zi_77_24 : zI 77 24 = some (.aload_n 0, []) := by decide +kernel
theorem zi_77_25 : zI 77 25 = some (.getfield 23, [4, 2, 369]) := by decide +kernel
theorem zi_77_28 : zI 77 28 = some (.aload_n 0, []) := by decide +kernel
theorem zi_77_29 : zI 77 29 = some (.getfield 29, [4, 4, 371]) := by decide +kernel
theorem zi_77_32 : zI 77 32 = some (.iload_n 3, []) := by decide +kernel
theorem zi_77_33 : zI 77 33 = some (.invokevirtual 70, [1, 0, 2, 1, 282, 283, 19, 281, 0, 390]) := by decide +kernel
theorem zi_77_36 : zI 77 36 = some (.aload_n 0, []) := by decide +kernel
theorem zi_77_37 : zI 77 37 = some (.dup, []) := by decide +kernel
theorem zi_77_38 : zI 77 38 = some (.getfield 29, [4, 4, 371]) := by decide +kernel
theorem zi_77_41 : zI 77 41 = some (.iconst 1, []) := by decide +kernel
theorem zi_77_42 : zI 77 42 = some (.iadd, []) := by decide +kernel
theorem zi_77_43 : zI 77 43 = some (.putfield 29, [4, 4, 0, 371]) := by decide +kernel
theorem zi_77_46 : zI 77 46 = some (.return_, []) := by decide +kernel
/-! spikes -/
section
variable {b : Nat} {h : zH}
theorem zsum_le {f : Nat → Nat} {m : Nat} : ∀ {n : Nat}, m ≤ n → zsum f m ≤ zsum f n
  | 0, h => by rw [show m = 0 by omega]; exact Nat.le_refl _
  | n + 1, h => by
    rcases Nat.lt_or_ge n m with q | q
    · rw [show m = n + 1 by omega]; exact Nat.le_refl _
    · exact Nat.le_trans (zsum_le (n := n) q) (Nat.le_add_right _ _)
theorem zcnt_tail {p : Nat → Bool} {n : Nat} : ∀ {m : Nat}, n ≤ m → (∀ j, n ≤ j → j < m → p j = false) → zcnt p m = zcnt p n
  | 0, h, _ => by rw [show n = 0 by omega]
  | m + 1, h, k => by
    rcases Nat.lt_or_ge m n with q | q
    · rw [show n = m + 1 by omega]
    · rw [zcnt_f (k m q (by omega)), zcnt_tail (m := m) q fun j h1 h2 => k j h1 (by omega)]
theorem c_enterS (hb : b + 71 ≤ h.length) (F : Nat → Nat → Int32) (g : Nat → Nat) (v t c : Int32) (hP : g 5 < 23) : zcalls zTB 77 [.ref (b + 43), .int v, .int t, .int c] (nput b F g h) (none, nput b (updR (updR (updR F 19 (upd (F 19) (g 5) v)) 20 (upd (F 20) (g 5) t)) 21 (upd (F 21) (g 5) c)) (updG g 5 (g 5 + 1)) h) := by
  refine zcalls_of (Nat.le_of_ble_eq_true rfl) ?_
  show zruns zTB 77 0 [some (.ref (b + 43)), some (.int v), some (.int t), some (.int c)] [] _ _
  refine zr_aload_n (pc' := 1) zi_77_0 rfl rfl ?_
  refine zr_get (pc' := 4) zi_77_1 (nput_at hb (k := 43) rfl) rfl rfl ?_
  refine zr_aload_n (pc' := 5) zi_77_4 rfl rfl ?_
  refine zr_get (pc' := 8) zi_77_5 (nput_at hb (k := 43) rfl) rfl rfl ?_
  refine zr_iload_n (pc' := 9) zi_77_8 rfl rfl ?_
  refine zr_rputN (pc' := 12) (rr := 19) (by omega) zi_77_9 hb rfl rfl (fun _ => rfl) (by decide) (by decide) rfl rfl ?_
  refine zr_aload_n (pc' := 13) zi_77_12 rfl rfl ?_
  refine zr_get (pc' := 16) zi_77_13 (nput_at hb (k := 43) rfl) rfl rfl ?_
  refine zr_aload_n (pc' := 17) zi_77_16 rfl rfl ?_
  refine zr_get (pc' := 20) zi_77_17 (nput_at hb (k := 43) rfl) rfl rfl ?_
  refine zr_iload_n (pc' := 21) zi_77_20 rfl rfl ?_
  refine zr_rputN (pc' := 24) (rr := 20) (by omega) zi_77_21 hb rfl rfl (fun _ => rfl) (by decide) (by decide) rfl rfl ?_
  refine zr_aload_n (pc' := 25) zi_77_24 rfl rfl ?_
  refine zr_get (pc' := 28) zi_77_25 (nput_at hb (k := 43) rfl) rfl rfl ?_
  refine zr_aload_n (pc' := 29) zi_77_28 rfl rfl ?_
  refine zr_get (pc' := 32) zi_77_29 (nput_at hb (k := 43) rfl) rfl rfl ?_
  refine zr_iload_n (pc' := 33) zi_77_32 rfl rfl ?_
  refine zr_rputN (pc' := 36) (rr := 21) (by omega) zi_77_33 hb rfl rfl (fun _ => rfl) (by decide) (by decide) rfl rfl ?_
  refine zr_aload_n (pc' := 37) zi_77_36 rfl rfl ?_
  refine zr_dup (pc' := 38) zi_77_37 rfl rfl ?_
  refine zr_get (pc' := 41) zi_77_38 (nput_at hb (k := 43) rfl) rfl rfl ?_
  refine zr_iconst (v := (nI 1)) (pc' := 42) zi_77_41 rfl rfl ?_
  refine zr_iadd (pc' := 43) zi_77_42 (by first | exact nI_add _ _ | rfl) rfl ?_
  refine zr_put (pc' := 46) zi_77_43 (by omega) (nput_at hb (k := 43) rfl) (Nat.le_of_ble_eq_true rfl) rfl rfl (nput_set (g' := updG _ 5 (_)) hb (by decide) rfl) ?_
  exact zr_return zi_77_46 rfl
/-- the rows of the spikes alone are changed -/
def zonK (F F' : Nat → Nat → Int32) : Prop := ∀ r, r < 19 ∨ 22 < r → F' r = F r
/-- closing a window from template t on -/
def zclo (F : Nat → Nat → Int32) (P T t : Nat) (W : Nat → Nat) (v : Int32) (F' : Nat → Nat → Int32) (P' : Nat) : Prop := zonK F F' ∧ P ≤ P' ∧ 3 * P' + zsum W t ≤ 3 * P + zsum W T ∧
  (∀ k, k < P → F' 19 k = F 19 k ∧ F' 20 k = F 20 k ∧ F' 21 k = F 21 k) ∧
  (∀ k, P ≤ k → k < P' → F' 19 k = v ∧ ∃ u, u < T ∧ F' 20 k = nI u ∧ 3 ≤ W u ∧ F' 21 k = nI (W u)) ∧
  (∀ u, t ≤ u → u < T → F' 22 u = 0) ∧ ∀ u, u < t → F' 22 u = F 22 u
theorem l_closeWindow (hb : b + 71 ≤ h.length) (F : Nat → Nat → Int32) (g : Nat → Nat) (T : Nat) (v w : Int32) (W : Nat → Nat) (hn : g 1 ≤ 70) (hT : T ≤ 20) (hW : ∀ u, u < T → W u ≤ 70) (t : Nat) (ht : t ≤ T) (hF : ∀ u, t ≤ u → u < T → F 22 u = nI (W u)) (hP : 3 * g 5 + zsum W T ≤ 70 + zsum W t) (X Y : Option Value) : zev 76 3 [some (.ref (b + 43)), some (.ref (b + 1)), some (.int (nI T)), some (.int v), some (.int w), some (.int (nI t)), X, Y] [] (nput b F g h) (zQn b h fun F' g' => ∃ P', g' = updG g 5 P' ∧ zclo F (g 5) T t W v F' P') := by
  have hskip : t < T → ∀ X Y, zev 76 3 [some (.ref (b + 43)), some (.ref (b + 1)), some (.int (nI T)), some (.int v), some (.int w), some (.int (nI (t + 1))), X, Y] [] (nput b (updR F 22 (upd (F 22) t (nI 0))) g h) (zQn b h fun F' g' => ∃ P', g' = updG g 5 P' ∧ zclo F (g 5) T t W v F' P') := by
    intro htT X Y
    have hz : zsum W (t + 1) = zsum W t + W t := rfl
    refine zev_mono (l_closeWindow hb (updR F 22 (upd (F 22) t (nI 0))) g T v w W hn hT hW (t + 1) (by omega) (fun u h1 h2 => (pk_un (by omega)).trans (hF u (by omega) h2)) (by omega) X Y) ?_
    rintro q ⟨F', g', ⟨P', h1, h2, h3, h4, h5, h6, h7, h8⟩, rfl⟩
    refine ⟨F', g', ⟨P', h1, fun r hr => (h2 r hr).trans (updR_ne (by omega)), h3, by omega, h5, h6, fun u h9 h10 => ?_, fun u hu => (h8 u (by omega)).trans (pk_un (by omega))⟩, rfl⟩
    rcases Nat.lt_or_ge t u with k | k
    · exact h7 u k h10
    · rw [show u = t by omega]
      exact (h8 t (by omega)).trans pk_us
  refine zev_of (fun _ kk => zr_iload (pc' := 5) zi_76_3 rfl rfl kk) ?_
  refine zev_of (fun _ kk => zr_iload_n (pc' := 6) zi_76_5 rfl rfl kk) ?_
  refine zv_icmp (pc' := 9) zi_76_6 rfl (fun h6 => ?_) (fun h6 => ?_)
  · replace h6 := zc_ge_t (by omega) (by omega) h6
    refine zev_ret (zr_return zi_76_76 rfl) ?_
    have e : t = T := by omega
    subst e
    refine ⟨_, _, ⟨g 5, ?_, fun _ _ => rfl, Nat.le_refl _, Nat.le_refl _, fun _ _ => ⟨rfl, rfl, rfl⟩, fun k h1 h2 => absurd h1 (by omega), fun u h1 h2 => absurd h1 (by omega), fun _ _ => rfl⟩, rfl⟩
    funext k
    unfold updG
    split
    · rename_i e
      rw [e]
    · rfl
  · replace h6 := zc_ge_f (by omega) (by omega) h6
    refine zev_of (fun _ kk => zr_aload_n (pc' := 10) zi_76_9 rfl rfl kk) ?_
    refine zev_of (fun _ kk => zr_get (pc' := 13) zi_76_10 (nput_at hb (k := 43) rfl) rfl rfl kk) ?_
    refine zev_of (fun _ kk => zr_iload (pc' := 15) zi_76_13 rfl rfl kk) ?_
    refine zev_of (fun _ kk => zr_atN (pc' := 18) (by omega) zi_76_15 hb rfl rfl (by decide) rfl rfl kk) ?_
    rw [hF t (Nat.le_refl _) (by omega)]
    refine zev_of (fun _ kk => zr_istore (pc' := 20) zi_76_18 (Nat.le_of_ble_eq_true rfl) rfl rfl kk) ?_
    dsimp only [zst1, zst2, zkill, List.set, List.getElem?_cons_succ, List.getElem?_cons_zero]
    refine zev_of (fun _ kk => zr_iload (pc' := 22) zi_76_20 rfl rfl kk) ?_
    refine zev_of (fun _ kk => zr_iconst (v := (nI 3)) (pc' := 23) zi_76_22 rfl rfl kk) ?_
    have hWt := hW t (by omega)
    refine zv_icmp (pc' := 26) zi_76_23 rfl (fun h23 => ?_) (fun h23 => ?_)
    · replace h23 := zc_lt_t (by omega) (by omega) h23
      refine zev_of (fun _ kk => zr_aload_n (pc' := 61) zi_76_60 rfl rfl kk) ?_
      refine zev_of (fun _ kk => zr_get (pc' := 64) zi_76_61 (nput_at hb (k := 43) rfl) rfl rfl kk) ?_
      refine zev_of (fun _ kk => zr_iload (pc' := 66) zi_76_64 rfl rfl kk) ?_
      refine zev_of (fun _ kk => zr_iconst (v := (nI 0)) (pc' := 67) zi_76_66 rfl rfl kk) ?_
      refine zev_of (fun _ kk => zr_rputN (pc' := 70) (rr := 22) (by omega) zi_76_67 hb rfl rfl (fun _ => rfl) (by decide) (by decide) rfl rfl kk) ?_
      refine zev_of (fun _ kk => zr_iinc (pc' := 73) zi_76_70 rfl (by first | exact n_inc _ | rfl) rfl rfl kk) ?_
      dsimp only [zst1, zst2, zkill, List.set, List.getElem?_cons_succ, List.getElem?_cons_zero]
      refine zev_of (fun _ kk => zr_goto zi_76_73 kk) ?_
      exact hskip (by omega) _ _
    · replace h23 := zc_lt_f (by omega) (by omega) h23
      refine zev_of (fun _ kk => zr_aload_n (pc' := 27) zi_76_26 rfl rfl kk) ?_
      refine zev_of (fun _ kk => zr_iload (pc' := 29) zi_76_27 rfl rfl kk) ?_
      refine zev_of (fun _ kk => zr_iload_n (pc' := 30) zi_76_29 rfl rfl kk) ?_
      refine zev_of (fun _ kk => zr_iconst (v := (nI 4)) (pc' := 31) zi_76_30 rfl rfl kk) ?_
      refine zev_of (fun _ kk => zr_isub (pc' := 32) zi_76_31 (by first | exact pk_sub (by omega) | rfl) rfl kk) ?_
      refine zev_of (fun _ kk => zr_iload_n (pc' := 33) zi_76_32 rfl rfl kk) ?_
      refine zev_of (fun _ kk => zr_iconst (v := (nI 1)) (pc' := 34) zi_76_33 rfl rfl kk) ?_
      refine zev_of (fun _ kk => zr_isub (pc' := 35) zi_76_34 (by first | exact pk_sub (by omega) | rfl) rfl kk) ?_
      refine zev_of (fun _ kk => zr_iload (pc' := 37) zi_76_35 rfl rfl kk) ?_
      refine zev_of (fun _ kk => zr_v4 (pc' := 40) zi_76_37 (nput_at hb (k := 1) rfl) rfl (c_howManyBetween hb _ _ _ _ hn) rfl kk) ?_
      refine zev_of (fun _ kk => zr_istore (pc' := 42) zi_76_40 (Nat.le_of_ble_eq_true rfl) rfl rfl kk) ?_
      dsimp only [zst1, zst2, zkill, List.set, List.getElem?_cons_succ, List.getElem?_cons_zero]
      refine zev_of (fun _ kk => zr_iconst (v := (nI 2)) (pc' := 43) zi_76_42 rfl rfl kk) ?_
      refine zev_of (fun _ kk => zr_iload (pc' := 45) zi_76_43 rfl rfl kk) ?_
      refine zev_of (fun _ kk => zr_imul (pc' := 46) zi_76_45 (by first | exact pk_mul _ _ | rfl) rfl kk) ?_
      refine zev_of (fun _ kk => zr_iload (pc' := 48) zi_76_46 rfl rfl kk) ?_
      refine zv_icmp (pc' := 51) zi_76_48 rfl (fun h48 => ?_) (fun h48 => ?_)
      · replace h48 := zx_le_t h48
        refine zev_of (fun _ kk => zr_aload_n (pc' := 61) zi_76_60 rfl rfl kk) ?_
        refine zev_of (fun _ kk => zr_get (pc' := 64) zi_76_61 (nput_at hb (k := 43) rfl) rfl rfl kk) ?_
        refine zev_of (fun _ kk => zr_iload (pc' := 66) zi_76_64 rfl rfl kk) ?_
        refine zev_of (fun _ kk => zr_iconst (v := (nI 0)) (pc' := 67) zi_76_66 rfl rfl kk) ?_
        refine zev_of (fun _ kk => zr_rputN (pc' := 70) (rr := 22) (by omega) zi_76_67 hb rfl rfl (fun _ => rfl) (by decide) (by decide) rfl rfl kk) ?_
        refine zev_of (fun _ kk => zr_iinc (pc' := 73) zi_76_70 rfl (by first | exact n_inc _ | rfl) rfl rfl kk) ?_
        dsimp only [zst1, zst2, zkill, List.set, List.getElem?_cons_succ, List.getElem?_cons_zero]
        refine zev_of (fun _ kk => zr_goto zi_76_73 kk) ?_
        exact hskip (by omega) _ _
      · replace h48 := zx_le_f h48
        refine zev_of (fun _ kk => zr_aload_n (pc' := 52) zi_76_51 rfl rfl kk) ?_
        refine zev_of (fun _ kk => zr_iload_n (pc' := 53) zi_76_52 rfl rfl kk) ?_
        refine zev_of (fun _ kk => zr_iload (pc' := 55) zi_76_53 rfl rfl kk) ?_
        refine zev_of (fun _ kk => zr_iload (pc' := 57) zi_76_55 rfl rfl kk) ?_
        have hz : zsum W (t + 1) = zsum W t + W t := rfl
        have hz2 : zsum W (t + 1) ≤ zsum W T := zsum_le (by omega)
        have hent := c_enterS hb F g v (nI t) (nI (W t)) (by omega)
        refine zev_of (fun _ kk => zr_n3 (pc' := 60) zi_76_57 (nput_at hb (k := 43) rfl) rfl hent rfl kk) ?_
        refine zev_of (fun _ kk => zr_aload_n (pc' := 61) zi_76_60 rfl rfl kk) ?_
        refine zev_of (fun _ kk => zr_get (pc' := 64) zi_76_61 (nput_at hb (k := 43) rfl) rfl rfl kk) ?_
        refine zev_of (fun _ kk => zr_iload (pc' := 66) zi_76_64 rfl rfl kk) ?_
        refine zev_of (fun _ kk => zr_iconst (v := (nI 0)) (pc' := 67) zi_76_66 rfl rfl kk) ?_
        refine zev_of (fun _ kk => zr_rputN (pc' := 70) (rr := 22) (by omega) zi_76_67 hb rfl rfl (fun _ => rfl) (by decide) (by decide) rfl rfl kk) ?_
        refine zev_of (fun _ kk => zr_iinc (pc' := 73) zi_76_70 rfl (by first | exact n_inc _ | rfl) rfl rfl kk) ?_
        dsimp only [zst1, zst2, zkill, List.set, List.getElem?_cons_succ, List.getElem?_cons_zero]
        refine zev_of (fun _ kk => zr_goto zi_76_73 kk) ?_
        refine zev_mono (l_closeWindow hb _ (updG g 5 (g 5 + 1)) T v w W hn hT hW (t + 1) (by omega) (fun u h1 h2 => ?_) ?_ _ _) ?_
        · exact (pk_un (by omega)).trans (hF u (by omega) h2)
        · show 3 * (g 5 + 1) + zsum W T ≤ 70 + zsum W (t + 1)
          omega
        · rintro q ⟨F', g', ⟨P', h1, h2, h3, h4, h5, h6, h7, h8⟩, rfl⟩
          have h3' : g 5 + 1 ≤ P' := h3
          have h4' : 3 * P' + zsum W (t + 1) ≤ 3 * (g 5 + 1) + zsum W T := h4
          refine ⟨F', g', ⟨P', ?_, fun r hr => (h2 r hr).trans ?_, by omega, by omega, fun k hk => ?_, fun k h9 h10 => ?_, fun u h9 h10 => ?_, fun u hu => (h8 u (by omega)).trans (pk_un (by omega))⟩, rfl⟩
          · rw [h1]
            funext k
            unfold updG
            split <;> rfl
          · rw [updR_ne (by omega), updR_ne (by omega), updR_ne (by omega), updR_ne (by omega)]
          · obtain ⟨k1, k2, k3⟩ := h5 k (Nat.lt_succ_of_lt hk)
            exact ⟨k1.trans (pk_un (by omega)), k2.trans (pk_un (by omega)), k3.trans (pk_un (by omega))⟩
          · rcases Nat.lt_or_ge (g 5) k with j | j
            · exact h6 k j h10
            · have e : k = g 5 := by omega
              subst e
              obtain ⟨k1, k2, k3⟩ := h5 (g 5) (Nat.lt_succ_self _)
              exact ⟨k1.trans pk_us, t, by omega, k2.trans pk_us, h23, k3.trans pk_us⟩
          · rcases Nat.lt_or_ge t u with k | k
            · exact h7 u k h10
            · rw [show u = t by omega]
              exact (h8 t (by omega)).trans pk_us
termination_by T - t
theorem c_closeWindow (hb : b + 71 ≤ h.length) (F : Nat → Nat → Int32) (g : Nat → Nat) (T : Nat) (v w : Int32) (W : Nat → Nat) (hn : g 1 ≤ 70) (hT : T ≤ 20) (hW : ∀ u, u < T → W u ≤ 70) (hF : ∀ u, u < T → F 22 u = nI (W u)) (hP : 3 * g 5 + zsum W T ≤ 70) : ∃ F' g', (∃ P', g' = updG g 5 P' ∧ zclo F (g 5) T 0 W v F' P') ∧ zcalls zTB 76 [.ref (b + 43), .ref (b + 1), .int (nI T), .int v, .int w] (nput b F g h) (none, nput b F' g' h) := by
  refine zQn_out (zev_calls (Nat.le_of_ble_eq_true rfl) ?_)
  show zev 76 0 [some (.ref (b + 43)), some (.ref (b + 1)), some (.int (nI T)), some (.int v), some (.int w), none, none, none] [] _ _
  refine zev_of (fun _ kk => zr_iconst (v := (nI 0)) (pc' := 1) zi_76_0 rfl rfl kk) ?_
  refine zev_of (fun _ kk => zr_istore (pc' := 3) zi_76_1 (Nat.le_of_ble_eq_true rfl) rfl rfl kk) ?_
  dsimp only [zst1, zst2, zkill, List.set, List.getElem?_cons_succ, List.getElem?_cons_zero]
  exact l_closeWindow hb F g T v w W hn hT hW 0 (Nat.zero_le _) (fun u _ hu => hF u hu) hP none none
/-- the spikes of the lines ahead -/
def zspk (F : Nat → Nat → Int32) (m T : Nat) (V vv : Nat → Nat) (P : Nat) : Prop := ∀ k, k < P → F 19 k = nI (vv k) ∧ (∃ j, j < m ∧ vv k = V j) ∧ ∃ t, t < T ∧ F 20 k = nI t ∧ 3 ≤ zcnt (fun j => decide (F 5 j = nI t ∧ V j = vv k)) m ∧ F 21 k = nI (zcnt (fun j => decide (F 5 j = nI t ∧ V j = vv k)) m)
def zwin (F : Nat → Nat → Int32) (a i t : Nat) : Nat := zcnt (fun j => decide (a ≤ j ∧ F 5 j = nI t)) i
theorem zwin_of {F F' : Nat → Nat → Int32} (e : F' 5 = F 5) : zwin F' = zwin F := by
  funext a i t
  unfold zwin
  rw [e]
theorem zwin_le (F : Nat → Nat → Int32) (a i t : Nat) : zwin F a i t ≤ i := zcnt_le _ _
theorem zwin_self (F : Nat → Nat → Int32) (i t : Nat) : zwin F i i t = 0 := by
  unfold zwin
  rw [zcnt_tail (n := 0) (Nat.zero_le _) fun j _ h2 => by simp only [decide_eq_false_iff_not]; exact fun q => absurd q.1 (by omega)]
  rfl
theorem zsum_zero : ∀ n, zsum (fun _ => 0) n = 0
  | 0 => rfl
  | n + 1 => zsum_zero n
theorem zwin_inc {F : Nat → Nat → Int32} {T a i : Nat} (hT : T ≤ 20) (hi : i ≤ 70) (hai : a ≤ i) (hof : F 5 i = -1 ∨ ∃ t, t < T ∧ F 5 i = nI t) (hW : ∀ t, t < T → F 22 t = nI (zwin F a i t)) (hWs : zsum (zwin F a i) T ≤ i - a) : (∀ t, t < T → rput 20 (F 22) (F 5 i) (F 22 (F 5 i).toNatClampNeg + 1) t = nI (zwin F a (i + 1) t)) ∧ zsum (zwin F a (i + 1)) T ≤ i + 1 - a := by
  rcases hof with e | ⟨u, hu, e⟩
  · have hz : ∀ t, t < T → zwin F a (i + 1) t = zwin F a i t := fun t ht => zcnt_f (by rw [e]; simp only [decide_eq_false_iff_not]; exact fun q => nI_neg (by omega) q.2.symm)
    refine ⟨fun t ht => ?_, ?_⟩
    · rw [e, hz t ht]
      unfold rput
      rw [if_pos (.inl (by decide))]
      exact hW t ht
    · rw [zsum_ext hz]
      omega
  · have hz : ∀ t, t < T → zwin F a (i + 1) t = nup (zwin F a i) u (zwin F a i u + 1) t := by
      intro t ht
      by_cases q : t = u
      · subst q
        rw [nup_eq]
        exact zcnt_t (by simp only [decide_eq_true_eq]; exact ⟨hai, e⟩)
      · rw [nup_ne q]
        exact zcnt_f (by rw [e]; simp only [decide_eq_false_iff_not]; exact fun k => q ((nI_eq (by omega) (by omega)).mp k.2).symm)
    refine ⟨fun t ht => ?_, ?_⟩
    · rw [e, hz t ht, rput_n (by omega) (by omega), nI_clamp (by omega)]
      by_cases q : t = u
      · subst q
        rw [nup_eq, pk_us, hW t ht, nI_1]
      · rw [nup_ne q, pk_un q]
        exact hW t ht
    · rw [zsum_ext hz]
      have := zsum_up (f := zwin F a i) (v := zwin F a i u + 1) hu
      omega
theorem l_findS (hb : b + 71 ≤ h.length) (F : Nat → Nat → Int32) (g : Nat → Nat) (T w : Nat) (x : Nat → Nat) (hn : g 1 ≤ 70) (hT : T ≤ 20) (hw : 0 < w ∧ w < 2 ^ 31) (hx : ∀ j, j < g 1 → F 0 j = nI (x j) ∧ x j < 2 ^ 31) (hmo : ∀ j k, j ≤ k → k < g 1 → x j ≤ x k) (hof : ∀ j, j < g 1 → F 5 j = -1 ∨ ∃ t, t < T ∧ F 5 j = nI t) (a i : Nat) (vv : Nat → Nat) (hai : a ≤ i) (hi : i ≤ g 1) (hv : ∀ k, k + 1 < g 5 → vv k ≤ vv (k + 1)) (hva : ∀ k j, k < g 5 → a ≤ j → j < g 1 → vv k ≤ x j / w) (hq : zspk F (g 1) T (fun j => x j / w) vv (g 5)) (hP : 3 * g 5 ≤ a) (hW : ∀ t, t < T → F 22 t = nI (zwin F a i t)) (hWs : zsum (zwin F a i) T ≤ i - a) (hl : ∀ j k, j < a → a ≤ k → k < g 1 → x j / w < x k / w) (hs : ∀ j, a ≤ j → j < i → i < g 1 ∧ x j / w = x i / w) (X : Option Value) : zev 75 15 [some (.ref (b + 43)), some (.ref (b + 1)), some (.int (nI T)), some (.int (nI w)), some (.int (nI i)), X] [] (nput b F g h) (zQn b h fun F' g' => zonK F F' ∧ ∃ P vv, P ≤ 23 ∧ g' = updG g 5 P ∧ (∀ k, k + 1 < P → vv k ≤ vv (k + 1)) ∧ zspk F' (g 1) T (fun j => x j / w) vv P) := by
  refine zev_of (fun _ kk => zr_iload (pc' := 17) zi_75_15 rfl rfl kk) ?_
  refine zev_of (fun _ kk => zr_aload_n (pc' := 18) zi_75_17 rfl rfl kk) ?_
  refine zev_of (fun _ kk => zr_get (pc' := 21) zi_75_18 (nput_at hb (k := 1) rfl) rfl rfl kk) ?_
  refine zv_icmp (pc' := 24) zi_75_21 rfl (fun h21 => ?_) (fun h21 => ?_)
  · replace h21 := zc_ge_t (by omega) (by omega) h21
    refine zev_ret (zr_return zi_75_101 rfl) ?_
    refine ⟨_, _, ⟨fun _ _ => rfl, g 5, vv, by omega, ?_, hv, hq⟩, rfl⟩
    funext k
    unfold updG
    split
    · rename_i e
      rw [e]
    · rfl
  · replace h21 := zc_ge_f (by omega) (by omega) h21
    have him : i < g 1 := h21
    have hqi : ∀ (H : zH) j, j < g 1 → zcalls zTB 17 [.int (F 0 j), .int (nI w)] H (some (.int (nI (x j / w))), H) := by
      intro H j hj
      have hc := c_quotient (H := H) (F 0 j) (nI w)
      rw [(hx j hj).1, if_neg (nI_ne0 hw.1 hw.2), pk_div (hx j hj).2 hw.1 hw.2] at hc
      rw [(hx j hj).1]
      exact hc
    have hdv : ∀ j, j < g 1 → x j / w < 2 ^ 31 := fun j hj => Nat.lt_of_le_of_lt (Nat.div_le_self _ _) (hx j hj).2
    have hdm : ∀ j k, j ≤ k → k < g 1 → x j / w ≤ x k / w := fun j k h1 h2 => Nat.div_le_div_right (hmo j k h1 h2)
    obtain ⟨hinc, hsum⟩ := zwin_inc hT (by omega) hai (hof i him) hW hWs
    obtain ⟨F2, g2, ⟨P2, hg2, hk1, hk2, hk3, hk4, hk5, hk6, hk7⟩, hcl⟩ := c_closeWindow hb (updR F 22 (rput 20 (F 22) (F 5 i) (F 22 (F 5 i).toNatClampNeg + 1))) g T (nI (x i / w)) (nI w) (zwin F a (i + 1)) hn hT (fun u hu => by have := zwin_le F a (i + 1) u; omega) hinc (by omega)
    subst hg2
    have hk3' : 3 * P2 ≤ 3 * g 5 + zsum (zwin F a (i + 1)) T := hk3
    have e5 : F2 5 = F 5 := hk1 _ (.inl (by decide))
    have e0 : F2 0 = F 0 := hk1 _ (.inl (by decide))
    have hcont : (∀ k, i < k → k < g 1 → x i / w < x k / w) → ∀ X, zev 75 15 [some (.ref (b + 43)), some (.ref (b + 1)), some (.int (nI T)), some (.int (nI w)), some (.int (nI (i + 1))), X] [] (nput b F2 (updG g 5 P2) h) (zQn b h fun F' g' => zonK F F' ∧ ∃ P vv, P ≤ 23 ∧ g' = updG g 5 P ∧ (∀ k, k + 1 < P → vv k ≤ vv (k + 1)) ∧ zspk F' (g 1) T (fun j => x j / w) vv P) := by
      intro hlt X
      have hfull : ∀ u, zcnt (fun j => decide (F 5 j = nI u ∧ x j / w = x i / w)) (g 1) = zwin F a (i + 1) u := by
        intro u
        rw [zcnt_tail (n := i + 1) (by omega) fun j h1 h2 => by
          simp only [decide_eq_false_iff_not]
          intro q
          have := hlt j (by omega) h2
          omega]
        refine zcnt_ext fun j hj => ?_
        refine decide_eq_decide.mpr ⟨fun q => ⟨Nat.le_of_not_lt fun k => ?_, q.1⟩, fun q => ⟨q.2, ?_⟩⟩
        · have := hl j i k hai him
          omega
        · rcases Nat.lt_or_ge j i with k | k
          · exact (hs j q.1 k).2
          · rw [show j = i by omega]
      obtain ⟨v2, hvv, hvw⟩ : ∃ v2 : Nat → Nat, (∀ k, k < g 5 → v2 k = vv k) ∧ ∀ k, g 5 ≤ k → v2 k = x i / w := ⟨fun k => if k < g 5 then vv k else x i / w, fun k hk => if_pos hk, fun k hk => if_neg (by omega)⟩
      refine zev_mono (l_findS hb F2 (updG g 5 P2) T w x hn hT hw (fun j hj => by rw [e0]; exact hx j hj) hmo (fun j hj => by rw [e5]; exact hof j hj) (i + 1) (i + 1) v2 (Nat.le_refl _) (by exact him) ?_ ?_ ?_ ?_ ?_ ?_ ?_ ?_ X) ?_
      · intro k hk
        have hk' : k + 1 < P2 := hk
        rcases Nat.lt_or_ge (k + 1) (g 5) with j | j
        · rw [hvv _ j, hvv _ (by omega)]
          exact hv k j
        · rw [hvw _ j]
          rcases Nat.lt_or_ge k (g 5) with l | l
          · rw [hvv _ l]
            exact hva k i l hai him
          · rw [hvw _ l]
            exact Nat.le_refl _
      · intro k j hk h1 h2
        rcases Nat.lt_or_ge k (g 5) with l | l
        · rw [hvv _ l]
          exact hva k j l (by omega) h2
        · rw [hvw _ l]
          exact hdm i j (by omega) h2
      · intro k hk
        have hk' : k < P2 := hk
        rcases Nat.lt_or_ge k (g 5) with l | l
        · obtain ⟨a1, a2, a3⟩ := hk4 k l
          obtain ⟨b1, b2, u, b3, b4, b5, b6⟩ := hq k l
          rw [hvv _ l, a1, a2, a3, e5]
          exact ⟨b1, b2, u, b3, b4, b5, b6⟩
        · obtain ⟨a1, u, a2, a3, a4, a5⟩ := hk5 k l hk'
          rw [hvw _ l, a1, a3, a5, e5]
          refine ⟨rfl, ⟨i, him, rfl⟩, u, a2, rfl, ?_, ?_⟩
          · exact (hfull u).symm ▸ a4
          · exact congrArg nI (hfull u).symm
      · show 3 * P2 ≤ i + 1
        omega
      · intro t ht
        rw [zwin_self]
        exact hk6 t (Nat.zero_le _) ht
      · rw [zsum_ext (f' := fun _ => 0) fun j _ => zwin_self F2 (i + 1) j, zsum_zero]
        exact Nat.zero_le _
      · intro j k h1 h2 h3
        exact Nat.lt_of_le_of_lt (hdm j i (by omega) him) (hlt k h2 h3)
      · intro j h1 h2
        exact absurd h1 (by omega)
      · rintro q ⟨F', g', ⟨h1, P3, vv3, h2, h3, h4, h5⟩, rfl⟩
        refine ⟨F', g', ⟨fun r hr => (h1 r hr).trans ((hk1 r hr).trans (updR_ne (by omega))), P3, vv3, h2, ?_, h4, h5⟩, rfl⟩
        rw [h3]
        funext k
        unfold updG
        split <;> rfl
    refine zev_of (fun _ kk => zr_aload_n (pc' := 25) zi_75_24 rfl rfl kk) ?_
    refine zev_of (fun _ kk => zr_get (pc' := 28) zi_75_25 (nput_at hb (k := 43) rfl) rfl rfl kk) ?_
    refine zev_of (fun _ kk => zr_aload_n (pc' := 29) zi_75_28 rfl rfl kk) ?_
    refine zev_of (fun _ kk => zr_get (pc' := 32) zi_75_29 (nput_at hb (k := 1) rfl) rfl rfl kk) ?_
    refine zev_of (fun _ kk => zr_iload (pc' := 34) zi_75_32 rfl rfl kk) ?_
    refine zev_of (fun _ kk => zr_atN (pc' := 37) (by omega) zi_75_34 hb rfl rfl (by decide) rfl rfl kk) ?_
    refine zev_of (fun _ kk => zr_rinc (pc' := 40) (rr := 22) zi_75_37 hb rfl rfl (fun _ => rfl) (by decide) (by decide) rfl rfl kk) ?_
    refine zev_of (fun _ kk => zr_aload_n (pc' := 41) zi_75_40 rfl rfl kk) ?_
    refine zev_of (fun _ kk => zr_get (pc' := 44) zi_75_41 (nput_at hb (k := 1) rfl) rfl rfl kk) ?_
    refine zev_of (fun _ kk => zr_iload (pc' := 46) zi_75_44 rfl rfl kk) ?_
    refine zev_of (fun _ kk => zr_atN (pc' := 49) (by omega) zi_75_46 hb rfl rfl (by decide) rfl rfl kk) ?_
    refine zev_of (fun _ kk => zr_iload_n (pc' := 50) zi_75_49 rfl rfl kk) ?_
    refine zev_of (fun _ kk => zr_s2 (pc' := 53) zi_75_50 rfl (hqi _ i him) rfl kk) ?_
    refine zev_of (fun _ kk => zr_istore (pc' := 55) zi_75_53 (Nat.le_of_ble_eq_true rfl) rfl rfl kk) ?_
    dsimp only [zst1, zst2, zkill, List.set, List.getElem?_cons_succ, List.getElem?_cons_zero]
    refine zev_of (fun _ kk => zr_iload (pc' := 57) zi_75_55 rfl rfl kk) ?_
    refine zev_of (fun _ kk => zr_iconst (v := (nI 1)) (pc' := 58) zi_75_57 rfl rfl kk) ?_
    refine zev_of (fun _ kk => zr_iadd (pc' := 59) zi_75_58 (by first | exact nI_add _ _ | rfl) rfl kk) ?_
    refine zev_of (fun _ kk => zr_aload_n (pc' := 60) zi_75_59 rfl rfl kk) ?_
    refine zev_of (fun _ kk => zr_get (pc' := 63) zi_75_60 (nput_at hb (k := 1) rfl) rfl rfl kk) ?_
    refine zv_icmp (pc' := 66) zi_75_63 rfl (fun h63 => ?_) (fun h63 => ?_)
    · replace h63 := zc_eq_t h63
      refine zev_of (fun _ kk => zr_aload_n (pc' := 87) zi_75_86 rfl rfl kk) ?_
      refine zev_of (fun _ kk => zr_aload_n (pc' := 88) zi_75_87 rfl rfl kk) ?_
      refine zev_of (fun _ kk => zr_iload_n (pc' := 89) zi_75_88 rfl rfl kk) ?_
      refine zev_of (fun _ kk => zr_iload (pc' := 91) zi_75_89 rfl rfl kk) ?_
      refine zev_of (fun _ kk => zr_iload_n (pc' := 92) zi_75_91 rfl rfl kk) ?_
      refine zev_of (fun _ kk => zr_n4 (pc' := 95) zi_75_92 (nput_at hb (k := 43) rfl) rfl hcl rfl kk) ?_
      refine zev_of (fun _ kk => zr_iinc (pc' := 98) zi_75_95 rfl (by first | exact n_inc _ | rfl) rfl rfl kk) ?_
      dsimp only [zst1, zst2, zkill, List.set, List.getElem?_cons_succ, List.getElem?_cons_zero]
      refine zev_of (fun _ kk => zr_goto zi_75_98 kk) ?_
      have e := (nI_eq (by omega) (by omega)).mp h63
      exact hcont (fun k h1 h2 => absurd h1 (by omega)) _
    · replace h63 := zc_eq_f h63
      have hi1 : i + 1 < g 1 := by
        refine Nat.lt_of_le_of_ne (by omega) fun e => h63 ?_
        rw [e]
      refine zev_of (fun _ kk => zr_aload_n (pc' := 67) zi_75_66 rfl rfl kk) ?_
      refine zev_of (fun _ kk => zr_get (pc' := 70) zi_75_67 (nput_at hb (k := 1) rfl) rfl rfl kk) ?_
      refine zev_of (fun _ kk => zr_iload (pc' := 72) zi_75_70 rfl rfl kk) ?_
      refine zev_of (fun _ kk => zr_iconst (v := (nI 1)) (pc' := 73) zi_75_72 rfl rfl kk) ?_
      refine zev_of (fun _ kk => zr_iadd (pc' := 74) zi_75_73 (by first | exact nI_add _ _ | rfl) rfl kk) ?_
      refine zev_of (fun _ kk => zr_atN (pc' := 77) (by omega) zi_75_74 hb rfl rfl (by decide) rfl rfl kk) ?_
      refine zev_of (fun _ kk => zr_iload_n (pc' := 78) zi_75_77 rfl rfl kk) ?_
      refine zev_of (fun _ kk => zr_s2 (pc' := 81) zi_75_78 rfl (hqi _ (i + 1) hi1) rfl kk) ?_
      refine zev_of (fun _ kk => zr_iload (pc' := 83) zi_75_81 rfl rfl kk) ?_
      refine zv_icmp (pc' := 86) zi_75_83 rfl (fun h83 => ?_) (fun h83 => ?_)
      · replace h83 := zc_eq_t h83
        refine zev_of (fun _ kk => zr_iinc (pc' := 98) zi_75_95 rfl (by first | exact n_inc _ | rfl) rfl rfl kk) ?_
        dsimp only [zst1, zst2, zkill, List.set, List.getElem?_cons_succ, List.getElem?_cons_zero]
        refine zev_of (fun _ kk => zr_goto zi_75_98 kk) ?_
        have e := (nI_eq (hdv _ hi1) (hdv _ him)).mp h83
        refine zev_mono (l_findS hb (updR F 22 (rput 20 (F 22) (F 5 i) (F 22 (F 5 i).toNatClampNeg + 1))) g T w x hn hT hw hx hmo hof a (i + 1) vv (by omega) (by omega) hv hva hq hP hinc hsum hl ?_ _) ?_
        · intro j h1 h2
          refine ⟨hi1, ?_⟩
          rcases Nat.lt_or_ge j i with k | k
          · rw [(hs j h1 k).2, e]
          · rw [show j = i by omega, e]
        · rintro q ⟨F', g', ⟨h1, h2⟩, rfl⟩
          exact ⟨F', g', ⟨fun r hr => (h1 r hr).trans (updR_ne (by omega)), h2⟩, rfl⟩
      · replace h83 := zc_eq_f h83
        refine zev_of (fun _ kk => zr_aload_n (pc' := 87) zi_75_86 rfl rfl kk) ?_
        refine zev_of (fun _ kk => zr_aload_n (pc' := 88) zi_75_87 rfl rfl kk) ?_
        refine zev_of (fun _ kk => zr_iload_n (pc' := 89) zi_75_88 rfl rfl kk) ?_
        refine zev_of (fun _ kk => zr_iload (pc' := 91) zi_75_89 rfl rfl kk) ?_
        refine zev_of (fun _ kk => zr_iload_n (pc' := 92) zi_75_91 rfl rfl kk) ?_
        refine zev_of (fun _ kk => zr_n4 (pc' := 95) zi_75_92 (nput_at hb (k := 43) rfl) rfl hcl rfl kk) ?_
        refine zev_of (fun _ kk => zr_iinc (pc' := 98) zi_75_95 rfl (by first | exact n_inc _ | rfl) rfl rfl kk) ?_
        dsimp only [zst1, zst2, zkill, List.set, List.getElem?_cons_succ, List.getElem?_cons_zero]
        refine zev_of (fun _ kk => zr_goto zi_75_98 kk) ?_
        refine hcont (fun k h1 h2 => ?_) _
        have h3 := hdm (i + 1) k (by omega) h2
        have h4 := hdm i (i + 1) (by omega) hi1
        have h5 : x (i + 1) / w ≠ x i / w := fun e => h83 (by rw [e])
        omega
termination_by g 1 - i
decreasing_by all_goals (show g 1 - (i + 1) < g 1 - i; omega)
theorem c_findS (hb : b + 71 ≤ h.length) (F : Nat → Nat → Int32) (g : Nat → Nat) (T w : Nat) (x : Nat → Nat) (hn : g 1 ≤ 70) (hT : T ≤ 20) (hw : 0 < w ∧ w < 2 ^ 31) (hx : ∀ j, j < g 1 → F 0 j = nI (x j) ∧ x j < 2 ^ 31) (hmo : ∀ j k, j ≤ k → k < g 1 → x j ≤ x k) (hof : ∀ j, j < g 1 → F 5 j = -1 ∨ ∃ t, t < T ∧ F 5 j = nI t) : ∃ F' g', (zonK F F' ∧ ∃ P vv, P ≤ 23 ∧ g' = updG g 5 P ∧ (∀ k, k + 1 < P → vv k ≤ vv (k + 1)) ∧ zspk F' (g 1) T (fun j => x j / w) vv P) ∧ zcalls zTB 75 [.ref (b + 43), .ref (b + 1), .int (nI T), .int (nI w)] (nput b F g h) (none, nput b F' g' h) := by
  refine zQn_out (zev_calls (Nat.le_of_ble_eq_true rfl) ?_)
  show zev 75 0 [some (.ref (b + 43)), some (.ref (b + 1)), some (.int (nI T)), some (.int (nI w)), none, none] [] _ _
  refine zev_of (fun _ kk => zr_aload_n (pc' := 1) zi_75_0 rfl rfl kk) ?_
  refine zev_of (fun _ kk => zr_iconst (v := (nI 0)) (pc' := 2) zi_75_1 rfl rfl kk) ?_
  refine zev_of (fun _ kk => zr_put (pc' := 5) zi_75_2 (by omega) (nput_at hb (k := 43) rfl) (Nat.le_of_ble_eq_true rfl) rfl rfl (nput_set (g' := updG _ 5 (0)) hb (by decide) rfl) kk) ?_
  refine zev_of (fun _ kk => zr_aload_n (pc' := 6) zi_75_5 rfl rfl kk) ?_
  refine zev_of (fun _ kk => zr_get (pc' := 9) zi_75_6 (nput_at hb (k := 43) rfl) rfl rfl kk) ?_
  refine zv_rclear (pc' := 12) (rr := 22) zi_75_9 hb rfl rfl (fun _ => rfl) (by decide) (by decide) (by decide) rfl rfl (fun f22 hf22 => ?_)
  refine zev_of (fun _ kk => zr_iconst (v := (nI 0)) (pc' := 13) zi_75_12 rfl rfl kk) ?_
  refine zev_of (fun _ kk => zr_istore (pc' := 15) zi_75_13 (Nat.le_of_ble_eq_true rfl) rfl rfl kk) ?_
  dsimp only [zst1, zst2, zkill, List.set, List.getElem?_cons_succ, List.getElem?_cons_zero]
  refine zev_mono (l_findS hb _ (updG g 5 0) T w x hn hT hw (by exact hx) hmo (by exact hof) 0 0 (fun _ => 0) (Nat.le_refl _) (Nat.zero_le _) ?_ ?_ ?_ ?_ ?_ ?_ ?_ ?_ none) ?_
  · intro k hk
    exact absurd hk (Nat.not_lt_zero _)
  · intro k j hk
    exact absurd hk (Nat.not_lt_zero _)
  · intro k hk
    exact absurd hk (Nat.not_lt_zero _)
  · exact Nat.le_refl _
  · intro t ht
    rw [zwin_self]
    exact hf22 t (by omega)
  · rw [zsum_ext (f' := fun _ => 0) fun j _ => zwin_self _ 0 j, zsum_zero]
    exact Nat.zero_le _
  · intro j k hj
    exact absurd hj (Nat.not_lt_zero _)
  · intro j _ hj
    exact absurd hj (Nat.not_lt_zero _)
  · rintro q ⟨F', g', ⟨h1, P3, vv3, h2, h3, h4, h5⟩, rfl⟩
    refine ⟨F', g', ⟨fun r hr => (h1 r hr).trans (updR_ne (by omega)), P3, vv3, h2, ?_, h4, h5⟩, rfl⟩
    rw [h3]
    funext k
    unfold updG
    split <;> rfl
end


theorem zi_64_0 : zI 64 0 = some (.aload_n 0, []) := by decide +kernel
theorem zi_64_1 : zI 64 1 = some (.iconst 0, []) := by decide +kernel
theorem zi_64_2 : zI 64 2 = some (.putfield 41, [3, 8, 0, 335]) := by decide +kernel
theorem zi_64_5 : zI 64 5 = some (.iconst 0, []) := by decide +kernel
theorem zi_64_6 : zI 64 6 = some (.istore_n 3, []) := by decide +kernel
theorem zi_64_7 : zI 64 7 = some (.iload_n 3, []) := by decide +kernel
theorem zi_64_8 : zI 64 8 = some (.aload_n 1, []) := by decide +kernel
theorem zi_64_9 : zI 64 9 = some (.getfield 45, [0, 7, 336]) := by decide +kernel
theorem zi_64_12 : zI 64 12 = some (.if_icmp .ge 110, [122]) := by decide +kernel
theorem zi_64_15 : zI 64 15 = some (.aload_n 0, []) := by decide +kernel
theorem zi_64_16 : zI 64 16 = some (.getfield 14, [3, 0, 329]) := by decide +kernel
theorem zi_64_19 : zI 64 19 = some (.iload_n 3, []) := by decide +kernel
theorem zi_64_20 : zI 64 20 = some (.iconst (-1), []) := by decide +kernel
theorem zi_64_21 : zI 64 21 = some (.invokevirtual 48, [1, 0, 2, 1, 282, 283, 19, 281, 0, 337]) := by decide +kernel
theorem zi_64_24 : zI 64 24 = some (.aload_n 1, []) := by decide +kernel
theorem zi_64_25 : zI 64 25 = some (.getfield 52, [0, 6, 338]) := by decide +kernel
theorem zi_64_28 : zI 64 28 = some (.iload_n 3, []) := by decide +kernel
theorem zi_64_29 : zI 64 29 = some (.invokevirtual 55, [0, 0, 1, 1, 17, 18, 19, 16, 0, 147]) := by decide +kernel
theorem zi_64_32 : zI 64 32 = some (.ifCond .lt 84, [116]) := by decide +kernel
theorem zi_64_35 : zI 64 35 = some (.aload_n 1, []) := by decide +kernel
theorem zi_64_36 : zI 64 36 = some (.iload_n 3, []) := by decide +kernel
theorem zi_64_37 : zI 64 37 = some (.iload_n 2, []) := by decide +kernel
theorem zi_64_38 : zI 64 38 = some (.invokevirtual 59, [32, 0, 2, 0, 341, 342, 91, 340, 0, 339]) := by decide +kernel
theorem zi_64_41 : zI 64 41 = some (.istore 4, []) := by decide +kernel
theorem zi_64_43 : zI 64 43 = some (.iload 4, []) := by decide +kernel
theorem zi_64_45 : zI 64 45 = some (.iconst (-1), []) := by decide +kernel
theorem zi_64_46 : zI 64 46 = some (.if_icmp .ne 11, [57]) := by decide +kernel
theorem zi_64_49 : zI 64 49 = some (.aload_n 0, []) := by decide +kernel
theorem zi_64_50 : zI 64 50 = some (.iload_n 3, []) := by decide +kernel
theorem zi_64_51 : zI 64 51 = some (.invokevirtual 63, [65, 0, 1, 3, 345, 346, 53, 344, 0, 343]) := by decide +kernel
theorem zi_64_54 : zI 64 54 = some (.goto 10, [64]) := by decide +kernel
theorem zi_64_57 : zI 64 57 = some (.aload_n 0, []) := by decide +kernel
theorem zi_64_58 : zI 64 58 = some (.iload 4, []) := by decide +kernel
theorem zi_64_60 : zI 64 60 = some (.iload_n 3, []) := by decide +kernel
theorem zi_64_61 : zI 64 61 = some (.invokevirtual 66, [66, 0, 2, 3, 349, 350, 53, 348, 0, 347]) := by decide +kernel
theorem zi_64_64 : zI 64 64 = some (.istore 5, []) := by decide +kernel
theorem zi_64_66 : zI 64 66 = some (.aload_n 0, []) := by decide +kernel
theorem zi_64_67 : zI 64 67 = some (.getfield 14, [3, 0, 329]) := by decide +kernel
theorem zi_64_70 : zI 64 70 = some (.iload_n 3, []) := by decide +kernel
theorem zi_64_71 : zI 64 71 = some (.iload 5, []) := by decide +kernel
theorem zi_64_73 : zI 64 73 = some (.invokevirtual 48, [1, 0, 2, 1, 282, 283, 19, 281, 0, 337]) := by decide +kernel
theorem zi_64_76 : zI 64 76 = some (.aload_n 0, []) := by decide +kernel
theorem zi_64_77 : zI 64 77 = some (.getfield 26, [3, 3, 332]) := by decide +kernel
theorem zi_64_80 : zI 64 80 = some (.iload 5, []) := by decide +kernel
theorem zi_64_82 : zI 64 82 = some (.iload_n 3, []) := by decide +kernel
theorem zi_64_83 : zI 64 83 = some (.invokevirtual 48, [1, 0, 2, 1, 282, 283, 19, 281, 0, 337]) := by decide +kernel
theorem zi_64_86 : zI 64 86 = some (.aload_n 0, []) := by decide +kernel
theorem zi_64_87 : zI 64 87 = some (.getfield 29, [3, 4, 333]) := by decide +kernel
theorem zi_64_90 : zI 64 90 = some (.iload 5, []) := by decide +kernel
theorem zi_64_92 : zI 64 92 = some (.invokevirtual 69, [9, 0, 1, 1, 314, 315, 19, 313, 0, 351]) := by decide +kernel
theorem zi_64_95 : zI 64 95 = some (.aload_n 1, []) := by decide +kernel
theorem zi_64_96 : zI 64 96 = some (.getfield 72, [0, 2, 352]) := by decide +kernel
theorem zi_64_99 : zI 64 99 = some (.iload_n 3, []) := by decide +kernel
theorem zi_64_100 : zI 64 100 = some (.invokevirtual 55, [0, 0, 1, 1, 17, 18, 19, 16, 0, 147]) := by decide +kernel
theorem zi_64_103 : zI 64 103 = some (.iconst 3, []) := by decide +kernel
theorem zi_64_104 : zI 64 104 = some (.if_icmp .ne 12, [116]) := by decide +kernel
theorem zi_64_107 : zI 64 107 = some (.aload_n 0, []) := by decide +kernel
theorem zi_64_108 : zI 64 108 = some (.getfield 32, [3, 5, 334]) := by decide +kernel
theorem zi_64_111 : zI 64 111 = some (.iload 5, []) := by decide +kernel
theorem zi_64_113 : zI 64 113 = some (.invokevirtual 69, [9, 0, 1, 1, 314, 315, 19, 313, 0, 351]) := by decide +kernel
theorem zi_64_116 : zI 64 116 = some (.iinc 3 1, []) := by decide +kernel
theorem zi_64_119 : zI 64 119 = some (.goto (-112), [7]) := by decide +kernel
theorem zi_64_122 : zI 64 122 = some (.return_, []) := by decide +kernel
theorem zi_65_0 : zI 65 0 = some (.aload_n 0, []) := by decide +kernel
theorem zi_65_1 : zI 65 1 = some (.getfield 41, [3, 8, 335]) := by decide +kernel
theorem zi_65_4 : zI 65 4 = some (.istore_n 2, []) := by decide +kernel
theorem zi_65_5 : zI 65 5 = some (.aload_n 0, []) := by decide +kernel
theorem zi_65_6 : zI 65 6 = some (.getfield 23, [3, 2, 331]) := by decide +kernel
theorem zi_65_9 : zI 65 9 = some (.iload_n 2, []) := by decide +kernel
theorem zi_65_10 : zI 65 10 = some (.iload_n 1, []) := by decide +kernel
theorem zi_65_11 : zI 65 11 = some (.invokevirtual 48, [1, 0, 2, 1, 282, 283, 19, 281, 0, 337]) := by decide +kernel
theorem zi_65_14 : zI 65 14 = some (.aload_n 0, []) := by decide +kernel
theorem zi_65_15 : zI 65 15 = some (.getfield 29, [3, 4, 333]) := by decide +kernel
theorem zi_65_18 : zI 65 18 = some (.iload_n 2, []) := by decide +kernel
theorem zi_65_19 : zI 65 19 = some (.iconst 0, []) := by decide +kernel
theorem zi_65_20 : zI 65 20 = some (.invokevirtual 48, [1, 0, 2, 1, 282, 283, 19, 281, 0, 337]) := by decide +kernel
theorem zi_65_23 : zI 65 23 = some (.aload_n 0, []) := by decide +kernel
theorem zi_65_24 : zI 65 24 = some (.getfield 32, [3, 5, 334]) := by decide +kernel
theorem zi_65_27 : zI 65 27 = some (.iload_n 2, []) := by decide +kernel
theorem zi_65_28 : zI 65 28 = some (.iconst 0, []) := by decide +kernel
theorem zi_65_29 : zI 65 29 = some (.invokevirtual 48, [1, 0, 2, 1, 282, 283, 19, 281, 0, 337]) := by decide +kernel
theorem zi_65_32 : zI 65 32 = some (.aload_n 0, []) := by decide +kernel
theorem zi_65_33 : zI 65 33 = some (.iload_n 2, []) := by decide +kernel
theorem zi_65_34 : zI 65 34 = some (.iconst 1, []) := by decide +kernel
theorem zi_65_35 : zI 65 35 = some (.iadd, []) := by decide +kernel
theorem zi_65_36 : zI 65 36 = some (.putfield 41, [3, 8, 0, 335]) := by decide +kernel
theorem zi_65_39 : zI 65 39 = some (.iload_n 2, []) := by decide +kernel
theorem zi_65_40 : zI 65 40 = some (.ireturn, []) := by decide +kernel
theorem zi_66_0 : zI 66 0 = some (.aload_n 0, []) := by decide +kernel
theorem zi_66_1 : zI 66 1 = some (.getfield 20, [3, 1, 330]) := by decide +kernel
theorem zi_66_4 : zI 66 4 = some (.iload_n 1, []) := by decide +kernel
theorem zi_66_5 : zI 66 5 = some (.iload_n 2, []) := by decide +kernel
theorem zi_66_6 : zI 66 6 = some (.invokevirtual 48, [1, 0, 2, 1, 282, 283, 19, 281, 0, 337]) := by decide +kernel
theorem zi_66_9 : zI 66 9 = some (.aload_n 0, []) := by decide +kernel
theorem zi_66_10 : zI 66 10 = some (.getfield 14, [3, 0, 329]) := by decide +kernel
theorem zi_66_13 : zI 66 13 = some (.iload_n 1, []) := by decide +kernel
theorem zi_66_14 : zI 66 14 = some (.invokevirtual 55, [0, 0, 1, 1, 17, 18, 19, 16, 0, 147]) := by decide +kernel
theorem zi_66_17 : zI 66 17 = some (.ireturn, []) := by decide +kernel
/-! sessions: find -/
section
variable {b : Nat} {h : zH}
theorem c_begin (hb : b + 71 ≤ h.length) (F : Nat → Nat → Int32) (g : Nat → Nat) (i : Nat) (hS : g 4 < 70) : zcalls zTB 65 [.ref (b + 26), .int (nI i)] (nput b F g h) (some (.int (nI (g 4))), nput b (updR (updR (updR F 13 (upd (F 13) (g 4) (nI i))) 15 (upd (F 15) (g 4) (nI 0))) 16 (upd (F 16) (g 4) (nI 0))) (updG g 4 (g 4 + 1)) h) := by
  refine zcalls_of (Nat.le_of_ble_eq_true rfl) ?_
  show zruns zTB 65 0 [some (.ref (b + 26)), some (.int (nI i)), none] [] _ _
  refine zr_aload_n (pc' := 1) zi_65_0 rfl rfl ?_
  refine zr_get (pc' := 4) zi_65_1 (nput_at hb (k := 26) rfl) rfl rfl ?_
  refine zr_istore_n (pc' := 5) zi_65_4 (Nat.le_of_ble_eq_true rfl) rfl rfl ?_
  dsimp only [zst1, zst2, zkill, List.set, List.getElem?_cons_succ, List.getElem?_cons_zero]
  refine zr_aload_n (pc' := 6) zi_65_5 rfl rfl ?_
  refine zr_get (pc' := 9) zi_65_6 (nput_at hb (k := 26) rfl) rfl rfl ?_
  refine zr_iload_n (pc' := 10) zi_65_9 rfl rfl ?_
  refine zr_iload_n (pc' := 11) zi_65_10 rfl rfl ?_
  refine zr_rputN (pc' := 14) (rr := 13) (by omega) zi_65_11 hb rfl rfl (fun _ => rfl) (by decide) (by decide) rfl rfl ?_
  refine zr_aload_n (pc' := 15) zi_65_14 rfl rfl ?_
  refine zr_get (pc' := 18) zi_65_15 (nput_at hb (k := 26) rfl) rfl rfl ?_
  refine zr_iload_n (pc' := 19) zi_65_18 rfl rfl ?_
  refine zr_iconst (v := (nI 0)) (pc' := 20) zi_65_19 rfl rfl ?_
  refine zr_rputN (pc' := 23) (rr := 15) (by omega) zi_65_20 hb rfl rfl (fun _ => rfl) (by decide) (by decide) rfl rfl ?_
  refine zr_aload_n (pc' := 24) zi_65_23 rfl rfl ?_
  refine zr_get (pc' := 27) zi_65_24 (nput_at hb (k := 26) rfl) rfl rfl ?_
  refine zr_iload_n (pc' := 28) zi_65_27 rfl rfl ?_
  refine zr_iconst (v := (nI 0)) (pc' := 29) zi_65_28 rfl rfl ?_
  refine zr_rputN (pc' := 32) (rr := 16) (by omega) zi_65_29 hb rfl rfl (fun _ => rfl) (by decide) (by decide) rfl rfl ?_
  refine zr_aload_n (pc' := 33) zi_65_32 rfl rfl ?_
  refine zr_iload_n (pc' := 34) zi_65_33 rfl rfl ?_
  refine zr_iconst (v := (nI 1)) (pc' := 35) zi_65_34 rfl rfl ?_
  refine zr_iadd (pc' := 36) zi_65_35 (by first | exact nI_add _ _ | rfl) rfl ?_
  refine zr_put (pc' := 39) zi_65_36 (by omega) (nput_at hb (k := 26) rfl) (Nat.le_of_ble_eq_true rfl) rfl rfl (nput_set (g' := updG _ 4 (_)) hb (by decide) rfl) ?_
  refine zr_iload_n (pc' := 40) zi_65_39 rfl rfl ?_
  exact zr_ireturn zi_65_40 rfl
theorem c_goOn (hb : b + 71 ≤ h.length) (F : Nat → Nat → Int32) (g : Nat → Nat) (j i : Nat) (v : Int32) (hj : j < 70) (hv : F 11 j = v) : zcalls zTB 66 [.ref (b + 26), .int (nI j), .int (nI i)] (nput b F g h) (some (.int v), nput b (updR F 12 (upd (F 12) j (nI i))) g h) := by
  subst hv
  refine zcalls_of (Nat.le_of_ble_eq_true rfl) ?_
  show zruns zTB 66 0 [some (.ref (b + 26)), some (.int (nI j)), some (.int (nI i))] [] _ _
  refine zr_aload_n (pc' := 1) zi_66_0 rfl rfl ?_
  refine zr_get (pc' := 4) zi_66_1 (nput_at hb (k := 26) rfl) rfl rfl ?_
  refine zr_iload_n (pc' := 5) zi_66_4 rfl rfl ?_
  refine zr_iload_n (pc' := 6) zi_66_5 rfl rfl ?_
  refine zr_rputN (pc' := 9) (rr := 12) (by omega) zi_66_6 hb rfl rfl (fun _ => rfl) (by decide) (by decide) rfl rfl ?_
  refine zr_aload_n (pc' := 10) zi_66_9 rfl rfl ?_
  refine zr_get (pc' := 13) zi_66_10 (nput_at hb (k := 26) rfl) rfl rfl ?_
  refine zr_iload_n (pc' := 14) zi_66_13 rfl rfl ?_
  refine zr_atN (pc' := 17) (by omega) zi_66_14 hb rfl rfl (by decide) rfl rfl ?_
  exact zr_ireturn zi_66_17 rfl
theorem zup_rf (f : Nat → Int32) (k : Nat) (v : Int32) : zup f (upd f k v) k v := ⟨pk_us, fun _ hj => pk_un hj⟩
theorem zup_2 (f : Nat → Int32) (k : Nat) (v w : Int32) : zup f (upd (upd f k w) k v) k v := ⟨pk_us, fun _ hj => (pk_un hj).trans (pk_un hj)⟩
theorem zup_in {f f' : Nat → Int32} {k a : Nat} (hk : k < 70) (q : zup f f' k (nI a)) : zup f (rput 70 f' (nI k) (f' (nI k).toNatClampNeg + 1)) k (nI (a + 1)) := by
  rw [rput_n hk (by omega), nI_clamp (by omega), q.1, nI_1]
  exact ⟨pk_us, fun _ hj => (pk_un hj).trans (q.2 _ hj)⟩
theorem zup_same {f : Nat → Int32} {k : Nat} {v : Int32} (e : f k = v) : zup f f k v := ⟨e, fun _ _ => rfl⟩
/-- the rows of the sessions alone are changed -/
def zonS (F F' : Nat → Nat → Int32) : Prop := ∀ r, r < 11 ∨ 16 < r → F' r = F r
theorem l_find (hb : b + 71 ≤ h.length) (F : Nat → Nat → Int32) (g : Nat → Nat) (gap : Int32) (hn : g 0 ≤ 70) (C : Nat → Nat → Nat) (Z : Nat → Nat) (i : Nat) (hi : i ≤ g 0) (q : zses F (g 4) gap i C Z) (X Y : Option Value) : zev 64 7 [some (.ref (b + 26)), some (.ref (b + 1)), some (.int gap), some (.int (nI i)), X, Y] [] (nput b F g h) (zQn b h fun F' g' => zonS F F' ∧ ∃ S C Z, g' = updG g 4 S ∧ zses F' S gap (g 0) C Z) := by
  have hS := q.le
  refine zev_of (fun _ kk => zr_iload_n (pc' := 8) zi_64_7 rfl rfl kk) ?_
  refine zev_of (fun _ kk => zr_aload_n (pc' := 9) zi_64_8 rfl rfl kk) ?_
  refine zev_of (fun _ kk => zr_get (pc' := 12) zi_64_9 (nput_at hb (k := 1) rfl) rfl rfl kk) ?_
  refine zv_icmp (pc' := 15) zi_64_12 rfl (fun h12 => ?_) (fun h12 => ?_)
  · replace h12 := zc_ge_t (by omega) (by omega) h12
    refine zev_ret (zr_return zi_64_122 rfl) ?_
    have e : i = g 0 := by omega
    refine ⟨_, _, ⟨fun _ _ => rfl, g 4, C, Z, ?_, e ▸ q⟩, rfl⟩
    funext k
    unfold updG
    split
    · rename_i w
      rw [w]
    · rfl
  · replace h12 := zc_ge_f (by omega) (by omega) h12
    refine zev_of (fun _ kk => zr_aload_n (pc' := 16) zi_64_15 rfl rfl kk) ?_
    refine zev_of (fun _ kk => zr_get (pc' := 19) zi_64_16 (nput_at hb (k := 26) rfl) rfl rfl kk) ?_
    refine zev_of (fun _ kk => zr_iload_n (pc' := 20) zi_64_19 rfl rfl kk) ?_
    refine zev_of (fun _ kk => zr_iconst (v := (-1)) (pc' := 21) zi_64_20 rfl rfl kk) ?_
    refine zev_of (fun _ kk => zr_rputN (pc' := 24) (rr := 11) (by omega) zi_64_21 hb rfl rfl (fun _ => rfl) (by decide) (by decide) rfl rfl kk) ?_
    refine zev_of (fun _ kk => zr_aload_n (pc' := 25) zi_64_24 rfl rfl kk) ?_
    refine zev_of (fun _ kk => zr_get (pc' := 28) zi_64_25 (nput_at hb (k := 1) rfl) rfl rfl kk) ?_
    refine zev_of (fun _ kk => zr_iload_n (pc' := 29) zi_64_28 rfl rfl kk) ?_
    refine zev_of (fun _ kk => zr_atN (pc' := 32) (by omega) zi_64_29 hb rfl rfl (by decide) rfl rfl kk) ?_
    refine zv_if (pc' := 35) zi_64_32 rfl (fun h32 => ?_) (fun h32 => ?_)
    · replace h32 := zx_lt_t h32
      refine zev_of (fun _ kk => zr_iinc (pc' := 119) zi_64_116 rfl (by first | exact n_inc _ | rfl) rfl rfl kk) ?_
      dsimp only [zst1, zst2, zkill, List.set, List.getElem?_cons_succ, List.getElem?_cons_zero]
      refine zev_of (fun _ kk => zr_goto zi_64_119 kk) ?_
      refine zev_mono (l_find hb (updR F 11 (upd (F 11) i (-1))) g gap hn C Z (i + 1) (by omega) (zses_neg q h32 (zup_rf _ _ _) (fun r hr => updR_ne hr)) X Y) ?_
      rintro p ⟨F', g', ⟨h1, h2⟩, rfl⟩
      exact ⟨F', g', ⟨fun r hr => (h1 r hr).trans (updR_ne (by omega)), h2⟩, rfl⟩
    · replace h32 := zx_lt_f h32
      have h32' := Int32.not_lt.mp h32
      have hjc := c_joined hb (F := updR F 11 (upd (F 11) i (-1))) (g := g) i gap (by omega)
      rw [zjn_of (F := F) (F' := updR F 11 (upd (F 11) i (-1))) rfl rfl] at hjc
      have hrec : ∀ F1 S1 C1 Z1, zonS F F1 → zses F1 S1 gap (i + 1) C1 Z1 → ∀ g1, g1 = updG g 4 S1 → ∀ X Y, zev 64 7 [some (.ref (b + 26)), some (.ref (b + 1)), some (.int gap), some (.int (nI (i + 1))), X, Y] [] (nput b F1 g1 h) (zQn b h fun F' g' => zonS F F' ∧ ∃ S C Z, g' = updG g 4 S ∧ zses F' S gap (g 0) C Z) := by
        intro F1 S1 C1 Z1 ho hq g1 e X Y
        subst e
        refine zev_mono (l_find hb F1 (updG g 4 S1) gap hn C1 Z1 (i + 1) (by exact (by omega : i + 1 ≤ g 0)) hq X Y) ?_
        rintro p ⟨F', g', ⟨h1, S2, C2, Z2, h2, h3⟩, rfl⟩
        refine ⟨F', g', ⟨fun r hr => (h1 r hr).trans (ho r hr), S2, C2, Z2, ?_, h3⟩, rfl⟩
        rw [h2]
        funext k
        unfold updG
        split <;> rfl
      rcases zjn_cases F i gap i with hj | ⟨j, hji, hj, hkj, hgap, hlast⟩
      · rw [hj] at hjc
        refine zev_of (fun _ kk => zr_aload_n (pc' := 36) zi_64_35 rfl rfl kk) ?_
        refine zev_of (fun _ kk => zr_iload_n (pc' := 37) zi_64_36 rfl rfl kk) ?_
        refine zev_of (fun _ kk => zr_iload_n (pc' := 38) zi_64_37 rfl rfl kk) ?_
        refine zev_of (fun _ kk => zr_v2 (pc' := 41) zi_64_38 (nput_at hb (k := 1) rfl) rfl hjc rfl kk) ?_
        refine zev_of (fun _ kk => zr_istore (pc' := 43) zi_64_41 (Nat.le_of_ble_eq_true rfl) rfl rfl kk) ?_
        dsimp only [zst1, zst2, zkill, List.set, List.getElem?_cons_succ, List.getElem?_cons_zero]
        refine zev_of (fun _ kk => zr_iload (pc' := 45) zi_64_43 rfl rfl kk) ?_
        refine zev_of (fun _ kk => zr_iconst (v := (-1)) (pc' := 46) zi_64_45 rfl rfl kk) ?_
        refine zv_icmp (pc' := 49) zi_64_46 rfl (fun h46 => ?_) (fun h46 => ?_)
        · replace h46 := zc_ne_t h46
          exact absurd rfl h46
        · replace h46 := zc_ne_f h46
          refine zev_of (fun _ kk => zr_aload_n (pc' := 50) zi_64_49 rfl rfl kk) ?_
          refine zev_of (fun _ kk => zr_iload_n (pc' := 51) zi_64_50 rfl rfl kk) ?_
          refine zev_of (fun _ kk => zr_v1 (pc' := 54) zi_64_51 (nput_at hb (k := 26) rfl) rfl (c_begin hb _ _ _ (by omega)) rfl kk) ?_
          refine zev_of (fun _ kk => zr_goto zi_64_54 kk) ?_
          refine zev_of (fun _ kk => zr_istore (pc' := 66) zi_64_64 (Nat.le_of_ble_eq_true rfl) rfl rfl kk) ?_
          dsimp only [zst1, zst2, zkill, List.set, List.getElem?_cons_succ, List.getElem?_cons_zero]
          refine zev_of (fun _ kk => zr_aload_n (pc' := 67) zi_64_66 rfl rfl kk) ?_
          refine zev_of (fun _ kk => zr_get (pc' := 70) zi_64_67 (nput_at hb (k := 26) rfl) rfl rfl kk) ?_
          refine zev_of (fun _ kk => zr_iload_n (pc' := 71) zi_64_70 rfl rfl kk) ?_
          refine zev_of (fun _ kk => zr_iload (pc' := 73) zi_64_71 rfl rfl kk) ?_
          refine zev_of (fun _ kk => zr_rputN (pc' := 76) (rr := 11) (by omega) zi_64_73 hb rfl rfl (fun _ => rfl) (by decide) (by decide) rfl rfl kk) ?_
          refine zev_of (fun _ kk => zr_aload_n (pc' := 77) zi_64_76 rfl rfl kk) ?_
          refine zev_of (fun _ kk => zr_get (pc' := 80) zi_64_77 (nput_at hb (k := 26) rfl) rfl rfl kk) ?_
          refine zev_of (fun _ kk => zr_iload (pc' := 82) zi_64_80 rfl rfl kk) ?_
          refine zev_of (fun _ kk => zr_iload_n (pc' := 83) zi_64_82 rfl rfl kk) ?_
          refine zev_of (fun _ kk => zr_rputN (pc' := 86) (rr := 14) (by omega) zi_64_83 hb rfl rfl (fun _ => rfl) (by decide) (by decide) rfl rfl kk) ?_
          refine zev_of (fun _ kk => zr_aload_n (pc' := 87) zi_64_86 rfl rfl kk) ?_
          refine zev_of (fun _ kk => zr_get (pc' := 90) zi_64_87 (nput_at hb (k := 26) rfl) rfl rfl kk) ?_
          refine zev_of (fun _ kk => zr_iload (pc' := 92) zi_64_90 rfl rfl kk) ?_
          refine zev_of (fun _ kk => zr_rinc (pc' := 95) (rr := 15) zi_64_92 hb rfl rfl (fun _ => rfl) (by decide) (by decide) rfl rfl kk) ?_
          refine zev_of (fun _ kk => zr_aload_n (pc' := 96) zi_64_95 rfl rfl kk) ?_
          refine zev_of (fun _ kk => zr_get (pc' := 99) zi_64_96 (nput_at hb (k := 1) rfl) rfl rfl kk) ?_
          refine zev_of (fun _ kk => zr_iload_n (pc' := 100) zi_64_99 rfl rfl kk) ?_
          refine zev_of (fun _ kk => zr_atN (pc' := 103) (by omega) zi_64_100 hb rfl rfl (by decide) rfl rfl kk) ?_
          refine zev_of (fun _ kk => zr_iconst (v := (nI 3)) (pc' := 104) zi_64_103 rfl rfl kk) ?_
          refine zv_icmp (pc' := 107) zi_64_104 rfl (fun h104 => ?_) (fun h104 => ?_)
          · replace h104 := zc_ne_t h104
            refine zev_of (fun _ kk => zr_iinc (pc' := 119) zi_64_116 rfl (by first | exact n_inc _ | rfl) rfl rfl kk) ?_
            dsimp only [zst1, zst2, zkill, List.set, List.getElem?_cons_succ, List.getElem?_cons_zero]
            refine zev_of (fun _ kk => zr_goto zi_64_119 kk) ?_
            refine hrec _ (g 4 + 1) ?C1 ?Z1 ?ho1 ?hq1 _ rfl _ _
            case hq1 =>
              refine zses_new (w := 0) q h32' hj ?_ ?_ ?_ ?_ ?_ ?_ ?_ ?_ ?_
              · exact zup_2 _ _ _ _
              · exact rfl
              · exact zup_rf _ _ _
              · exact zup_rf _ _ _
              · exact zup_in (by omega) (zup_rf _ _ _)
              · exact (by omega)
              · exact zup_rf _ _ _
              · exact rfl
              · exact rfl
            case ho1 =>
              intro r hr
              rw [updR_ne (by omega), updR_ne (by omega), updR_ne (by omega), updR_ne (by omega), updR_ne (by omega), updR_ne (by omega), updR_ne (by omega)]
          · replace h104 := zc_ne_f h104
            refine zev_of (fun _ kk => zr_aload_n (pc' := 108) zi_64_107 rfl rfl kk) ?_
            refine zev_of (fun _ kk => zr_get (pc' := 111) zi_64_108 (nput_at hb (k := 26) rfl) rfl rfl kk) ?_
            refine zev_of (fun _ kk => zr_iload (pc' := 113) zi_64_111 rfl rfl kk) ?_
            refine zev_of (fun _ kk => zr_rinc (pc' := 116) (rr := 16) zi_64_113 hb rfl rfl (fun _ => rfl) (by decide) (by decide) rfl rfl kk) ?_
            refine zev_of (fun _ kk => zr_iinc (pc' := 119) zi_64_116 rfl (by first | exact n_inc _ | rfl) rfl rfl kk) ?_
            dsimp only [zst1, zst2, zkill, List.set, List.getElem?_cons_succ, List.getElem?_cons_zero]
            refine zev_of (fun _ kk => zr_goto zi_64_119 kk) ?_
            refine hrec _ (g 4 + 1) ?C2 ?Z2 ?ho2 ?hq2 _ rfl _ _
            case hq2 =>
              refine zses_new (w := 1) q h32' hj ?_ ?_ ?_ ?_ ?_ ?_ ?_ ?_ ?_
              · exact zup_2 _ _ _ _
              · exact rfl
              · exact zup_rf _ _ _
              · exact zup_rf _ _ _
              · exact zup_in (by omega) (zup_rf _ _ _)
              · exact (by omega)
              · exact zup_in (by omega) (zup_rf _ _ _)
              · exact rfl
              · exact rfl
            case ho2 =>
              intro r hr
              rw [updR_ne (by omega), updR_ne (by omega), updR_ne (by omega), updR_ne (by omega), updR_ne (by omega), updR_ne (by omega), updR_ne (by omega), updR_ne (by omega)]
      · rw [hj] at hjc
        obtain ⟨s, k, hs, hk, hsk, hsj⟩ : ∃ s k, s < g 4 ∧ k < Z s ∧ C s k = j ∧ F 11 j = nI s := by
          rcases q.ln j hji with ⟨w, _⟩ | ⟨_, w⟩
          · rw [hkj] at w
            exact absurd w h32
          · exact w
        have hkz : k = Z s - 1 := by
          refine Nat.le_antisymm (by omega) (Nat.le_of_not_lt fun hlt => ?_)
          have h1 := (q.ch s hs k (by omega)).1
          have h2 := q.el s hs (k + 1) (by omega)
          have h3 := (q.el s hs k hk).2.2
          refine hlast (C s (k + 1)) (by omega) h2.1 ?_
          rw [h2.2.2, ← h3, hsk, hkj]
        obtain ⟨hz0, hzi, hq1, hq2, hq3, w, hw, hq4⟩ := q.sz s hs
        refine zev_of (fun _ kk => zr_aload_n (pc' := 36) zi_64_35 rfl rfl kk) ?_
        refine zev_of (fun _ kk => zr_iload_n (pc' := 37) zi_64_36 rfl rfl kk) ?_
        refine zev_of (fun _ kk => zr_iload_n (pc' := 38) zi_64_37 rfl rfl kk) ?_
        refine zev_of (fun _ kk => zr_v2 (pc' := 41) zi_64_38 (nput_at hb (k := 1) rfl) rfl hjc rfl kk) ?_
        refine zev_of (fun _ kk => zr_istore (pc' := 43) zi_64_41 (Nat.le_of_ble_eq_true rfl) rfl rfl kk) ?_
        dsimp only [zst1, zst2, zkill, List.set, List.getElem?_cons_succ, List.getElem?_cons_zero]
        refine zev_of (fun _ kk => zr_iload (pc' := 45) zi_64_43 rfl rfl kk) ?_
        refine zev_of (fun _ kk => zr_iconst (v := (-1)) (pc' := 46) zi_64_45 rfl rfl kk) ?_
        refine zv_icmp (pc' := 49) zi_64_46 rfl (fun h46 => ?_) (fun h46 => ?_)
        · replace h46 := zc_ne_t h46
          refine zev_of (fun _ kk => zr_aload_n (pc' := 58) zi_64_57 rfl rfl kk) ?_
          refine zev_of (fun _ kk => zr_iload (pc' := 60) zi_64_58 rfl rfl kk) ?_
          refine zev_of (fun _ kk => zr_iload_n (pc' := 61) zi_64_60 rfl rfl kk) ?_
          refine zev_of (fun _ kk => zr_v2 (pc' := 64) zi_64_61 (nput_at hb (k := 26) rfl) rfl (c_goOn hb _ _ j i (nI s) (by omega) ((pk_un (by omega)).trans hsj)) rfl kk) ?_
          refine zev_of (fun _ kk => zr_istore (pc' := 66) zi_64_64 (Nat.le_of_ble_eq_true rfl) rfl rfl kk) ?_
          dsimp only [zst1, zst2, zkill, List.set, List.getElem?_cons_succ, List.getElem?_cons_zero]
          refine zev_of (fun _ kk => zr_aload_n (pc' := 67) zi_64_66 rfl rfl kk) ?_
          refine zev_of (fun _ kk => zr_get (pc' := 70) zi_64_67 (nput_at hb (k := 26) rfl) rfl rfl kk) ?_
          refine zev_of (fun _ kk => zr_iload_n (pc' := 71) zi_64_70 rfl rfl kk) ?_
          refine zev_of (fun _ kk => zr_iload (pc' := 73) zi_64_71 rfl rfl kk) ?_
          refine zev_of (fun _ kk => zr_rputN (pc' := 76) (rr := 11) (by omega) zi_64_73 hb rfl rfl (fun _ => rfl) (by decide) (by decide) rfl rfl kk) ?_
          refine zev_of (fun _ kk => zr_aload_n (pc' := 77) zi_64_76 rfl rfl kk) ?_
          refine zev_of (fun _ kk => zr_get (pc' := 80) zi_64_77 (nput_at hb (k := 26) rfl) rfl rfl kk) ?_
          refine zev_of (fun _ kk => zr_iload (pc' := 82) zi_64_80 rfl rfl kk) ?_
          refine zev_of (fun _ kk => zr_iload_n (pc' := 83) zi_64_82 rfl rfl kk) ?_
          refine zev_of (fun _ kk => zr_rputN (pc' := 86) (rr := 14) (by omega) zi_64_83 hb rfl rfl (fun _ => rfl) (by decide) (by decide) rfl rfl kk) ?_
          refine zev_of (fun _ kk => zr_aload_n (pc' := 87) zi_64_86 rfl rfl kk) ?_
          refine zev_of (fun _ kk => zr_get (pc' := 90) zi_64_87 (nput_at hb (k := 26) rfl) rfl rfl kk) ?_
          refine zev_of (fun _ kk => zr_iload (pc' := 92) zi_64_90 rfl rfl kk) ?_
          refine zev_of (fun _ kk => zr_rinc (pc' := 95) (rr := 15) zi_64_92 hb rfl rfl (fun _ => rfl) (by decide) (by decide) rfl rfl kk) ?_
          refine zev_of (fun _ kk => zr_aload_n (pc' := 96) zi_64_95 rfl rfl kk) ?_
          refine zev_of (fun _ kk => zr_get (pc' := 99) zi_64_96 (nput_at hb (k := 1) rfl) rfl rfl kk) ?_
          refine zev_of (fun _ kk => zr_iload_n (pc' := 100) zi_64_99 rfl rfl kk) ?_
          refine zev_of (fun _ kk => zr_atN (pc' := 103) (by omega) zi_64_100 hb rfl rfl (by decide) rfl rfl kk) ?_
          refine zev_of (fun _ kk => zr_iconst (v := (nI 3)) (pc' := 104) zi_64_103 rfl rfl kk) ?_
          refine zv_icmp (pc' := 107) zi_64_104 rfl (fun h104 => ?_) (fun h104 => ?_)
          · replace h104 := zc_ne_t h104
            refine zev_of (fun _ kk => zr_iinc (pc' := 119) zi_64_116 rfl (by first | exact n_inc _ | rfl) rfl rfl kk) ?_
            dsimp only [zst1, zst2, zkill, List.set, List.getElem?_cons_succ, List.getElem?_cons_zero]
            refine zev_of (fun _ kk => zr_goto zi_64_119 kk) ?_
            refine hrec _ (g 4) ?C3 ?Z3 ?ho3 ?hq3 _ ?he3 _ _
            case hq3 =>
              refine zses_on (w := w) q (by omega) h32' hji hj hs (hkz ▸ hsk) hkj hgap ?_ ?_ ?_ ?_ ?_ ?_ ?_ ?_ ?_
              · exact zup_2 _ _ _ _
              · exact zup_rf _ _ _
              · exact rfl
              · exact zup_rf _ _ _
              · exact zup_in (by omega) (zup_same hq3)
              · exact (by omega)
              · exact zup_same hq4
              · exact rfl
              · exact rfl
            case ho3 =>
              intro r hr
              rw [updR_ne (by omega), updR_ne (by omega), updR_ne (by omega), updR_ne (by omega), updR_ne (by omega)]
            case he3 =>
              funext k
              unfold updG
              split
              · rename_i w
                rw [w]
              · rfl
          · replace h104 := zc_ne_f h104
            refine zev_of (fun _ kk => zr_aload_n (pc' := 108) zi_64_107 rfl rfl kk) ?_
            refine zev_of (fun _ kk => zr_get (pc' := 111) zi_64_108 (nput_at hb (k := 26) rfl) rfl rfl kk) ?_
            refine zev_of (fun _ kk => zr_iload (pc' := 113) zi_64_111 rfl rfl kk) ?_
            refine zev_of (fun _ kk => zr_rinc (pc' := 116) (rr := 16) zi_64_113 hb rfl rfl (fun _ => rfl) (by decide) (by decide) rfl rfl kk) ?_
            refine zev_of (fun _ kk => zr_iinc (pc' := 119) zi_64_116 rfl (by first | exact n_inc _ | rfl) rfl rfl kk) ?_
            dsimp only [zst1, zst2, zkill, List.set, List.getElem?_cons_succ, List.getElem?_cons_zero]
            refine zev_of (fun _ kk => zr_goto zi_64_119 kk) ?_
            refine hrec _ (g 4) ?C4 ?Z4 ?ho4 ?hq4 _ ?he4 _ _
            case hq4 =>
              refine zses_on (w := w + 1) q (by omega) h32' hji hj hs (hkz ▸ hsk) hkj hgap ?_ ?_ ?_ ?_ ?_ ?_ ?_ ?_ ?_
              · exact zup_2 _ _ _ _
              · exact zup_rf _ _ _
              · exact rfl
              · exact zup_rf _ _ _
              · exact zup_in (by omega) (zup_same hq3)
              · exact (by omega)
              · exact zup_in (by omega) (zup_same hq4)
              · exact rfl
              · exact rfl
            case ho4 =>
              intro r hr
              rw [updR_ne (by omega), updR_ne (by omega), updR_ne (by omega), updR_ne (by omega), updR_ne (by omega), updR_ne (by omega)]
            case he4 =>
              funext k
              unfold updG
              split
              · rename_i w
                rw [w]
              · rfl
        · replace h46 := zc_ne_f h46
          exact absurd h46 (nI_neg (by omega))
termination_by g 0 - i
decreasing_by all_goals (show g 0 - (i + 1) < g 0 - i; omega)
theorem c_find (hb : b + 71 ≤ h.length) (F : Nat → Nat → Int32) (g : Nat → Nat) (gap : Int32) (hn : g 0 ≤ 70) : ∃ F' g', (zonS F F' ∧ ∃ S C Z, g' = updG g 4 S ∧ zses F' S gap (g 0) C Z) ∧ zcalls zTB 64 [.ref (b + 26), .ref (b + 1), .int gap] (nput b F g h) (none, nput b F' g' h) := by
  refine zQn_out (zev_calls (Nat.le_of_ble_eq_true rfl) ?_)
  show zev 64 0 [some (.ref (b + 26)), some (.ref (b + 1)), some (.int gap), none, none, none] [] _ _
  refine zev_of (fun _ kk => zr_aload_n (pc' := 1) zi_64_0 rfl rfl kk) ?_
  refine zev_of (fun _ kk => zr_iconst (v := (nI 0)) (pc' := 2) zi_64_1 rfl rfl kk) ?_
  refine zev_of (fun _ kk => zr_put (pc' := 5) zi_64_2 (by omega) (nput_at hb (k := 26) rfl) (Nat.le_of_ble_eq_true rfl) rfl rfl (nput_set (g' := updG _ 4 (0)) hb (by decide) rfl) kk) ?_
  refine zev_of (fun _ kk => zr_iconst (v := (nI 0)) (pc' := 6) zi_64_5 rfl rfl kk) ?_
  refine zev_of (fun _ kk => zr_istore_n (pc' := 7) zi_64_6 (Nat.le_of_ble_eq_true rfl) rfl rfl kk) ?_
  dsimp only [zst1, zst2, zkill, List.set, List.getElem?_cons_succ, List.getElem?_cons_zero]
  refine zev_mono (l_find hb F (updG g 4 0) gap hn (fun _ _ => 0) (fun _ => 0) 0 (Nat.zero_le _) ?_ none none) ?_
  · refine ⟨Nat.le_refl _, ?_, ?_, ?_, ?_, ?_, rfl, rfl⟩
    · intro s hs
      exact absurd hs (Nat.not_lt_zero _)
    · intro s hs
      exact absurd hs (Nat.not_lt_zero _)
    · intro s hs
      exact absurd hs (Nat.not_lt_zero _)
    · intro s hs
      exact absurd hs (Nat.not_lt_zero _)
    · intro s hs
      exact absurd hs (Nat.not_lt_zero _)
  · rintro p ⟨F', g', ⟨h1, S2, C2, Z2, h2, h3⟩, rfl⟩
    refine ⟨F', g', ⟨h1, S2, C2, Z2, ?_, h3⟩, rfl⟩
    rw [h2]
    funext k
    unfold updG
    split <;> rfl
end


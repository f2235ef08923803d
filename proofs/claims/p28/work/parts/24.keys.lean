theorem zi_48_0 : zI 48 0 = some (.aload_n 0, []) := by decide +kernel
theorem zi_48_1 : zI 48 1 = some (.getfield 38, [0, 7, 279]) := by decide +kernel
theorem zi_48_4 : zI 48 4 = some (.istore 4, []) := by decide +kernel
theorem zi_48_6 : zI 48 6 = some (.aload_n 0, []) := by decide +kernel
theorem zi_48_7 : zI 48 7 = some (.getfield 14, [0, 0, 193]) := by decide +kernel
theorem zi_48_10 : zI 48 10 = some (.iload 4, []) := by decide +kernel
theorem zi_48_12 : zI 48 12 = some (.iload_n 1, []) := by decide +kernel
theorem zi_48_13 : zI 48 13 = some (.invokevirtual 42, [1, 0, 2, 1, 282, 283, 19, 281, 0, 280]) := by decide +kernel
theorem zi_48_16 : zI 48 16 = some (.aload_n 0, []) := by decide +kernel
theorem zi_48_17 : zI 48 17 = some (.getfield 20, [0, 1, 196]) := by decide +kernel
theorem zi_48_20 : zI 48 20 = some (.iload 4, []) := by decide +kernel
theorem zi_48_22 : zI 48 22 = some (.iload_n 2, []) := by decide +kernel
theorem zi_48_23 : zI 48 23 = some (.invokevirtual 42, [1, 0, 2, 1, 282, 283, 19, 281, 0, 280]) := by decide +kernel
theorem zi_48_26 : zI 48 26 = some (.aload_n 0, []) := by decide +kernel
theorem zi_48_27 : zI 48 27 = some (.getfield 23, [0, 2, 277]) := by decide +kernel
theorem zi_48_30 : zI 48 30 = some (.iload 4, []) := by decide +kernel
theorem zi_48_32 : zI 48 32 = some (.iload_n 3, []) := by decide +kernel
theorem zi_48_33 : zI 48 33 = some (.invokevirtual 42, [1, 0, 2, 1, 282, 283, 19, 281, 0, 280]) := by decide +kernel
theorem zi_48_36 : zI 48 36 = some (.aload_n 0, []) := by decide +kernel
theorem zi_48_37 : zI 48 37 = some (.getfield 26, [0, 3, 278]) := by decide +kernel
theorem zi_48_40 : zI 48 40 = some (.iload 4, []) := by decide +kernel
theorem zi_48_42 : zI 48 42 = some (.iconst 0, []) := by decide +kernel
theorem zi_48_43 : zI 48 43 = some (.invokevirtual 42, [1, 0, 2, 1, 282, 283, 19, 281, 0, 280]) := by decide +kernel
theorem zi_48_46 : zI 48 46 = some (.aload_n 0, []) := by decide +kernel
theorem zi_48_47 : zI 48 47 = some (.getfield 32, [0, 5, 194]) := by decide +kernel
theorem zi_48_50 : zI 48 50 = some (.iload 4, []) := by decide +kernel
theorem zi_48_52 : zI 48 52 = some (.iconst (-1), []) := by decide +kernel
theorem zi_48_53 : zI 48 53 = some (.invokevirtual 42, [1, 0, 2, 1, 282, 283, 19, 281, 0, 280]) := by decide +kernel
theorem zi_48_56 : zI 48 56 = some (.aload_n 0, []) := by decide +kernel
theorem zi_48_57 : zI 48 57 = some (.iload 4, []) := by decide +kernel
theorem zi_48_59 : zI 48 59 = some (.iconst 1, []) := by decide +kernel
theorem zi_48_60 : zI 48 60 = some (.iadd, []) := by decide +kernel
theorem zi_48_61 : zI 48 61 = some (.putfield 38, [0, 7, 0, 279]) := by decide +kernel
theorem zi_48_64 : zI 48 64 = some (.iload 4, []) := by decide +kernel
theorem zi_48_66 : zI 48 66 = some (.ireturn, []) := by decide +kernel
theorem zi_49_0 : zI 49 0 = some (.aload_n 0, []) := by decide +kernel
theorem zi_49_1 : zI 49 1 = some (.getfield 26, [0, 3, 278]) := by decide +kernel
theorem zi_49_4 : zI 49 4 = some (.iload_n 1, []) := by decide +kernel
theorem zi_49_5 : zI 49 5 = some (.invokevirtual 46, [0, 0, 1, 1, 17, 18, 19, 16, 0, 101]) := by decide +kernel
theorem zi_49_8 : zI 49 8 = some (.istore_n 3, []) := by decide +kernel
theorem zi_49_9 : zI 49 9 = some (.aload_n 0, []) := by decide +kernel
theorem zi_49_10 : zI 49 10 = some (.getfield 29, [0, 4, 100]) := by decide +kernel
theorem zi_49_13 : zI 49 13 = some (.iload_n 1, []) := by decide +kernel
theorem zi_49_14 : zI 49 14 = some (.bipush 8, []) := by decide +kernel
theorem zi_49_16 : zI 49 16 = some (.imul, []) := by decide +kernel
theorem zi_49_17 : zI 49 17 = some (.iload_n 3, []) := by decide +kernel
theorem zi_49_18 : zI 49 18 = some (.iadd, []) := by decide +kernel
theorem zi_49_19 : zI 49 19 = some (.iload_n 2, []) := by decide +kernel
theorem zi_49_20 : zI 49 20 = some (.invokevirtual 42, [1, 0, 2, 1, 282, 283, 19, 281, 0, 280]) := by decide +kernel
theorem zi_49_23 : zI 49 23 = some (.aload_n 0, []) := by decide +kernel
theorem zi_49_24 : zI 49 24 = some (.getfield 26, [0, 3, 278]) := by decide +kernel
theorem zi_49_27 : zI 49 27 = some (.iload_n 1, []) := by decide +kernel
theorem zi_49_28 : zI 49 28 = some (.iload_n 3, []) := by decide +kernel
theorem zi_49_29 : zI 49 29 = some (.iconst 1, []) := by decide +kernel
theorem zi_49_30 : zI 49 30 = some (.iadd, []) := by decide +kernel
theorem zi_49_31 : zI 49 31 = some (.invokevirtual 42, [1, 0, 2, 1, 282, 283, 19, 281, 0, 280]) := by decide +kernel
theorem zi_49_34 : zI 49 34 = some (.iload_n 3, []) := by decide +kernel
theorem zi_49_35 : zI 49 35 = some (.iconst 1, []) := by decide +kernel
theorem zi_49_36 : zI 49 36 = some (.iadd, []) := by decide +kernel
theorem zi_49_37 : zI 49 37 = some (.ireturn, []) := by decide +kernel
theorem zi_50_0 : zI 50 0 = some (.iconst 0, []) := by decide +kernel
theorem zi_50_1 : zI 50 1 = some (.istore_n 2, []) := by decide +kernel
theorem zi_50_2 : zI 50 2 = some (.iload_n 2, []) := by decide +kernel
theorem zi_50_3 : zI 50 3 = some (.aload_n 0, []) := by decide +kernel
theorem zi_50_4 : zI 50 4 = some (.getfield 38, [0, 7, 279]) := by decide +kernel
theorem zi_50_7 : zI 50 7 = some (.if_icmp .ge 46, [53]) := by decide +kernel
theorem zi_50_10 : zI 50 10 = some (.aload_n 1, []) := by decide +kernel
theorem zi_50_11 : zI 50 11 = some (.aload_n 0, []) := by decide +kernel
theorem zi_50_12 : zI 50 12 = some (.getfield 32, [0, 5, 194]) := by decide +kernel
theorem zi_50_15 : zI 50 15 = some (.iload_n 2, []) := by decide +kernel
theorem zi_50_16 : zI 50 16 = some (.invokevirtual 46, [0, 0, 1, 1, 17, 18, 19, 16, 0, 101]) := by decide +kernel
theorem zi_50_19 : zI 50 19 = some (.iconst 0, []) := by decide +kernel
theorem zi_50_20 : zI 50 20 = some (.invokevirtual 53, [38, 0, 2, 5, 219, 220, 86, 218, 0, 284]) := by decide +kernel
theorem zi_50_23 : zI 50 23 = some (.istore_n 3, []) := by decide +kernel
theorem zi_50_24 : zI 50 24 = some (.aload_n 0, []) := by decide +kernel
theorem zi_50_25 : zI 50 25 = some (.getfield 35, [0, 6, 195]) := by decide +kernel
theorem zi_50_28 : zI 50 28 = some (.iload_n 2, []) := by decide +kernel
theorem zi_50_29 : zI 50 29 = some (.iload_n 3, []) := by decide +kernel
theorem zi_50_30 : zI 50 30 = some (.iconst (-1), []) := by decide +kernel
theorem zi_50_31 : zI 50 31 = some (.if_icmp .ne 7, [38]) := by decide +kernel
theorem zi_50_34 : zI 50 34 = some (.iconst (-1), []) := by decide +kernel
theorem zi_50_35 : zI 50 35 = some (.goto 9, [44]) := by decide +kernel
theorem zi_50_38 : zI 50 38 = some (.aload_n 0, []) := by decide +kernel
theorem zi_50_39 : zI 50 39 = some (.iload_n 2, []) := by decide +kernel
theorem zi_50_40 : zI 50 40 = some (.iload_n 3, []) := by decide +kernel
theorem zi_50_41 : zI 50 41 = some (.invokevirtual 59, [11, 0, 2, 0, 214, 215, 91, 213, 0, 285]) := by decide +kernel
theorem zi_50_44 : zI 50 44 = some (.invokevirtual 42, [1, 0, 2, 1, 282, 283, 19, 281, 0, 280]) := by decide +kernel
theorem zi_50_47 : zI 50 47 = some (.iinc 2 1, []) := by decide +kernel
theorem zi_50_50 : zI 50 50 = some (.goto (-48), [2]) := by decide +kernel
theorem zi_50_53 : zI 50 53 = some (.return_, []) := by decide +kernel
theorem zi_79_0 : zI 79 0 = some (.aload_n 0, []) := by decide +kernel
theorem zi_79_1 : zI 79 1 = some (.aload_n 1, []) := by decide +kernel
theorem zi_79_2 : zI 79 2 = some (.iload_n 2, []) := by decide +kernel
theorem zi_79_3 : zI 79 3 = some (.iload_n 3, []) := by decide +kernel
theorem zi_79_4 : zI 79 4 = some (.invokevirtual 45, [78, 0, 3, 5, 398, 399, 86, 397, 0, 396]) := by decide +kernel
theorem zi_79_7 : zI 79 7 = some (.istore 4, []) := by decide +kernel
theorem zi_79_9 : zI 79 9 = some (.iload 4, []) := by decide +kernel
theorem zi_79_11 : zI 79 11 = some (.iconst (-1), []) := by decide +kernel
theorem zi_79_12 : zI 79 12 = some (.if_icmp .ne 5, [17]) := by decide +kernel
theorem zi_79_15 : zI 79 15 = some (.iconst (-1), []) := by decide +kernel
theorem zi_79_16 : zI 79 16 = some (.ireturn, []) := by decide +kernel
theorem zi_79_17 : zI 79 17 = some (.iload 4, []) := by decide +kernel
theorem zi_79_19 : zI 79 19 = some (.aload_n 0, []) := by decide +kernel
theorem zi_79_20 : zI 79 20 = some (.getfield 37, [5, 2, 391]) := by decide +kernel
theorem zi_79_23 : zI 79 23 = some (.if_icmp .ne 12, [35]) := by decide +kernel
theorem zi_79_26 : zI 79 26 = some (.aload_n 0, []) := by decide +kernel
theorem zi_79_27 : zI 79 27 = some (.aload_n 1, []) := by decide +kernel
theorem zi_79_28 : zI 79 28 = some (.iload_n 2, []) := by decide +kernel
theorem zi_79_29 : zI 79 29 = some (.invokevirtual 48, [80, 0, 2, 5, 402, 403, 86, 401, 0, 400]) := by decide +kernel
theorem zi_79_32 : zI 79 32 = some (.goto 11, [43]) := by decide +kernel
theorem zi_79_35 : zI 79 35 = some (.aload_n 0, []) := by decide +kernel
theorem zi_79_36 : zI 79 36 = some (.aload_n 1, []) := by decide +kernel
theorem zi_79_37 : zI 79 37 = some (.iload_n 2, []) := by decide +kernel
theorem zi_79_38 : zI 79 38 = some (.iload 4, []) := by decide +kernel
theorem zi_79_40 : zI 79 40 = some (.invokevirtual 52, [81, 0, 3, 5, 406, 407, 86, 405, 0, 404]) := by decide +kernel
theorem zi_79_43 : zI 79 43 = some (.iload 4, []) := by decide +kernel
theorem zi_79_45 : zI 79 45 = some (.ireturn, []) := by decide +kernel
theorem zi_80_0 : zI 80 0 = some (.aload_n 1, []) := by decide +kernel
theorem zi_80_1 : zI 80 1 = some (.getfield 31, [0, 3, 211]) := by decide +kernel
theorem zi_80_4 : zI 80 4 = some (.iload_n 2, []) := by decide +kernel
theorem zi_80_5 : zI 80 5 = some (.invokevirtual 23, [0, 0, 1, 1, 17, 18, 19, 16, 0, 120]) := by decide +kernel
theorem zi_80_8 : zI 80 8 = some (.istore_n 3, []) := by decide +kernel
theorem zi_80_9 : zI 80 9 = some (.aload_n 0, []) := by decide +kernel
theorem zi_80_10 : zI 80 10 = some (.getfield 14, [5, 0, 206]) := by decide +kernel
theorem zi_80_13 : zI 80 13 = some (.aload_n 0, []) := by decide +kernel
theorem zi_80_14 : zI 80 14 = some (.getfield 37, [5, 2, 391]) := by decide +kernel
theorem zi_80_17 : zI 80 17 = some (.iload_n 3, []) := by decide +kernel
theorem zi_80_18 : zI 80 18 = some (.invokevirtual 56, [1, 0, 2, 1, 282, 283, 19, 281, 0, 408]) := by decide +kernel
theorem zi_80_21 : zI 80 21 = some (.iconst 0, []) := by decide +kernel
theorem zi_80_22 : zI 80 22 = some (.istore 4, []) := by decide +kernel
theorem zi_80_24 : zI 80 24 = some (.iload 4, []) := by decide +kernel
theorem zi_80_26 : zI 80 26 = some (.iload_n 3, []) := by decide +kernel
theorem zi_80_27 : zI 80 27 = some (.if_icmp .ge 33, [60]) := by decide +kernel
theorem zi_80_30 : zI 80 30 = some (.aload_n 0, []) := by decide +kernel
theorem zi_80_31 : zI 80 31 = some (.getfield 20, [5, 1, 119]) := by decide +kernel
theorem zi_80_34 : zI 80 34 = some (.aload_n 0, []) := by decide +kernel
theorem zi_80_35 : zI 80 35 = some (.getfield 37, [5, 2, 391]) := by decide +kernel
theorem zi_80_38 : zI 80 38 = some (.bipush 8, []) := by decide +kernel
theorem zi_80_40 : zI 80 40 = some (.imul, []) := by decide +kernel
theorem zi_80_41 : zI 80 41 = some (.iload 4, []) := by decide +kernel
theorem zi_80_43 : zI 80 43 = some (.iadd, []) := by decide +kernel
theorem zi_80_44 : zI 80 44 = some (.aload_n 1, []) := by decide +kernel
theorem zi_80_45 : zI 80 45 = some (.iload_n 2, []) := by decide +kernel
theorem zi_80_46 : zI 80 46 = some (.iload 4, []) := by decide +kernel
theorem zi_80_48 : zI 80 48 = some (.invokevirtual 34, [11, 0, 2, 0, 214, 215, 91, 213, 0, 212]) := by decide +kernel
theorem zi_80_51 : zI 80 51 = some (.invokevirtual 56, [1, 0, 2, 1, 282, 283, 19, 281, 0, 408]) := by decide +kernel
theorem zi_80_54 : zI 80 54 = some (.iinc 4 1, []) := by decide +kernel
theorem zi_80_57 : zI 80 57 = some (.goto (-33), [24]) := by decide +kernel
theorem zi_80_60 : zI 80 60 = some (.aload_n 0, []) := by decide +kernel
theorem zi_80_61 : zI 80 61 = some (.dup, []) := by decide +kernel
theorem zi_80_62 : zI 80 62 = some (.getfield 37, [5, 2, 391]) := by decide +kernel
theorem zi_80_65 : zI 80 65 = some (.iconst 1, []) := by decide +kernel
theorem zi_80_66 : zI 80 66 = some (.iadd, []) := by decide +kernel
theorem zi_80_67 : zI 80 67 = some (.putfield 37, [5, 2, 0, 391]) := by decide +kernel
theorem zi_80_70 : zI 80 70 = some (.return_, []) := by decide +kernel
theorem zi_81_0 : zI 81 0 = some (.iconst 0, []) := by decide +kernel
theorem zi_81_1 : zI 81 1 = some (.istore 4, []) := by decide +kernel
theorem zi_81_3 : zI 81 3 = some (.iload 4, []) := by decide +kernel
theorem zi_81_5 : zI 81 5 = some (.aload_n 0, []) := by decide +kernel
theorem zi_81_6 : zI 81 6 = some (.getfield 14, [5, 0, 206]) := by decide +kernel
theorem zi_81_9 : zI 81 9 = some (.iload_n 3, []) := by decide +kernel
theorem zi_81_10 : zI 81 10 = some (.invokevirtual 23, [0, 0, 1, 1, 17, 18, 19, 16, 0, 120]) := by decide +kernel
theorem zi_81_13 : zI 81 13 = some (.if_icmp .ge 41, [54]) := by decide +kernel
theorem zi_81_16 : zI 81 16 = some (.aload_n 0, []) := by decide +kernel
theorem zi_81_17 : zI 81 17 = some (.iload_n 3, []) := by decide +kernel
theorem zi_81_18 : zI 81 18 = some (.iload 4, []) := by decide +kernel
theorem zi_81_20 : zI 81 20 = some (.invokevirtual 27, [19, 0, 2, 5, 209, 210, 86, 208, 0, 207]) := by decide +kernel
theorem zi_81_23 : zI 81 23 = some (.aload_n 1, []) := by decide +kernel
theorem zi_81_24 : zI 81 24 = some (.iload_n 2, []) := by decide +kernel
theorem zi_81_25 : zI 81 25 = some (.iload 4, []) := by decide +kernel
theorem zi_81_27 : zI 81 27 = some (.invokevirtual 34, [11, 0, 2, 0, 214, 215, 91, 213, 0, 212]) := by decide +kernel
theorem zi_81_30 : zI 81 30 = some (.if_icmp .eq 18, [48]) := by decide +kernel
theorem zi_81_33 : zI 81 33 = some (.aload_n 0, []) := by decide +kernel
theorem zi_81_34 : zI 81 34 = some (.getfield 20, [5, 1, 119]) := by decide +kernel
theorem zi_81_37 : zI 81 37 = some (.iload_n 3, []) := by decide +kernel
theorem zi_81_38 : zI 81 38 = some (.bipush 8, []) := by decide +kernel
theorem zi_81_40 : zI 81 40 = some (.imul, []) := by decide +kernel
theorem zi_81_41 : zI 81 41 = some (.iload 4, []) := by decide +kernel
theorem zi_81_43 : zI 81 43 = some (.iadd, []) := by decide +kernel
theorem zi_81_44 : zI 81 44 = some (.iconst (-1), []) := by decide +kernel
theorem zi_81_45 : zI 81 45 = some (.invokevirtual 56, [1, 0, 2, 1, 282, 283, 19, 281, 0, 408]) := by decide +kernel
theorem zi_81_48 : zI 81 48 = some (.iinc 4 1, []) := by decide +kernel
theorem zi_81_51 : zI 81 51 = some (.goto (-48), [3]) := by decide +kernel
theorem zi_81_54 : zI 81 54 = some (.return_, []) := by decide +kernel
/-! what changes lines and templates -/
theorem updG_eq {g : Nat → Nat} {k v : Nat} : updG g k v k = v := if_pos rfl
theorem updG_ne {g : Nat → Nat} {k q v : Nat} (h : q ≠ k) : updG g k v q = g q := if_neg h
/-- template T has the words of line l from place i on -/
def zcop (F F' : Nat → Nat → Int32) (l T i c : Nat) : Prop := (∀ r, r ≠ 8 → F' r = F r) ∧ (∀ p, i ≤ p → p < c → F' 8 (T * 8 + p) = F 4 (l * 8 + p)) ∧ ∀ x, x < T * 8 + i ∨ T * 8 + c ≤ x → F' 8 x = F 8 x
/-- template t has a hole from place i on wherever it hasn't the word of line l -/
def zwid (F F' : Nat → Nat → Int32) (l t i a : Nat) : Prop := (∀ r, r ≠ 8 → F' r = F r) ∧ (∀ p, i ≤ p → p < a → F' 8 (t * 8 + p) = if F 8 (t * 8 + p) = F 4 (l * 8 + p) then F 8 (t * 8 + p) else -1) ∧ ∀ x, x < t * 8 + i ∨ t * 8 + a ≤ x → F' 8 x = F 8 x
section
variable {b : Nat} {h : zH}
theorem l_copy (hb : b + 71 ≤ h.length) (F : Nat → Nat → Int32) (g : Nat → Nat) (l c : Nat) (hl : l < 70) (hc8 : c ≤ 8) (hT : g 2 < 20) (i : Nat) (hi : i ≤ c) : zev 80 24 [some (.ref (b + 16)), some (.ref (b + 1)), some (.int (nI l)), some (.int (nI c)), some (.int (nI i))] [] (nput b F g h) (zQn b h fun F' g' => zcop F F' l (g 2) i c ∧ g' = updG g 2 (g 2 + 1)) := by
  refine zev_of (fun _ kk => zr_iload (pc' := 26) zi_80_24 rfl rfl kk) ?_
  refine zev_of (fun _ kk => zr_iload_n (pc' := 27) zi_80_26 rfl rfl kk) ?_
  refine zv_icmp (pc' := 30) zi_80_27 rfl (fun h27 => ?_) (fun h27 => ?_)
  · replace h27 := zc_ge_t (by omega) (by omega) h27
    refine zev_of (fun _ kk => zr_aload_n (pc' := 61) zi_80_60 rfl rfl kk) ?_
    refine zev_of (fun _ kk => zr_dup (pc' := 62) zi_80_61 rfl rfl kk) ?_
    refine zev_of (fun _ kk => zr_get (pc' := 65) zi_80_62 (nput_at hb (k := 16) rfl) rfl rfl kk) ?_
    refine zev_of (fun _ kk => zr_iconst (v := (nI 1)) (pc' := 66) zi_80_65 rfl rfl kk) ?_
    refine zev_of (fun _ kk => zr_iadd (pc' := 67) zi_80_66 (by first | exact nI_add _ _ | rfl) rfl kk) ?_
    refine zev_of (fun _ kk => zr_put (pc' := 70) zi_80_67 (by omega) (nput_at hb (k := 16) rfl) (Nat.le_of_ble_eq_true rfl) rfl rfl (nput_set (g' := updG _ 2 (_)) hb (by decide) rfl) kk) ?_
    refine zev_ret (zr_return zi_80_70 rfl) ?_
    refine ⟨_, _, ⟨⟨fun _ _ => rfl, fun p h1 h2 => absurd h1 (by omega), fun _ _ => rfl⟩, rfl⟩, rfl⟩
  · replace h27 := zc_ge_f (by omega) (by omega) h27
    refine zev_of (fun _ kk => zr_aload_n (pc' := 31) zi_80_30 rfl rfl kk) ?_
    refine zev_of (fun _ kk => zr_get (pc' := 34) zi_80_31 (nput_at hb (k := 16) rfl) rfl rfl kk) ?_
    refine zev_of (fun _ kk => zr_aload_n (pc' := 35) zi_80_34 rfl rfl kk) ?_
    refine zev_of (fun _ kk => zr_get (pc' := 38) zi_80_35 (nput_at hb (k := 16) rfl) rfl rfl kk) ?_
    refine zev_of (fun _ kk => zr_bipush (v := (nI 8)) (pc' := 40) zi_80_38 rfl rfl kk) ?_
    refine zev_of (fun _ kk => zr_imul (pc' := 41) zi_80_40 (by first | exact pk_mul _ _ | rfl) rfl kk) ?_
    refine zev_of (fun _ kk => zr_iload (pc' := 43) zi_80_41 rfl rfl kk) ?_
    refine zev_of (fun _ kk => zr_iadd (pc' := 44) zi_80_43 (by first | exact nI_add _ _ | rfl) rfl kk) ?_
    refine zev_of (fun _ kk => zr_aload_n (pc' := 45) zi_80_44 rfl rfl kk) ?_
    refine zev_of (fun _ kk => zr_iload_n (pc' := 46) zi_80_45 rfl rfl kk) ?_
    refine zev_of (fun _ kk => zr_iload (pc' := 48) zi_80_46 rfl rfl kk) ?_
    refine zev_of (fun _ kk => zr_v2 (pc' := 51) zi_80_48 (nput_at hb (k := 1) rfl) rfl (c_wordIn hb _ _ (by omega)) rfl kk) ?_
    refine zev_of (fun _ kk => zr_rputN (pc' := 54) (rr := 8) (by omega) zi_80_51 hb rfl rfl (fun _ => rfl) (by decide) (by decide) rfl rfl kk) ?_
    refine zev_of (fun _ kk => zr_iinc (pc' := 57) zi_80_54 rfl (by first | exact n_inc _ | rfl) rfl rfl kk) ?_
    dsimp only [zst1, zst2, zkill, List.set, List.getElem?_cons_succ, List.getElem?_cons_zero]
    refine zev_of (fun _ kk => zr_goto zi_80_57 kk) ?_
    refine zev_mono (l_copy hb _ g l c hl hc8 hT (i + 1) (by omega)) ?_
    rintro q ⟨F', g', ⟨⟨k1, k2, k3⟩, k4⟩, rfl⟩
    refine ⟨F', g', ⟨⟨fun r hr => (k1 r hr).trans (updR_ne hr), fun p h1 h2 => ?_, fun x hx => ?_⟩, k4⟩, rfl⟩
    · rcases Nat.lt_or_ge i p with q | q
      · rw [k2 p (by omega) h2, updR_ne (by decide)]
      · rw [show p = i by omega, k3 _ (by omega), updR_eq, pk_us]
    · rw [k3 x (by omega), updR_eq, pk_un (by omega)]
termination_by c - i
theorem c_copy (hb : b + 71 ≤ h.length) (F : Nat → Nat → Int32) (g : Nat → Nat) (l c : Nat) (hl : l < 70) (hc : F 3 l = nI c) (hc8 : c ≤ 8) (hT : g 2 < 20) : ∃ F' g', (zcop (updR F 7 (upd (F 7) (g 2) (nI c))) F' l (g 2) 0 c ∧ g' = updG g 2 (g 2 + 1)) ∧ zcalls zTB 80 [.ref (b + 16), .ref (b + 1), .int (nI l)] (nput b F g h) (none, nput b F' g' h) := by
  refine zQn_out (zev_calls (Nat.le_of_ble_eq_true rfl) ?_)
  show zev 80 0 [some (.ref (b + 16)), some (.ref (b + 1)), some (.int (nI l)), none, none] [] _ _
  refine zev_of (fun _ kk => zr_aload_n (pc' := 1) zi_80_0 rfl rfl kk) ?_
  refine zev_of (fun _ kk => zr_get (pc' := 4) zi_80_1 (nput_at hb (k := 1) rfl) rfl rfl kk) ?_
  refine zev_of (fun _ kk => zr_iload_n (pc' := 5) zi_80_4 rfl rfl kk) ?_
  refine zev_of (fun _ kk => zr_atN (pc' := 8) (by omega) zi_80_5 hb rfl rfl (by decide) rfl rfl kk) ?_
  rw [hc]
  refine zev_of (fun _ kk => zr_istore_n (pc' := 9) zi_80_8 (Nat.le_of_ble_eq_true rfl) rfl rfl kk) ?_
  dsimp only [zst1, zst2, zkill, List.set, List.getElem?_cons_succ, List.getElem?_cons_zero]
  refine zev_of (fun _ kk => zr_aload_n (pc' := 10) zi_80_9 rfl rfl kk) ?_
  refine zev_of (fun _ kk => zr_get (pc' := 13) zi_80_10 (nput_at hb (k := 16) rfl) rfl rfl kk) ?_
  refine zev_of (fun _ kk => zr_aload_n (pc' := 14) zi_80_13 rfl rfl kk) ?_
  refine zev_of (fun _ kk => zr_get (pc' := 17) zi_80_14 (nput_at hb (k := 16) rfl) rfl rfl kk) ?_
  refine zev_of (fun _ kk => zr_iload_n (pc' := 18) zi_80_17 rfl rfl kk) ?_
  refine zev_of (fun _ kk => zr_rputN (pc' := 21) (rr := 7) (by omega) zi_80_18 hb rfl rfl (fun _ => rfl) (by decide) (by decide) rfl rfl kk) ?_
  refine zev_of (fun _ kk => zr_iconst (v := (nI 0)) (pc' := 22) zi_80_21 rfl rfl kk) ?_
  refine zev_of (fun _ kk => zr_istore (pc' := 24) zi_80_22 (Nat.le_of_ble_eq_true rfl) rfl rfl kk) ?_
  dsimp only [zst1, zst2, zkill, List.set, List.getElem?_cons_succ, List.getElem?_cons_zero]
  exact l_copy hb _ g l c hl hc8 hT 0 (by omega)
theorem l_widen (hb : b + 71 ≤ h.length) (F : Nat → Nat → Int32) (g : Nat → Nat) (l t a : Nat) (hl : l < 70) (ht : t < 20) (hs : F 7 t = nI a) (ha : a ≤ 8) (i : Nat) (hi : i ≤ a) : zev 81 3 [some (.ref (b + 16)), some (.ref (b + 1)), some (.int (nI l)), some (.int (nI t)), some (.int (nI i))] [] (nput b F g h) (zQn b h fun F' g' => zwid F F' l t i a ∧ g' = g) := by
  refine zev_of (fun _ kk => zr_iload (pc' := 5) zi_81_3 rfl rfl kk) ?_
  refine zev_of (fun _ kk => zr_aload_n (pc' := 6) zi_81_5 rfl rfl kk) ?_
  refine zev_of (fun _ kk => zr_get (pc' := 9) zi_81_6 (nput_at hb (k := 16) rfl) rfl rfl kk) ?_
  refine zev_of (fun _ kk => zr_iload_n (pc' := 10) zi_81_9 rfl rfl kk) ?_
  refine zev_of (fun _ kk => zr_atN (pc' := 13) (by omega) zi_81_10 hb rfl rfl (by decide) rfl rfl kk) ?_
  rw [hs]
  refine zv_icmp (pc' := 16) zi_81_13 rfl (fun h13 => ?_) (fun h13 => ?_)
  · replace h13 := zc_ge_t (by omega) (by omega) h13
    refine zev_ret (zr_return zi_81_54 rfl) ?_
    refine ⟨_, _, ⟨⟨fun _ _ => rfl, fun p h1 h2 => absurd h1 (by omega), fun _ _ => rfl⟩, rfl⟩, rfl⟩
  · replace h13 := zc_ge_f (by omega) (by omega) h13
    refine zev_of (fun _ kk => zr_aload_n (pc' := 17) zi_81_16 rfl rfl kk) ?_
    refine zev_of (fun _ kk => zr_iload_n (pc' := 18) zi_81_17 rfl rfl kk) ?_
    refine zev_of (fun _ kk => zr_iload (pc' := 20) zi_81_18 rfl rfl kk) ?_
    refine zev_of (fun _ kk => zr_v2 (pc' := 23) zi_81_20 (nput_at hb (k := 16) rfl) rfl (c_slotIn hb _ _ (by omega)) rfl kk) ?_
    refine zev_of (fun _ kk => zr_aload_n (pc' := 24) zi_81_23 rfl rfl kk) ?_
    refine zev_of (fun _ kk => zr_iload_n (pc' := 25) zi_81_24 rfl rfl kk) ?_
    refine zev_of (fun _ kk => zr_iload (pc' := 27) zi_81_25 rfl rfl kk) ?_
    refine zev_of (fun _ kk => zr_v2 (pc' := 30) zi_81_27 (nput_at hb (k := 1) rfl) rfl (c_wordIn hb _ _ (by omega)) rfl kk) ?_
    refine zv_icmp (pc' := 33) zi_81_30 rfl (fun h30 => ?_) (fun h30 => ?_)
    · replace h30 := zc_eq_t h30
      refine zev_of (fun _ kk => zr_iinc (pc' := 51) zi_81_48 rfl (by first | exact n_inc _ | rfl) rfl rfl kk) ?_
      dsimp only [zst1, zst2, zkill, List.set, List.getElem?_cons_succ, List.getElem?_cons_zero]
      refine zev_of (fun _ kk => zr_goto zi_81_51 kk) ?_
      refine zev_mono (l_widen hb F g l t a hl ht hs ha (i + 1) (by omega)) ?_
      rintro q ⟨F', g', ⟨⟨k1, k2, k3⟩, k4⟩, rfl⟩
      refine ⟨F', g', ⟨⟨k1, fun p h1 h2 => ?_, fun x hx => k3 x (by omega)⟩, k4⟩, rfl⟩
      rcases Nat.lt_or_ge i p with q | q
      · exact k2 p (by omega) h2
      · rw [show p = i by omega, k3 _ (by omega), if_pos h30]
    · replace h30 := zc_eq_f h30
      refine zev_of (fun _ kk => zr_aload_n (pc' := 34) zi_81_33 rfl rfl kk) ?_
      refine zev_of (fun _ kk => zr_get (pc' := 37) zi_81_34 (nput_at hb (k := 16) rfl) rfl rfl kk) ?_
      refine zev_of (fun _ kk => zr_iload_n (pc' := 38) zi_81_37 rfl rfl kk) ?_
      refine zev_of (fun _ kk => zr_bipush (v := (nI 8)) (pc' := 40) zi_81_38 rfl rfl kk) ?_
      refine zev_of (fun _ kk => zr_imul (pc' := 41) zi_81_40 (by first | exact pk_mul _ _ | rfl) rfl kk) ?_
      refine zev_of (fun _ kk => zr_iload (pc' := 43) zi_81_41 rfl rfl kk) ?_
      refine zev_of (fun _ kk => zr_iadd (pc' := 44) zi_81_43 (by first | exact nI_add _ _ | rfl) rfl kk) ?_
      refine zev_of (fun _ kk => zr_iconst (v := (-1)) (pc' := 45) zi_81_44 rfl rfl kk) ?_
      refine zev_of (fun _ kk => zr_rputN (pc' := 48) (rr := 8) (by omega) zi_81_45 hb rfl rfl (fun _ => rfl) (by decide) (by decide) rfl rfl kk) ?_
      refine zev_of (fun _ kk => zr_iinc (pc' := 51) zi_81_48 rfl (by first | exact n_inc _ | rfl) rfl rfl kk) ?_
      dsimp only [zst1, zst2, zkill, List.set, List.getElem?_cons_succ, List.getElem?_cons_zero]
      refine zev_of (fun _ kk => zr_goto zi_81_51 kk) ?_
      refine zev_mono (l_widen hb (updR F 8 (upd (F 8) (t * 8 + i) (-1))) g l t a hl ht hs ha (i + 1) (by omega)) ?_
      rintro q ⟨F', g', ⟨⟨k1, k2, k3⟩, k4⟩, rfl⟩
      refine ⟨F', g', ⟨⟨fun r hr => (k1 r hr).trans (updR_ne hr), fun p h1 h2 => ?_, fun x hx => ?_⟩, k4⟩, rfl⟩
      · rcases Nat.lt_or_ge i p with q | q
        · rw [k2 p (by omega) h2, updR_eq, pk_un (by omega)]
          rfl
        · rw [show p = i by omega, k3 _ (by omega), updR_eq, pk_us, if_neg h30]
      · rw [k3 x (by omega), updR_eq, pk_un (by omega)]
termination_by a - i
theorem c_widen (hb : b + 71 ≤ h.length) (F : Nat → Nat → Int32) (g : Nat → Nat) (l t a : Nat) (hl : l < 70) (ht : t < 20) (hs : F 7 t = nI a) (ha : a ≤ 8) : ∃ F' g', (zwid F F' l t 0 a ∧ g' = g) ∧ zcalls zTB 81 [.ref (b + 16), .ref (b + 1), .int (nI l), .int (nI t)] (nput b F g h) (none, nput b F' g' h) := by
  refine zQn_out (zev_calls (Nat.le_of_ble_eq_true rfl) ?_)
  show zev 81 0 [some (.ref (b + 16)), some (.ref (b + 1)), some (.int (nI l)), some (.int (nI t)), none] [] _ _
  refine zev_of (fun _ kk => zr_iconst (v := (nI 0)) (pc' := 1) zi_81_0 rfl rfl kk) ?_
  refine zev_of (fun _ kk => zr_istore (pc' := 3) zi_81_1 (Nat.le_of_ble_eq_true rfl) rfl rfl kk) ?_
  dsimp only [zst1, zst2, zkill, List.set, List.getElem?_cons_succ, List.getElem?_cons_zero]
  exact l_widen hb _ g l t a hl ht hs ha 0 (by omega)
/-- what taking a line of c words does -/
def ztak (F : Nat → Nat → Int32) (g : Nat → Nat) (l c s : Nat) (r : Int32) (F' : Nat → Nat → Int32) (g' : Nat → Nat) : Prop := zcho F (g 2) l c s r ∧
  ((r = -1 ∧ F' = F ∧ g' = g) ∨
   (g 2 < 20 ∧ r = nI (g 2) ∧ zcop (updR F 7 (upd (F 7) (g 2) (nI c))) F' l (g 2) 0 c ∧ g' = updG g 2 (g 2 + 1)) ∨
   ∃ t a, t < g 2 ∧ r = nI t ∧ F 7 t = nI a ∧ a ≤ 8 ∧ zwid F F' l t 0 a ∧ g' = g)
theorem c_take (hb : b + 71 ≤ h.length) (F : Nat → Nat → Int32) (g : Nat → Nat) (l c s : Nat) (hl : l < 70) (hc : F 3 l = nI c) (hc8 : c ≤ 8) (hs1 : s ≤ 100) (hT : g 2 ≤ 20) (hsz : ∀ t, t < g 2 → ∃ a, a ≤ 8 ∧ F 7 t = nI a) : ∃ r F' g', ztak F g l c s r F' g' ∧ zcalls zTB 79 [.ref (b + 16), .ref (b + 1), .int (nI l), .int (nI s)] (nput b F g h) (some (.int r), nput b F' g' h) := by
  obtain ⟨r, hr, hcall⟩ := c_choose hb (F := F) (g := g) l c s hl hc hc8 hs1 hT hsz
  refine zQm_out (zev_calls (Nat.le_of_ble_eq_true rfl) ?_)
  show zev 79 0 [some (.ref (b + 16)), some (.ref (b + 1)), some (.int (nI l)), some (.int (nI s)), none] [] _ _
  refine zev_of (fun _ kk => zr_aload_n (pc' := 1) zi_79_0 rfl rfl kk) ?_
  refine zev_of (fun _ kk => zr_aload_n (pc' := 2) zi_79_1 rfl rfl kk) ?_
  refine zev_of (fun _ kk => zr_iload_n (pc' := 3) zi_79_2 rfl rfl kk) ?_
  refine zev_of (fun _ kk => zr_iload_n (pc' := 4) zi_79_3 rfl rfl kk) ?_
  refine zev_of (fun _ kk => zr_v3 (pc' := 7) zi_79_4 (nput_at hb (k := 16) rfl) rfl hcall rfl kk) ?_
  refine zev_of (fun _ kk => zr_istore (pc' := 9) zi_79_7 (Nat.le_of_ble_eq_true rfl) rfl rfl kk) ?_
  dsimp only [zst1, zst2, zkill, List.set, List.getElem?_cons_succ, List.getElem?_cons_zero]
  refine zev_of (fun _ kk => zr_iload (pc' := 11) zi_79_9 rfl rfl kk) ?_
  refine zev_of (fun _ kk => zr_iconst (v := (-1)) (pc' := 12) zi_79_11 rfl rfl kk) ?_
  refine zv_icmp (pc' := 15) zi_79_12 rfl (fun h12 => ?_) (fun h12 => ?_)
  · replace h12 := zc_ne_t h12
    refine zev_of (fun _ kk => zr_iload (pc' := 19) zi_79_17 rfl rfl kk) ?_
    refine zev_of (fun _ kk => zr_aload_n (pc' := 20) zi_79_19 rfl rfl kk) ?_
    refine zev_of (fun _ kk => zr_get (pc' := 23) zi_79_20 (nput_at hb (k := 16) rfl) rfl rfl kk) ?_
    refine zv_icmp (pc' := 26) zi_79_23 rfl (fun h23 => ?_) (fun h23 => ?_)
    · replace h23 := zc_ne_t h23
      obtain ⟨t, ht, e⟩ : ∃ t, t < g 2 ∧ r = nI t := by
        rcases hr with ⟨t, ht, e, _⟩ | ⟨_, e⟩
        · exact ⟨t, ht, e⟩
        · split at e
          · exact absurd e h23
          · exact absurd e h12
      subst e
      obtain ⟨a, ha, hs⟩ := hsz t ht
      obtain ⟨F1, g1, ⟨k1, k2⟩, hcp⟩ := c_widen hb F g l t a hl (by omega) hs ha
      refine zev_of (fun _ kk => zr_aload_n (pc' := 36) zi_79_35 rfl rfl kk) ?_
      refine zev_of (fun _ kk => zr_aload_n (pc' := 37) zi_79_36 rfl rfl kk) ?_
      refine zev_of (fun _ kk => zr_iload_n (pc' := 38) zi_79_37 rfl rfl kk) ?_
      refine zev_of (fun _ kk => zr_iload (pc' := 40) zi_79_38 rfl rfl kk) ?_
      refine zev_of (fun _ kk => zr_n3 (pc' := 43) zi_79_40 (nput_at hb (k := 16) rfl) rfl hcp rfl kk) ?_
      refine zev_of (fun _ kk => zr_iload (pc' := 45) zi_79_43 rfl rfl kk) ?_
      refine zev_ret (zr_ireturn zi_79_45 rfl) ?_
      exact ⟨_, _, _, ⟨hr, .inr (.inr ⟨t, a, ht, rfl, hs, ha, k1, k2⟩)⟩, rfl⟩
    · replace h23 := zc_ne_f h23
      have hT20 : g 2 < 20 := by
        rcases hr with ⟨t, ht, e, _⟩ | ⟨_, e⟩
        · have := (nI_eq (by omega) (by omega)).mp (e.symm.trans h23)
          omega
        · refine Nat.lt_of_not_le fun q => ?_
          rw [if_neg (by omega)] at e
          exact h12 e
      obtain ⟨F1, g1, ⟨k1, k2⟩, hcp⟩ := c_copy hb F g l c hl hc hc8 hT20
      refine zev_of (fun _ kk => zr_aload_n (pc' := 27) zi_79_26 rfl rfl kk) ?_
      refine zev_of (fun _ kk => zr_aload_n (pc' := 28) zi_79_27 rfl rfl kk) ?_
      refine zev_of (fun _ kk => zr_iload_n (pc' := 29) zi_79_28 rfl rfl kk) ?_
      refine zev_of (fun _ kk => zr_n2 (pc' := 32) zi_79_29 (nput_at hb (k := 16) rfl) rfl hcp rfl kk) ?_
      refine zev_of (fun _ kk => zr_goto zi_79_32 kk) ?_
      refine zev_of (fun _ kk => zr_iload (pc' := 45) zi_79_43 rfl rfl kk) ?_
      refine zev_ret (zr_ireturn zi_79_45 rfl) ?_
      exact ⟨_, _, _, ⟨hr, .inr (.inl ⟨hT20, h23, k1, k2⟩)⟩, rfl⟩
  · replace h12 := zc_ne_f h12
    refine zev_of (fun _ kk => zr_iconst (v := (-1)) (pc' := 16) zi_79_15 rfl rfl kk) ?_
    refine zev_ret (zr_ireturn zi_79_16 rfl) ?_
    subst h12
    exact ⟨_, _, _, ⟨hr, .inl ⟨rfl, rfl, rfl⟩⟩, rfl⟩
/-- the key of a line -/
def zkey (F : Nat → Nat → Int32) (i : Nat) (k : Int32) : Prop := (F 5 i = -1 ∧ k = -1) ∨ ∃ t a, t < 20 ∧ F 5 i = nI t ∧ F 7 t = nI a ∧ a ≤ 8 ∧ ((zhol F t a = 0 ∧ k = -1) ∨ ∃ p, p < a ∧ F 8 (t * 8 + p) = -1 ∧ zhol F t p = 0 ∧ k = F 4 (i * 8 + p))
theorem zkey_of {F F' : Nat → Nat → Int32} {i : Nat} {k : Int32} (h1 : F' 5 = F 5) (h2 : F' 7 = F 7) (h3 : F' 8 = F 8) (h4 : F' 4 = F 4) (q : zkey F' i k) : zkey F i k := by
  simp only [zkey, zhol, h1, h2, h3, h4] at q
  exact q
theorem l_findKeys (hb : b + 71 ≤ h.length) (F : Nat → Nat → Int32) (g : Nat → Nat) (hn : g 0 ≤ 70) (hof : ∀ i, i < g 0 → F 5 i = -1 ∨ ∃ t a, t < 20 ∧ F 5 i = nI t ∧ F 7 t = nI a ∧ a ≤ 8) (i : Nat) (hi : i ≤ g 0) (X : Option Value) : zev 50 2 [some (.ref (b + 1)), some (.ref (b + 16)), some (.int (nI i)), X] [] (nput b F g h) (zQn b h fun F' g' => ((∀ r, r ≠ 6 → F' r = F r) ∧ (∀ j, i ≤ j → j < g 0 → zkey F j (F' 6 j)) ∧ ∀ j, j < i → F' 6 j = F 6 j) ∧ g' = g) := by
  refine zev_of (fun _ kk => zr_iload_n (pc' := 3) zi_50_2 rfl rfl kk) ?_
  refine zev_of (fun _ kk => zr_aload_n (pc' := 4) zi_50_3 rfl rfl kk) ?_
  refine zev_of (fun _ kk => zr_get (pc' := 7) zi_50_4 (nput_at hb (k := 1) rfl) rfl rfl kk) ?_
  refine zv_icmp (pc' := 10) zi_50_7 rfl (fun h7 => ?_) (fun h7 => ?_)
  · replace h7 := zc_ge_t (by omega) (by omega) h7
    refine zev_ret (zr_return zi_50_53 rfl) ?_
    refine ⟨_, _, ⟨⟨fun _ _ => rfl, fun p h1 h2 => absurd h1 (by omega), fun _ _ => rfl⟩, rfl⟩, rfl⟩
  · replace h7 := zc_ge_f (by omega) (by omega) h7
    obtain ⟨pl, hpl, hk⟩ : ∃ pl, ((pl = -1 ∧ zkey F i (-1)) ∨ ∃ p, p < 8 ∧ pl = nI p ∧ zkey F i (F 4 (i * 8 + p))) ∧ zcalls zTB 38 [.ref (b + 16), .int (F 5 i), .int 0] (nput b F g h) (some (.int pl), nput b F g h) := by
      rcases hof i (by omega) with e | ⟨t, a, ht, e, hs, ha⟩
      · rw [e]
        exact ⟨_, .inl ⟨rfl, .inl ⟨e, rfl⟩⟩, c_placeOfNone hb 0⟩
      · rw [e]
        obtain ⟨r, hr, hc⟩ := c_placeOfHole hb (F := F) (g := g) t a 0 ht hs ha (by omega)
        refine ⟨r, ?_, hc⟩
        rcases hr with ⟨e1, e2⟩ | ⟨p, h1, h2, h3, h4⟩
        · exact .inl ⟨e1, .inr ⟨t, a, ht, e, hs, ha, .inl ⟨by omega, rfl⟩⟩⟩
        · exact .inr ⟨p, by omega, h2, .inr ⟨t, a, ht, e, hs, ha, .inr ⟨p, h1, h3, h4, rfl⟩⟩⟩
    have hz : ∀ k, zkey F i k → zev 50 2 [some (.ref (b + 1)), some (.ref (b + 16)), some (.int (nI (i + 1))), some (.int pl)] [] (nput b (updR F 6 (upd (F 6) i k)) g h) (zQn b h fun F' g' => ((∀ r, r ≠ 6 → F' r = F r) ∧ (∀ j, i ≤ j → j < g 0 → zkey F j (F' 6 j)) ∧ ∀ j, j < i → F' 6 j = F 6 j) ∧ g' = g) := by
      intro k hkk
      refine zev_mono (l_findKeys hb (updR F 6 (upd (F 6) i k)) g hn hof (i + 1) (by omega) _) ?_
      rintro q ⟨F', g', ⟨⟨k1, k2, k3⟩, k4⟩, rfl⟩
      refine ⟨F', g', ⟨⟨fun r hr => (k1 r hr).trans (updR_ne hr), fun p h1 h2 => ?_, fun x hx => ?_⟩, k4⟩, rfl⟩
      · rcases Nat.lt_or_ge i p with q | q
        · exact zkey_of rfl rfl rfl rfl (k2 p (by omega) h2)
        · rw [show p = i by omega, k3 _ (by omega), updR_eq, pk_us]
          exact hkk
      · rw [k3 x (by omega), updR_eq, pk_un (by omega)]
    refine zev_of (fun _ kk => zr_aload_n (pc' := 11) zi_50_10 rfl rfl kk) ?_
    refine zev_of (fun _ kk => zr_aload_n (pc' := 12) zi_50_11 rfl rfl kk) ?_
    refine zev_of (fun _ kk => zr_get (pc' := 15) zi_50_12 (nput_at hb (k := 1) rfl) rfl rfl kk) ?_
    refine zev_of (fun _ kk => zr_iload_n (pc' := 16) zi_50_15 rfl rfl kk) ?_
    refine zev_of (fun _ kk => zr_atN (pc' := 19) (by omega) zi_50_16 hb rfl rfl (by decide) rfl rfl kk) ?_
    refine zev_of (fun _ kk => zr_iconst (v := (nI 0)) (pc' := 20) zi_50_19 rfl rfl kk) ?_
    refine zev_of (fun _ kk => zr_v2 (pc' := 23) zi_50_20 (nput_at hb (k := 16) rfl) rfl hk rfl kk) ?_
    refine zev_of (fun _ kk => zr_istore_n (pc' := 24) zi_50_23 (Nat.le_of_ble_eq_true rfl) rfl rfl kk) ?_
    dsimp only [zst1, zst2, zkill, List.set, List.getElem?_cons_succ, List.getElem?_cons_zero]
    refine zev_of (fun _ kk => zr_aload_n (pc' := 25) zi_50_24 rfl rfl kk) ?_
    refine zev_of (fun _ kk => zr_get (pc' := 28) zi_50_25 (nput_at hb (k := 1) rfl) rfl rfl kk) ?_
    refine zev_of (fun _ kk => zr_iload_n (pc' := 29) zi_50_28 rfl rfl kk) ?_
    refine zev_of (fun _ kk => zr_iload_n (pc' := 30) zi_50_29 rfl rfl kk) ?_
    refine zev_of (fun _ kk => zr_iconst (v := (-1)) (pc' := 31) zi_50_30 rfl rfl kk) ?_
    refine zv_icmp (pc' := 34) zi_50_31 rfl (fun h31 => ?_) (fun h31 => ?_)
    · replace h31 := zc_ne_t h31
      obtain ⟨p, hp8, rfl, hkk⟩ : ∃ p, p < 8 ∧ pl = nI p ∧ zkey F i (F 4 (i * 8 + p)) := by
        rcases hpl with ⟨e, _⟩ | q
        · exact absurd e h31
        · exact q
      refine zev_of (fun _ kk => zr_aload_n (pc' := 39) zi_50_38 rfl rfl kk) ?_
      refine zev_of (fun _ kk => zr_iload_n (pc' := 40) zi_50_39 rfl rfl kk) ?_
      refine zev_of (fun _ kk => zr_iload_n (pc' := 41) zi_50_40 rfl rfl kk) ?_
      refine zev_of (fun _ kk => zr_v2 (pc' := 44) zi_50_41 (nput_at hb (k := 1) rfl) rfl (c_wordIn hb _ _ (by omega)) rfl kk) ?_
      refine zev_of (fun _ kk => zr_rputN (pc' := 47) (rr := 6) (by omega) zi_50_44 hb rfl rfl (fun _ => rfl) (by decide) (by decide) rfl rfl kk) ?_
      refine zev_of (fun _ kk => zr_iinc (pc' := 50) zi_50_47 rfl (by first | exact n_inc _ | rfl) rfl rfl kk) ?_
      dsimp only [zst1, zst2, zkill, List.set, List.getElem?_cons_succ, List.getElem?_cons_zero]
      refine zev_of (fun _ kk => zr_goto zi_50_50 kk) ?_
      exact hz _ hkk
    · replace h31 := zc_ne_f h31
      refine zev_of (fun _ kk => zr_iconst (v := (-1)) (pc' := 35) zi_50_34 rfl rfl kk) ?_
      refine zev_of (fun _ kk => zr_goto zi_50_35 kk) ?_
      refine zev_of (fun _ kk => zr_rputN (pc' := 47) (rr := 6) (by omega) zi_50_44 hb rfl rfl (fun _ => rfl) (by decide) (by decide) rfl rfl kk) ?_
      refine zev_of (fun _ kk => zr_iinc (pc' := 50) zi_50_47 rfl (by first | exact n_inc _ | rfl) rfl rfl kk) ?_
      dsimp only [zst1, zst2, zkill, List.set, List.getElem?_cons_succ, List.getElem?_cons_zero]
      refine zev_of (fun _ kk => zr_goto zi_50_50 kk) ?_
      rcases hpl with ⟨e, q⟩ | ⟨p, hp8, e, _⟩
      · rw [h31]
        rw [h31] at hz
        exact hz _ q
      · exact absurd (e.symm.trans h31) (nI_neg (by omega))
termination_by g 0 - i
theorem c_findKeys (hb : b + 71 ≤ h.length) (F : Nat → Nat → Int32) (g : Nat → Nat) (hn : g 0 ≤ 70) (hof : ∀ i, i < g 0 → F 5 i = -1 ∨ ∃ t a, t < 20 ∧ F 5 i = nI t ∧ F 7 t = nI a ∧ a ≤ 8) : ∃ F' g', (((∀ r, r ≠ 6 → F' r = F r) ∧ ∀ j, j < g 0 → zkey F j (F' 6 j)) ∧ g' = g) ∧ zcalls zTB 50 [.ref (b + 1), .ref (b + 16)] (nput b F g h) (none, nput b F' g' h) := by
  refine zQn_out (zev_calls (Nat.le_of_ble_eq_true rfl) ?_)
  show zev 50 0 [some (.ref (b + 1)), some (.ref (b + 16)), none, none] [] _ _
  refine zev_of (fun _ kk => zr_iconst (v := (nI 0)) (pc' := 1) zi_50_0 rfl rfl kk) ?_
  refine zev_of (fun _ kk => zr_istore_n (pc' := 2) zi_50_1 (Nat.le_of_ble_eq_true rfl) rfl rfl kk) ?_
  dsimp only [zst1, zst2, zkill, List.set, List.getElem?_cons_succ, List.getElem?_cons_zero]
  refine zev_mono (l_findKeys hb F g hn hof 0 (by omega) none) ?_
  rintro q ⟨F', g', ⟨⟨k1, k2, k3⟩, k4⟩, rfl⟩
  exact ⟨F', g', ⟨⟨k1, fun j hj => k2 j (Nat.zero_le _) hj⟩, k4⟩, rfl⟩
/-- a line is added -/
def zapp (F F' : Nat → Nat → Int32) (n : Nat) (x y z : Int32) : Prop := F' 0 = upd (F 0) n x ∧ F' 1 = upd (F 1) n y ∧ F' 2 = upd (F 2) n z ∧ F' 3 = upd (F 3) n (nI 0) ∧ F' 5 = upd (F 5) n (-1) ∧ ∀ r, r ≠ 0 → r ≠ 1 → r ≠ 2 → r ≠ 3 → r ≠ 5 → F' r = F r
theorem c_append (hb : b + 71 ≤ h.length) (F : Nat → Nat → Int32) (g : Nat → Nat) (hn : g 0 < 70) (x y z : Int32) : ∃ r F' g', (r = nI (g 0) ∧ zapp F F' (g 0) x y z ∧ g' = updG g 0 (g 0 + 1)) ∧ zcalls zTB 48 [.ref (b + 1), .int x, .int y, .int z] (nput b F g h) (some (.int r), nput b F' g' h) := by
  refine zQm_out (zev_calls (Nat.le_of_ble_eq_true rfl) ?_)
  show zev 48 0 [some (.ref (b + 1)), some (.int x), some (.int y), some (.int z), none] [] _ _
  refine zev_of (fun _ kk => zr_aload_n (pc' := 1) zi_48_0 rfl rfl kk) ?_
  refine zev_of (fun _ kk => zr_get (pc' := 4) zi_48_1 (nput_at hb (k := 1) rfl) rfl rfl kk) ?_
  refine zev_of (fun _ kk => zr_istore (pc' := 6) zi_48_4 (Nat.le_of_ble_eq_true rfl) rfl rfl kk) ?_
  dsimp only [zst1, zst2, zkill, List.set, List.getElem?_cons_succ, List.getElem?_cons_zero]
  refine zev_of (fun _ kk => zr_aload_n (pc' := 7) zi_48_6 rfl rfl kk) ?_
  refine zev_of (fun _ kk => zr_get (pc' := 10) zi_48_7 (nput_at hb (k := 1) rfl) rfl rfl kk) ?_
  refine zev_of (fun _ kk => zr_iload (pc' := 12) zi_48_10 rfl rfl kk) ?_
  refine zev_of (fun _ kk => zr_iload_n (pc' := 13) zi_48_12 rfl rfl kk) ?_
  refine zev_of (fun _ kk => zr_rputN (pc' := 16) (rr := 0) (by omega) zi_48_13 hb rfl rfl (fun _ => rfl) (by decide) (by decide) rfl rfl kk) ?_
  refine zev_of (fun _ kk => zr_aload_n (pc' := 17) zi_48_16 rfl rfl kk) ?_
  refine zev_of (fun _ kk => zr_get (pc' := 20) zi_48_17 (nput_at hb (k := 1) rfl) rfl rfl kk) ?_
  refine zev_of (fun _ kk => zr_iload (pc' := 22) zi_48_20 rfl rfl kk) ?_
  refine zev_of (fun _ kk => zr_iload_n (pc' := 23) zi_48_22 rfl rfl kk) ?_
  refine zev_of (fun _ kk => zr_rputN (pc' := 26) (rr := 1) (by omega) zi_48_23 hb rfl rfl (fun _ => rfl) (by decide) (by decide) rfl rfl kk) ?_
  refine zev_of (fun _ kk => zr_aload_n (pc' := 27) zi_48_26 rfl rfl kk) ?_
  refine zev_of (fun _ kk => zr_get (pc' := 30) zi_48_27 (nput_at hb (k := 1) rfl) rfl rfl kk) ?_
  refine zev_of (fun _ kk => zr_iload (pc' := 32) zi_48_30 rfl rfl kk) ?_
  refine zev_of (fun _ kk => zr_iload_n (pc' := 33) zi_48_32 rfl rfl kk) ?_
  refine zev_of (fun _ kk => zr_rputN (pc' := 36) (rr := 2) (by omega) zi_48_33 hb rfl rfl (fun _ => rfl) (by decide) (by decide) rfl rfl kk) ?_
  refine zev_of (fun _ kk => zr_aload_n (pc' := 37) zi_48_36 rfl rfl kk) ?_
  refine zev_of (fun _ kk => zr_get (pc' := 40) zi_48_37 (nput_at hb (k := 1) rfl) rfl rfl kk) ?_
  refine zev_of (fun _ kk => zr_iload (pc' := 42) zi_48_40 rfl rfl kk) ?_
  refine zev_of (fun _ kk => zr_iconst (v := (nI 0)) (pc' := 43) zi_48_42 rfl rfl kk) ?_
  refine zev_of (fun _ kk => zr_rputN (pc' := 46) (rr := 3) (by omega) zi_48_43 hb rfl rfl (fun _ => rfl) (by decide) (by decide) rfl rfl kk) ?_
  refine zev_of (fun _ kk => zr_aload_n (pc' := 47) zi_48_46 rfl rfl kk) ?_
  refine zev_of (fun _ kk => zr_get (pc' := 50) zi_48_47 (nput_at hb (k := 1) rfl) rfl rfl kk) ?_
  refine zev_of (fun _ kk => zr_iload (pc' := 52) zi_48_50 rfl rfl kk) ?_
  refine zev_of (fun _ kk => zr_iconst (v := (-1)) (pc' := 53) zi_48_52 rfl rfl kk) ?_
  refine zev_of (fun _ kk => zr_rputN (pc' := 56) (rr := 5) (by omega) zi_48_53 hb rfl rfl (fun _ => rfl) (by decide) (by decide) rfl rfl kk) ?_
  refine zev_of (fun _ kk => zr_aload_n (pc' := 57) zi_48_56 rfl rfl kk) ?_
  refine zev_of (fun _ kk => zr_iload (pc' := 59) zi_48_57 rfl rfl kk) ?_
  refine zev_of (fun _ kk => zr_iconst (v := (nI 1)) (pc' := 60) zi_48_59 rfl rfl kk) ?_
  refine zev_of (fun _ kk => zr_iadd (pc' := 61) zi_48_60 (by first | exact nI_add _ _ | rfl) rfl kk) ?_
  refine zev_of (fun _ kk => zr_put (pc' := 64) zi_48_61 (by omega) (nput_at hb (k := 1) rfl) (Nat.le_of_ble_eq_true rfl) rfl rfl (nput_set (g' := updG _ 0 (_)) hb (by decide) rfl) kk) ?_
  refine zev_of (fun _ kk => zr_iload (pc' := 66) zi_48_64 rfl rfl kk) ?_
  refine zev_ret (zr_ireturn zi_48_66 rfl) ?_
  refine ⟨_, _, _, ⟨rfl, ⟨rfl, rfl, rfl, rfl, rfl, fun r h1 h2 h3 h4 h5 => ?_⟩, rfl⟩, rfl⟩
  rw [updR_ne h5, updR_ne h4, updR_ne h3, updR_ne h2, updR_ne h1]
theorem c_appendWord (hb : b + 71 ≤ h.length) (F : Nat → Nat → Int32) (g : Nat → Nat) (l c : Nat) (w : Int32) (hl : l < 70) (hc : F 3 l = nI c) (hc8 : c < 8) : zcalls zTB 49 [.ref (b + 1), .int (nI l), .int w] (nput b F g h) (some (.int (nI (c + 1))), nput b (updR (updR F 4 (upd (F 4) (l * 8 + c) w)) 3 (upd (F 3) l (nI (c + 1)))) g h) := by
  refine zcalls_of (Nat.le_of_ble_eq_true rfl) ?_
  show zruns zTB 49 0 [some (.ref (b + 1)), some (.int (nI l)), some (.int w), none] [] _ _
  refine zr_aload_n (pc' := 1) zi_49_0 rfl rfl ?_
  refine zr_get (pc' := 4) zi_49_1 (nput_at hb (k := 1) rfl) rfl rfl ?_
  refine zr_iload_n (pc' := 5) zi_49_4 rfl rfl ?_
  refine zr_atN (pc' := 8) (by omega) zi_49_5 hb rfl rfl (by decide) rfl rfl ?_
  rw [hc]
  refine zr_istore_n (pc' := 9) zi_49_8 (Nat.le_of_ble_eq_true rfl) rfl rfl ?_
  dsimp only [zst1, zst2, zkill, List.set, List.getElem?_cons_succ, List.getElem?_cons_zero]
  refine zr_aload_n (pc' := 10) zi_49_9 rfl rfl ?_
  refine zr_get (pc' := 13) zi_49_10 (nput_at hb (k := 1) rfl) rfl rfl ?_
  refine zr_iload_n (pc' := 14) zi_49_13 rfl rfl ?_
  refine zr_bipush (v := (nI 8)) (pc' := 16) zi_49_14 rfl rfl ?_
  refine zr_imul (pc' := 17) zi_49_16 (by first | exact pk_mul _ _ | rfl) rfl ?_
  refine zr_iload_n (pc' := 18) zi_49_17 rfl rfl ?_
  refine zr_iadd (pc' := 19) zi_49_18 (by first | exact nI_add _ _ | rfl) rfl ?_
  refine zr_iload_n (pc' := 20) zi_49_19 rfl rfl ?_
  refine zr_rputN (pc' := 23) (rr := 4) (by omega) zi_49_20 hb rfl rfl (fun _ => rfl) (by decide) (by decide) rfl rfl ?_
  refine zr_aload_n (pc' := 24) zi_49_23 rfl rfl ?_
  refine zr_get (pc' := 27) zi_49_24 (nput_at hb (k := 1) rfl) rfl rfl ?_
  refine zr_iload_n (pc' := 28) zi_49_27 rfl rfl ?_
  refine zr_iload_n (pc' := 29) zi_49_28 rfl rfl ?_
  refine zr_iconst (v := (nI 1)) (pc' := 30) zi_49_29 rfl rfl ?_
  refine zr_iadd (pc' := 31) zi_49_30 (by first | exact nI_add _ _ | rfl) rfl ?_
  refine zr_rputN (pc' := 34) (rr := 3) (by omega) zi_49_31 hb rfl rfl (fun _ => rfl) (by decide) (by decide) rfl rfl ?_
  refine zr_iload_n (pc' := 35) zi_49_34 rfl rfl ?_
  refine zr_iconst (v := (nI 1)) (pc' := 36) zi_49_35 rfl rfl ?_
  refine zr_iadd (pc' := 37) zi_49_36 (by first | exact nI_add _ _ | rfl) rfl ?_
  exact zr_ireturn zi_49_37 rfl
end


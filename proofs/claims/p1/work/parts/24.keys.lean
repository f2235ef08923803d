theorem zi_43_0 : zI 43 0 = some (.aload_n 0, []) := by decide +kernel
theorem zi_43_1 : zI 43 1 = some (.aload_n 1, []) := by decide +kernel
theorem zi_43_2 : zI 43 2 = some (.iload_n 2, []) := by decide +kernel
theorem zi_43_3 : zI 43 3 = some (.iload_n 3, []) := by decide +kernel
theorem zi_43_4 : zI 43 4 = some (.invokevirtual 45, [42, 0, 3, 5, 152, 153, 139, 151, 0, 150]) := by decide +kernel
theorem zi_43_7 : zI 43 7 = some (.istore 4, []) := by decide +kernel
theorem zi_43_9 : zI 43 9 = some (.iload 4, []) := by decide +kernel
theorem zi_43_11 : zI 43 11 = some (.iconst (-1), []) := by decide +kernel
theorem zi_43_12 : zI 43 12 = some (.if_icmp .ne 5, [17]) := by decide +kernel
theorem zi_43_15 : zI 43 15 = some (.iconst (-1), []) := by decide +kernel
theorem zi_43_16 : zI 43 16 = some (.ireturn, []) := by decide +kernel
theorem zi_43_17 : zI 43 17 = some (.iload 4, []) := by decide +kernel
theorem zi_43_19 : zI 43 19 = some (.aload_n 0, []) := by decide +kernel
theorem zi_43_20 : zI 43 20 = some (.getfield 37, [5, 2, 145]) := by decide +kernel
theorem zi_43_23 : zI 43 23 = some (.if_icmp .ne 12, [35]) := by decide +kernel
theorem zi_43_26 : zI 43 26 = some (.aload_n 0, []) := by decide +kernel
theorem zi_43_27 : zI 43 27 = some (.aload_n 1, []) := by decide +kernel
theorem zi_43_28 : zI 43 28 = some (.iload_n 2, []) := by decide +kernel
theorem zi_43_29 : zI 43 29 = some (.invokevirtual 48, [92, 0, 2, 5, 156, 157, 139, 155, 0, 154]) := by decide +kernel
theorem zi_43_32 : zI 43 32 = some (.goto 11, [43]) := by decide +kernel
theorem zi_43_35 : zI 43 35 = some (.aload_n 0, []) := by decide +kernel
theorem zi_43_36 : zI 43 36 = some (.aload_n 1, []) := by decide +kernel
theorem zi_43_37 : zI 43 37 = some (.iload_n 2, []) := by decide +kernel
theorem zi_43_38 : zI 43 38 = some (.iload 4, []) := by decide +kernel
theorem zi_43_40 : zI 43 40 = some (.invokevirtual 52, [93, 0, 3, 5, 160, 161, 139, 159, 0, 158]) := by decide +kernel
theorem zi_43_43 : zI 43 43 = some (.iload 4, []) := by decide +kernel
theorem zi_43_45 : zI 43 45 = some (.ireturn, []) := by decide +kernel
theorem zi_61_0 : zI 61 0 = some (.aload_n 0, []) := by decide +kernel
theorem zi_61_1 : zI 61 1 = some (.getfield 38, [0, 7, 231]) := by decide +kernel
theorem zi_61_4 : zI 61 4 = some (.istore 4, []) := by decide +kernel
theorem zi_61_6 : zI 61 6 = some (.aload_n 0, []) := by decide +kernel
theorem zi_61_7 : zI 61 7 = some (.getfield 14, [0, 0, 115]) := by decide +kernel
theorem zi_61_10 : zI 61 10 = some (.iload 4, []) := by decide +kernel
theorem zi_61_12 : zI 61 12 = some (.iload_n 1, []) := by decide +kernel
theorem zi_61_13 : zI 61 13 = some (.invokevirtual 42, [1, 0, 2, 1, 234, 235, 12, 233, 0, 232]) := by decide +kernel
theorem zi_61_16 : zI 61 16 = some (.aload_n 0, []) := by decide +kernel
theorem zi_61_17 : zI 61 17 = some (.getfield 20, [0, 1, 121]) := by decide +kernel
theorem zi_61_20 : zI 61 20 = some (.iload 4, []) := by decide +kernel
theorem zi_61_22 : zI 61 22 = some (.iload_n 2, []) := by decide +kernel
theorem zi_61_23 : zI 61 23 = some (.invokevirtual 42, [1, 0, 2, 1, 234, 235, 12, 233, 0, 232]) := by decide +kernel
theorem zi_61_26 : zI 61 26 = some (.aload_n 0, []) := by decide +kernel
theorem zi_61_27 : zI 61 27 = some (.getfield 23, [0, 2, 229]) := by decide +kernel
theorem zi_61_30 : zI 61 30 = some (.iload 4, []) := by decide +kernel
theorem zi_61_32 : zI 61 32 = some (.iload_n 3, []) := by decide +kernel
theorem zi_61_33 : zI 61 33 = some (.invokevirtual 42, [1, 0, 2, 1, 234, 235, 12, 233, 0, 232]) := by decide +kernel
theorem zi_61_36 : zI 61 36 = some (.aload_n 0, []) := by decide +kernel
theorem zi_61_37 : zI 61 37 = some (.getfield 26, [0, 3, 230]) := by decide +kernel
theorem zi_61_40 : zI 61 40 = some (.iload 4, []) := by decide +kernel
theorem zi_61_42 : zI 61 42 = some (.iconst 0, []) := by decide +kernel
theorem zi_61_43 : zI 61 43 = some (.invokevirtual 42, [1, 0, 2, 1, 234, 235, 12, 233, 0, 232]) := by decide +kernel
theorem zi_61_46 : zI 61 46 = some (.aload_n 0, []) := by decide +kernel
theorem zi_61_47 : zI 61 47 = some (.getfield 32, [0, 5, 119]) := by decide +kernel
theorem zi_61_50 : zI 61 50 = some (.iload 4, []) := by decide +kernel
theorem zi_61_52 : zI 61 52 = some (.iconst (-1), []) := by decide +kernel
theorem zi_61_53 : zI 61 53 = some (.invokevirtual 42, [1, 0, 2, 1, 234, 235, 12, 233, 0, 232]) := by decide +kernel
theorem zi_61_56 : zI 61 56 = some (.aload_n 0, []) := by decide +kernel
theorem zi_61_57 : zI 61 57 = some (.iload 4, []) := by decide +kernel
theorem zi_61_59 : zI 61 59 = some (.iconst 1, []) := by decide +kernel
theorem zi_61_60 : zI 61 60 = some (.iadd, []) := by decide +kernel
theorem zi_61_61 : zI 61 61 = some (.putfield 38, [0, 7, 0, 231]) := by decide +kernel
theorem zi_61_64 : zI 61 64 = some (.iload 4, []) := by decide +kernel
theorem zi_61_66 : zI 61 66 = some (.ireturn, []) := by decide +kernel
theorem zi_62_0 : zI 62 0 = some (.aload_n 0, []) := by decide +kernel
theorem zi_62_1 : zI 62 1 = some (.getfield 26, [0, 3, 230]) := by decide +kernel
theorem zi_62_4 : zI 62 4 = some (.iload_n 1, []) := by decide +kernel
theorem zi_62_5 : zI 62 5 = some (.invokevirtual 46, [0, 0, 1, 1, 10, 11, 12, 9, 0, 8]) := by decide +kernel
theorem zi_62_8 : zI 62 8 = some (.istore_n 3, []) := by decide +kernel
theorem zi_62_9 : zI 62 9 = some (.aload_n 0, []) := by decide +kernel
theorem zi_62_10 : zI 62 10 = some (.getfield 29, [0, 4, 7]) := by decide +kernel
theorem zi_62_13 : zI 62 13 = some (.iload_n 1, []) := by decide +kernel
theorem zi_62_14 : zI 62 14 = some (.bipush 8, []) := by decide +kernel
theorem zi_62_16 : zI 62 16 = some (.imul, []) := by decide +kernel
theorem zi_62_17 : zI 62 17 = some (.iload_n 3, []) := by decide +kernel
theorem zi_62_18 : zI 62 18 = some (.iadd, []) := by decide +kernel
theorem zi_62_19 : zI 62 19 = some (.iload_n 2, []) := by decide +kernel
theorem zi_62_20 : zI 62 20 = some (.invokevirtual 42, [1, 0, 2, 1, 234, 235, 12, 233, 0, 232]) := by decide +kernel
theorem zi_62_23 : zI 62 23 = some (.aload_n 0, []) := by decide +kernel
theorem zi_62_24 : zI 62 24 = some (.getfield 26, [0, 3, 230]) := by decide +kernel
theorem zi_62_27 : zI 62 27 = some (.iload_n 1, []) := by decide +kernel
theorem zi_62_28 : zI 62 28 = some (.iload_n 3, []) := by decide +kernel
theorem zi_62_29 : zI 62 29 = some (.iconst 1, []) := by decide +kernel
theorem zi_62_30 : zI 62 30 = some (.iadd, []) := by decide +kernel
theorem zi_62_31 : zI 62 31 = some (.invokevirtual 42, [1, 0, 2, 1, 234, 235, 12, 233, 0, 232]) := by decide +kernel
theorem zi_62_34 : zI 62 34 = some (.iload_n 3, []) := by decide +kernel
theorem zi_62_35 : zI 62 35 = some (.iconst 1, []) := by decide +kernel
theorem zi_62_36 : zI 62 36 = some (.iadd, []) := by decide +kernel
theorem zi_62_37 : zI 62 37 = some (.ireturn, []) := by decide +kernel
theorem zi_64_0 : zI 64 0 = some (.iconst 0, []) := by decide +kernel
theorem zi_64_1 : zI 64 1 = some (.istore_n 2, []) := by decide +kernel
theorem zi_64_2 : zI 64 2 = some (.iload_n 2, []) := by decide +kernel
theorem zi_64_3 : zI 64 3 = some (.aload_n 0, []) := by decide +kernel
theorem zi_64_4 : zI 64 4 = some (.getfield 38, [0, 7, 231]) := by decide +kernel
theorem zi_64_7 : zI 64 7 = some (.if_icmp .ge 46, [53]) := by decide +kernel
theorem zi_64_10 : zI 64 10 = some (.aload_n 1, []) := by decide +kernel
theorem zi_64_11 : zI 64 11 = some (.aload_n 0, []) := by decide +kernel
theorem zi_64_12 : zI 64 12 = some (.getfield 32, [0, 5, 119]) := by decide +kernel
theorem zi_64_15 : zI 64 15 = some (.iload_n 2, []) := by decide +kernel
theorem zi_64_16 : zI 64 16 = some (.invokevirtual 46, [0, 0, 1, 1, 10, 11, 12, 9, 0, 8]) := by decide +kernel
theorem zi_64_19 : zI 64 19 = some (.iconst 0, []) := by decide +kernel
theorem zi_64_20 : zI 64 20 = some (.invokevirtual 53, [40, 0, 2, 5, 238, 239, 139, 237, 0, 236]) := by decide +kernel
theorem zi_64_23 : zI 64 23 = some (.istore_n 3, []) := by decide +kernel
theorem zi_64_24 : zI 64 24 = some (.aload_n 0, []) := by decide +kernel
theorem zi_64_25 : zI 64 25 = some (.getfield 35, [0, 6, 120]) := by decide +kernel
theorem zi_64_28 : zI 64 28 = some (.iload_n 2, []) := by decide +kernel
theorem zi_64_29 : zI 64 29 = some (.iload_n 3, []) := by decide +kernel
theorem zi_64_30 : zI 64 30 = some (.iconst (-1), []) := by decide +kernel
theorem zi_64_31 : zI 64 31 = some (.if_icmp .ne 7, [38]) := by decide +kernel
theorem zi_64_34 : zI 64 34 = some (.iconst (-1), []) := by decide +kernel
theorem zi_64_35 : zI 64 35 = some (.goto 9, [44]) := by decide +kernel
theorem zi_64_38 : zI 64 38 = some (.aload_n 0, []) := by decide +kernel
theorem zi_64_39 : zI 64 39 = some (.iload_n 2, []) := by decide +kernel
theorem zi_64_40 : zI 64 40 = some (.iload_n 3, []) := by decide +kernel
theorem zi_64_41 : zI 64 41 = some (.invokevirtual 59, [8, 0, 2, 0, 143, 144, 53, 142, 0, 240]) := by decide +kernel
theorem zi_64_44 : zI 64 44 = some (.invokevirtual 42, [1, 0, 2, 1, 234, 235, 12, 233, 0, 232]) := by decide +kernel
theorem zi_64_47 : zI 64 47 = some (.iinc 2 1, []) := by decide +kernel
theorem zi_64_50 : zI 64 50 = some (.goto (-48), [2]) := by decide +kernel
theorem zi_64_53 : zI 64 53 = some (.return_, []) := by decide +kernel
theorem zi_92_0 : zI 92 0 = some (.aload_n 1, []) := by decide +kernel
theorem zi_92_1 : zI 92 1 = some (.getfield 31, [0, 3, 140]) := by decide +kernel
theorem zi_92_4 : zI 92 4 = some (.iload_n 2, []) := by decide +kernel
theorem zi_92_5 : zI 92 5 = some (.invokevirtual 23, [0, 0, 1, 1, 10, 11, 12, 9, 0, 33]) := by decide +kernel
theorem zi_92_8 : zI 92 8 = some (.istore_n 3, []) := by decide +kernel
theorem zi_92_9 : zI 92 9 = some (.aload_n 0, []) := by decide +kernel
theorem zi_92_10 : zI 92 10 = some (.getfield 14, [5, 0, 134]) := by decide +kernel
theorem zi_92_13 : zI 92 13 = some (.aload_n 0, []) := by decide +kernel
theorem zi_92_14 : zI 92 14 = some (.getfield 37, [5, 2, 145]) := by decide +kernel
theorem zi_92_17 : zI 92 17 = some (.iload_n 3, []) := by decide +kernel
theorem zi_92_18 : zI 92 18 = some (.invokevirtual 56, [1, 0, 2, 1, 234, 235, 12, 233, 0, 358]) := by decide +kernel
theorem zi_92_21 : zI 92 21 = some (.iconst 0, []) := by decide +kernel
theorem zi_92_22 : zI 92 22 = some (.istore 4, []) := by decide +kernel
theorem zi_92_24 : zI 92 24 = some (.iload 4, []) := by decide +kernel
theorem zi_92_26 : zI 92 26 = some (.iload_n 3, []) := by decide +kernel
theorem zi_92_27 : zI 92 27 = some (.if_icmp .ge 33, [60]) := by decide +kernel
theorem zi_92_30 : zI 92 30 = some (.aload_n 0, []) := by decide +kernel
theorem zi_92_31 : zI 92 31 = some (.getfield 20, [5, 1, 32]) := by decide +kernel
theorem zi_92_34 : zI 92 34 = some (.aload_n 0, []) := by decide +kernel
theorem zi_92_35 : zI 92 35 = some (.getfield 37, [5, 2, 145]) := by decide +kernel
theorem zi_92_38 : zI 92 38 = some (.bipush 8, []) := by decide +kernel
theorem zi_92_40 : zI 92 40 = some (.imul, []) := by decide +kernel
theorem zi_92_41 : zI 92 41 = some (.iload 4, []) := by decide +kernel
theorem zi_92_43 : zI 92 43 = some (.iadd, []) := by decide +kernel
theorem zi_92_44 : zI 92 44 = some (.aload_n 1, []) := by decide +kernel
theorem zi_92_45 : zI 92 45 = some (.iload_n 2, []) := by decide +kernel
theorem zi_92_46 : zI 92 46 = some (.iload 4, []) := by decide +kernel
theorem zi_92_48 : zI 92 48 = some (.invokevirtual 34, [8, 0, 2, 0, 143, 144, 53, 142, 0, 141]) := by decide +kernel
theorem zi_92_51 : zI 92 51 = some (.invokevirtual 56, [1, 0, 2, 1, 234, 235, 12, 233, 0, 358]) := by decide +kernel
theorem zi_92_54 : zI 92 54 = some (.iinc 4 1, []) := by decide +kernel
theorem zi_92_57 : zI 92 57 = some (.goto (-33), [24]) := by decide +kernel
theorem zi_92_60 : zI 92 60 = some (.aload_n 0, []) := by decide +kernel
theorem zi_92_61 : zI 92 61 = some (.dup, []) := by decide +kernel
theorem zi_92_62 : zI 92 62 = some (.getfield 37, [5, 2, 145]) := by decide +kernel
theorem zi_92_65 : zI 92 65 = some (.iconst 1, []) := by decide +kernel
theorem zi_92_66 : zI 92 66 = some (.iadd, []) := by decide +kernel
theorem zi_92_67 : zI 92 67 = some (.putfield 37, [5, 2, 0, 145]) := by decide +kernel
theorem zi_92_70 : zI 92 70 = some (.return_, []) := by decide +kernel
theorem zi_93_0 : zI 93 0 = some (.iconst 0, []) := by decide +kernel
theorem zi_93_1 : zI 93 1 = some (.istore 4, []) := by decide +kernel
theorem zi_93_3 : zI 93 3 = some (.iload 4, []) := by decide +kernel
theorem zi_93_5 : zI 93 5 = some (.aload_n 0, []) := by decide +kernel
theorem zi_93_6 : zI 93 6 = some (.getfield 14, [5, 0, 134]) := by decide +kernel
theorem zi_93_9 : zI 93 9 = some (.iload_n 3, []) := by decide +kernel
theorem zi_93_10 : zI 93 10 = some (.invokevirtual 23, [0, 0, 1, 1, 10, 11, 12, 9, 0, 33]) := by decide +kernel
theorem zi_93_13 : zI 93 13 = some (.if_icmp .ge 41, [54]) := by decide +kernel
theorem zi_93_16 : zI 93 16 = some (.aload_n 0, []) := by decide +kernel
theorem zi_93_17 : zI 93 17 = some (.iload_n 3, []) := by decide +kernel
theorem zi_93_18 : zI 93 18 = some (.iload 4, []) := by decide +kernel
theorem zi_93_20 : zI 93 20 = some (.invokevirtual 27, [16, 0, 2, 5, 137, 138, 139, 136, 0, 135]) := by decide +kernel
theorem zi_93_23 : zI 93 23 = some (.aload_n 1, []) := by decide +kernel
theorem zi_93_24 : zI 93 24 = some (.iload_n 2, []) := by decide +kernel
theorem zi_93_25 : zI 93 25 = some (.iload 4, []) := by decide +kernel
theorem zi_93_27 : zI 93 27 = some (.invokevirtual 34, [8, 0, 2, 0, 143, 144, 53, 142, 0, 141]) := by decide +kernel
theorem zi_93_30 : zI 93 30 = some (.if_icmp .eq 18, [48]) := by decide +kernel
theorem zi_93_33 : zI 93 33 = some (.aload_n 0, []) := by decide +kernel
theorem zi_93_34 : zI 93 34 = some (.getfield 20, [5, 1, 32]) := by decide +kernel
theorem zi_93_37 : zI 93 37 = some (.iload_n 3, []) := by decide +kernel
theorem zi_93_38 : zI 93 38 = some (.bipush 8, []) := by decide +kernel
theorem zi_93_40 : zI 93 40 = some (.imul, []) := by decide +kernel
theorem zi_93_41 : zI 93 41 = some (.iload 4, []) := by decide +kernel
theorem zi_93_43 : zI 93 43 = some (.iadd, []) := by decide +kernel
theorem zi_93_44 : zI 93 44 = some (.iconst (-1), []) := by decide +kernel
theorem zi_93_45 : zI 93 45 = some (.invokevirtual 56, [1, 0, 2, 1, 234, 235, 12, 233, 0, 358]) := by decide +kernel
theorem zi_93_48 : zI 93 48 = some (.iinc 4 1, []) := by decide +kernel
theorem zi_93_51 : zI 93 51 = some (.goto (-48), [3]) := by decide +kernel
theorem zi_93_54 : zI 93 54 = some (.return_, []) := by decide +kernel
/-! what changes lines and templates -/
theorem updG_eq {g : Nat → Nat} {k v : Nat} : updG g k v k = v := if_pos rfl
theorem updG_ne {g : Nat → Nat} {k q v : Nat} (h : q ≠ k) : updG g k v q = g q := if_neg h
/-- template T has the words of line l from place i on -/
def zcop (F F' : Nat → Nat → Int32) (l T i c : Nat) : Prop := (∀ r, r ≠ 8 → F' r = F r) ∧ (∀ p, i ≤ p → p < c → F' 8 (T * 8 + p) = F 4 (l * 8 + p)) ∧ ∀ x, x < T * 8 + i ∨ T * 8 + c ≤ x → F' 8 x = F 8 x
/-- template t has a hole from place i on wherever it hasn't the word of line l -/
def zwid (F F' : Nat → Nat → Int32) (l t i a : Nat) : Prop := (∀ r, r ≠ 8 → F' r = F r) ∧ (∀ p, i ≤ p → p < a → F' 8 (t * 8 + p) = if F 8 (t * 8 + p) = F 4 (l * 8 + p) then F 8 (t * 8 + p) else -1) ∧ ∀ x, x < t * 8 + i ∨ t * 8 + a ≤ x → F' 8 x = F 8 x
section
variable {b : Nat} {h : zH}
theorem l_copy (hb : b + 71 ≤ h.length) (F : Nat → Nat → Int32) (g : Nat → Nat) (l c : Nat) (hl : l < 70) (hc8 : c ≤ 8) (hT : g 2 < 20) (i : Nat) (hi : i ≤ c) : zev 92 24 [some (.ref (b + 16)), some (.ref (b + 1)), some (.int (nI l)), some (.int (nI c)), some (.int (nI i))] [] (nput b F g h) (zQn b h fun F' g' => zcop F F' l (g 2) i c ∧ g' = updG g 2 (g 2 + 1)) := by
  refine zev_of (fun _ kk => zr_iload (pc' := 26) zi_92_24 rfl rfl kk) ?_
  refine zev_of (fun _ kk => zr_iload_n (pc' := 27) zi_92_26 rfl rfl kk) ?_
  refine zv_icmp (pc' := 30) zi_92_27 rfl (fun h27 => ?_) (fun h27 => ?_)
  · replace h27 := zc_ge_t (by omega) (by omega) h27
    refine zev_of (fun _ kk => zr_aload_n (pc' := 61) zi_92_60 rfl rfl kk) ?_
    refine zev_of (fun _ kk => zr_dup (pc' := 62) zi_92_61 rfl rfl kk) ?_
    refine zev_of (fun _ kk => zr_get (pc' := 65) zi_92_62 (nput_at hb (k := 16) rfl) rfl rfl kk) ?_
    refine zev_of (fun _ kk => zr_iconst (v := (nI 1)) (pc' := 66) zi_92_65 rfl rfl kk) ?_
    refine zev_of (fun _ kk => zr_iadd (pc' := 67) zi_92_66 (by first | exact nI_add _ _ | rfl) rfl kk) ?_
    refine zev_of (fun _ kk => zr_put (pc' := 70) zi_92_67 (by omega) (nput_at hb (k := 16) rfl) (Nat.le_of_ble_eq_true rfl) rfl rfl (nput_set (g' := updG _ 2 (_)) hb (by decide) rfl) kk) ?_
    refine zev_ret (zr_return zi_92_70 rfl) ?_
    refine ⟨_, _, ⟨⟨fun _ _ => rfl, fun p h1 h2 => absurd h1 (by omega), fun _ _ => rfl⟩, rfl⟩, rfl⟩
  · replace h27 := zc_ge_f (by omega) (by omega) h27
    refine zev_of (fun _ kk => zr_aload_n (pc' := 31) zi_92_30 rfl rfl kk) ?_
    refine zev_of (fun _ kk => zr_get (pc' := 34) zi_92_31 (nput_at hb (k := 16) rfl) rfl rfl kk) ?_
    refine zev_of (fun _ kk => zr_aload_n (pc' := 35) zi_92_34 rfl rfl kk) ?_
    refine zev_of (fun _ kk => zr_get (pc' := 38) zi_92_35 (nput_at hb (k := 16) rfl) rfl rfl kk) ?_
    refine zev_of (fun _ kk => zr_bipush (v := (nI 8)) (pc' := 40) zi_92_38 rfl rfl kk) ?_
    refine zev_of (fun _ kk => zr_imul (pc' := 41) zi_92_40 (by first | exact pk_mul _ _ | rfl) rfl kk) ?_
    refine zev_of (fun _ kk => zr_iload (pc' := 43) zi_92_41 rfl rfl kk) ?_
    refine zev_of (fun _ kk => zr_iadd (pc' := 44) zi_92_43 (by first | exact nI_add _ _ | rfl) rfl kk) ?_
    refine zev_of (fun _ kk => zr_aload_n (pc' := 45) zi_92_44 rfl rfl kk) ?_
    refine zev_of (fun _ kk => zr_iload_n (pc' := 46) zi_92_45 rfl rfl kk) ?_
    refine zev_of (fun _ kk => zr_iload (pc' := 48) zi_92_46 rfl rfl kk) ?_
    refine zev_of (fun _ kk => zr_v2 (pc' := 51) zi_92_48 (nput_at hb (k := 1) rfl) rfl (c_wordIn hb _ _ (by omega)) rfl kk) ?_
    refine zev_of (fun _ kk => zr_rputN (pc' := 54) (rr := 8) (by omega) zi_92_51 hb rfl rfl (fun _ => rfl) (by decide) (by decide) rfl rfl kk) ?_
    refine zev_of (fun _ kk => zr_iinc (pc' := 57) zi_92_54 rfl (by first | exact n_inc _ | rfl) rfl rfl kk) ?_
    dsimp only [zst1, zst2, zkill, List.set, List.getElem?_cons_succ, List.getElem?_cons_zero]
    refine zev_of (fun _ kk => zr_goto zi_92_57 kk) ?_
    refine zev_mono (l_copy hb _ g l c hl hc8 hT (i + 1) (by omega)) ?_
    rintro q ⟨F', g', ⟨⟨k1, k2, k3⟩, k4⟩, rfl⟩
    refine ⟨F', g', ⟨⟨fun r hr => (k1 r hr).trans (updR_ne hr), fun p h1 h2 => ?_, fun x hx => ?_⟩, k4⟩, rfl⟩
    · rcases Nat.lt_or_ge i p with q | q
      · rw [k2 p (by omega) h2, updR_ne (by decide)]
      · rw [show p = i by omega, k3 _ (by omega), updR_eq, pk_us]
    · rw [k3 x (by omega), updR_eq, pk_un (by omega)]
termination_by c - i
theorem c_copy (hb : b + 71 ≤ h.length) (F : Nat → Nat → Int32) (g : Nat → Nat) (l c : Nat) (hl : l < 70) (hc : F 3 l = nI c) (hc8 : c ≤ 8) (hT : g 2 < 20) : ∃ F' g', (zcop (updR F 7 (upd (F 7) (g 2) (nI c))) F' l (g 2) 0 c ∧ g' = updG g 2 (g 2 + 1)) ∧ zcalls zTB 92 [.ref (b + 16), .ref (b + 1), .int (nI l)] (nput b F g h) (none, nput b F' g' h) := by
  refine zQn_out (zev_calls (Nat.le_of_ble_eq_true rfl) ?_)
  show zev 92 0 [some (.ref (b + 16)), some (.ref (b + 1)), some (.int (nI l)), none, none] [] _ _
  refine zev_of (fun _ kk => zr_aload_n (pc' := 1) zi_92_0 rfl rfl kk) ?_
  refine zev_of (fun _ kk => zr_get (pc' := 4) zi_92_1 (nput_at hb (k := 1) rfl) rfl rfl kk) ?_
  refine zev_of (fun _ kk => zr_iload_n (pc' := 5) zi_92_4 rfl rfl kk) ?_
  refine zev_of (fun _ kk => zr_atN (pc' := 8) (by omega) zi_92_5 hb rfl rfl (by decide) rfl rfl kk) ?_
  rw [hc]
  refine zev_of (fun _ kk => zr_istore_n (pc' := 9) zi_92_8 (Nat.le_of_ble_eq_true rfl) rfl rfl kk) ?_
  dsimp only [zst1, zst2, zkill, List.set, List.getElem?_cons_succ, List.getElem?_cons_zero]
  refine zev_of (fun _ kk => zr_aload_n (pc' := 10) zi_92_9 rfl rfl kk) ?_
  refine zev_of (fun _ kk => zr_get (pc' := 13) zi_92_10 (nput_at hb (k := 16) rfl) rfl rfl kk) ?_
  refine zev_of (fun _ kk => zr_aload_n (pc' := 14) zi_92_13 rfl rfl kk) ?_
  refine zev_of (fun _ kk => zr_get (pc' := 17) zi_92_14 (nput_at hb (k := 16) rfl) rfl rfl kk) ?_
  refine zev_of (fun _ kk => zr_iload_n (pc' := 18) zi_92_17 rfl rfl kk) ?_
  refine zev_of (fun _ kk => zr_rputN (pc' := 21) (rr := 7) (by omega) zi_92_18 hb rfl rfl (fun _ => rfl) (by decide) (by decide) rfl rfl kk) ?_
  refine zev_of (fun _ kk => zr_iconst (v := (nI 0)) (pc' := 22) zi_92_21 rfl rfl kk) ?_
  refine zev_of (fun _ kk => zr_istore (pc' := 24) zi_92_22 (Nat.le_of_ble_eq_true rfl) rfl rfl kk) ?_
  dsimp only [zst1, zst2, zkill, List.set, List.getElem?_cons_succ, List.getElem?_cons_zero]
  exact l_copy hb _ g l c hl hc8 hT 0 (by omega)
theorem l_widen (hb : b + 71 ≤ h.length) (F : Nat → Nat → Int32) (g : Nat → Nat) (l t a : Nat) (hl : l < 70) (ht : t < 20) (hs : F 7 t = nI a) (ha : a ≤ 8) (i : Nat) (hi : i ≤ a) : zev 93 3 [some (.ref (b + 16)), some (.ref (b + 1)), some (.int (nI l)), some (.int (nI t)), some (.int (nI i))] [] (nput b F g h) (zQn b h fun F' g' => zwid F F' l t i a ∧ g' = g) := by
  refine zev_of (fun _ kk => zr_iload (pc' := 5) zi_93_3 rfl rfl kk) ?_
  refine zev_of (fun _ kk => zr_aload_n (pc' := 6) zi_93_5 rfl rfl kk) ?_
  refine zev_of (fun _ kk => zr_get (pc' := 9) zi_93_6 (nput_at hb (k := 16) rfl) rfl rfl kk) ?_
  refine zev_of (fun _ kk => zr_iload_n (pc' := 10) zi_93_9 rfl rfl kk) ?_
  refine zev_of (fun _ kk => zr_atN (pc' := 13) (by omega) zi_93_10 hb rfl rfl (by decide) rfl rfl kk) ?_
  rw [hs]
  refine zv_icmp (pc' := 16) zi_93_13 rfl (fun h13 => ?_) (fun h13 => ?_)
  · replace h13 := zc_ge_t (by omega) (by omega) h13
    refine zev_ret (zr_return zi_93_54 rfl) ?_
    refine ⟨_, _, ⟨⟨fun _ _ => rfl, fun p h1 h2 => absurd h1 (by omega), fun _ _ => rfl⟩, rfl⟩, rfl⟩
  · replace h13 := zc_ge_f (by omega) (by omega) h13
    refine zev_of (fun _ kk => zr_aload_n (pc' := 17) zi_93_16 rfl rfl kk) ?_
    refine zev_of (fun _ kk => zr_iload_n (pc' := 18) zi_93_17 rfl rfl kk) ?_
    refine zev_of (fun _ kk => zr_iload (pc' := 20) zi_93_18 rfl rfl kk) ?_
    refine zev_of (fun _ kk => zr_v2 (pc' := 23) zi_93_20 (nput_at hb (k := 16) rfl) rfl (c_slotIn hb _ _ (by omega)) rfl kk) ?_
    refine zev_of (fun _ kk => zr_aload_n (pc' := 24) zi_93_23 rfl rfl kk) ?_
    refine zev_of (fun _ kk => zr_iload_n (pc' := 25) zi_93_24 rfl rfl kk) ?_
    refine zev_of (fun _ kk => zr_iload (pc' := 27) zi_93_25 rfl rfl kk) ?_
    refine zev_of (fun _ kk => zr_v2 (pc' := 30) zi_93_27 (nput_at hb (k := 1) rfl) rfl (c_wordIn hb _ _ (by omega)) rfl kk) ?_
    refine zv_icmp (pc' := 33) zi_93_30 rfl (fun h30 => ?_) (fun h30 => ?_)
    · replace h30 := zc_eq_t h30
      refine zev_of (fun _ kk => zr_iinc (pc' := 51) zi_93_48 rfl (by first | exact n_inc _ | rfl) rfl rfl kk) ?_
      dsimp only [zst1, zst2, zkill, List.set, List.getElem?_cons_succ, List.getElem?_cons_zero]
      refine zev_of (fun _ kk => zr_goto zi_93_51 kk) ?_
      refine zev_mono (l_widen hb F g l t a hl ht hs ha (i + 1) (by omega)) ?_
      rintro q ⟨F', g', ⟨⟨k1, k2, k3⟩, k4⟩, rfl⟩
      refine ⟨F', g', ⟨⟨k1, fun p h1 h2 => ?_, fun x hx => k3 x (by omega)⟩, k4⟩, rfl⟩
      rcases Nat.lt_or_ge i p with q | q
      · exact k2 p (by omega) h2
      · rw [show p = i by omega, k3 _ (by omega), if_pos h30]
    · replace h30 := zc_eq_f h30
      refine zev_of (fun _ kk => zr_aload_n (pc' := 34) zi_93_33 rfl rfl kk) ?_
      refine zev_of (fun _ kk => zr_get (pc' := 37) zi_93_34 (nput_at hb (k := 16) rfl) rfl rfl kk) ?_
      refine zev_of (fun _ kk => zr_iload_n (pc' := 38) zi_93_37 rfl rfl kk) ?_
      refine zev_of (fun _ kk => zr_bipush (v := (nI 8)) (pc' := 40) zi_93_38 rfl rfl kk) ?_
      refine zev_of (fun _ kk => zr_imul (pc' := 41) zi_93_40 (by first | exact pk_mul _ _ | rfl) rfl kk) ?_
      refine zev_of (fun _ kk => zr_iload (pc' := 43) zi_93_41 rfl rfl kk) ?_
      refine zev_of (fun _ kk => zr_iadd (pc' := 44) zi_93_43 (by first | exact nI_add _ _ | rfl) rfl kk) ?_
      refine zev_of (fun _ kk => zr_iconst (v := (-1)) (pc' := 45) zi_93_44 rfl rfl kk) ?_
      refine zev_of (fun _ kk => zr_rputN (pc' := 48) (rr := 8) (by omega) zi_93_45 hb rfl rfl (fun _ => rfl) (by decide) (by decide) rfl rfl kk) ?_
      refine zev_of (fun _ kk => zr_iinc (pc' := 51) zi_93_48 rfl (by first | exact n_inc _ | rfl) rfl rfl kk) ?_
      dsimp only [zst1, zst2, zkill, List.set, List.getElem?_cons_succ, List.getElem?_cons_zero]
      refine zev_of (fun _ kk => zr_goto zi_93_51 kk) ?_
      refine zev_mono (l_widen hb (updR F 8 (upd (F 8) (t * 8 + i) (-1))) g l t a hl ht hs ha (i + 1) (by omega)) ?_
      rintro q ⟨F', g', ⟨⟨k1, k2, k3⟩, k4⟩, rfl⟩
      refine ⟨F', g', ⟨⟨fun r hr => (k1 r hr).trans (updR_ne hr), fun p h1 h2 => ?_, fun x hx => ?_⟩, k4⟩, rfl⟩
      · rcases Nat.lt_or_ge i p with q | q
        · rw [k2 p (by omega) h2, updR_eq, pk_un (by omega)]
          rfl
        · rw [show p = i by omega, k3 _ (by omega), updR_eq, pk_us, if_neg h30]
      · rw [k3 x (by omega), updR_eq, pk_un (by omega)]
termination_by a - i
theorem c_widen (hb : b + 71 ≤ h.length) (F : Nat → Nat → Int32) (g : Nat → Nat) (l t a : Nat) (hl : l < 70) (ht : t < 20) (hs : F 7 t = nI a) (ha : a ≤ 8) : ∃ F' g', (zwid F F' l t 0 a ∧ g' = g) ∧ zcalls zTB 93 [.ref (b + 16), .ref (b + 1), .int (nI l), .int (nI t)] (nput b F g h) (none, nput b F' g' h) := by
  refine zQn_out (zev_calls (Nat.le_of_ble_eq_true rfl) ?_)
  show zev 93 0 [some (.ref (b + 16)), some (.ref (b + 1)), some (.int (nI l)), some (.int (nI t)), none] [] _ _
  refine zev_of (fun _ kk => zr_iconst (v := (nI 0)) (pc' := 1) zi_93_0 rfl rfl kk) ?_
  refine zev_of (fun _ kk => zr_istore (pc' := 3) zi_93_1 (Nat.le_of_ble_eq_true rfl) rfl rfl kk) ?_
  dsimp only [zst1, zst2, zkill, List.set, List.getElem?_cons_succ, List.getElem?_cons_zero]
  exact l_widen hb _ g l t a hl ht hs ha 0 (by omega)
/-- what taking a line of c words does -/
def ztak (F : Nat → Nat → Int32) (g : Nat → Nat) (l c s : Nat) (r : Int32) (F' : Nat → Nat → Int32) (g' : Nat → Nat) : Prop := zcho F (g 2) l c s r ∧
  ((r = -1 ∧ F' = F ∧ g' = g) ∨
   (g 2 < 20 ∧ r = nI (g 2) ∧ zcop (updR F 7 (upd (F 7) (g 2) (nI c))) F' l (g 2) 0 c ∧ g' = updG g 2 (g 2 + 1)) ∨
   ∃ t a, t < g 2 ∧ r = nI t ∧ F 7 t = nI a ∧ a ≤ 8 ∧ zwid F F' l t 0 a ∧ g' = g)
theorem c_take (hb : b + 71 ≤ h.length) (F : Nat → Nat → Int32) (g : Nat → Nat) (l c s : Nat) (hl : l < 70) (hc : F 3 l = nI c) (hc8 : c ≤ 8) (hs1 : s ≤ 100) (hT : g 2 ≤ 20) (hsz : ∀ t, t < g 2 → ∃ a, a ≤ 8 ∧ F 7 t = nI a) : ∃ r F' g', ztak F g l c s r F' g' ∧ zcalls zTB 43 [.ref (b + 16), .ref (b + 1), .int (nI l), .int (nI s)] (nput b F g h) (some (.int r), nput b F' g' h) := by
  obtain ⟨r, hr, hcall⟩ := c_choose hb (F := F) (g := g) l c s hl hc hc8 hs1 hT hsz
  refine zQm_out (zev_calls (Nat.le_of_ble_eq_true rfl) ?_)
  show zev 43 0 [some (.ref (b + 16)), some (.ref (b + 1)), some (.int (nI l)), some (.int (nI s)), none] [] _ _
  refine zev_of (fun _ kk => zr_aload_n (pc' := 1) zi_43_0 rfl rfl kk) ?_
  refine zev_of (fun _ kk => zr_aload_n (pc' := 2) zi_43_1 rfl rfl kk) ?_
  refine zev_of (fun _ kk => zr_iload_n (pc' := 3) zi_43_2 rfl rfl kk) ?_
  refine zev_of (fun _ kk => zr_iload_n (pc' := 4) zi_43_3 rfl rfl kk) ?_
  refine zev_of (fun _ kk => zr_v3 (pc' := 7) zi_43_4 (nput_at hb (k := 16) rfl) rfl hcall rfl kk) ?_
  refine zev_of (fun _ kk => zr_istore (pc' := 9) zi_43_7 (Nat.le_of_ble_eq_true rfl) rfl rfl kk) ?_
  dsimp only [zst1, zst2, zkill, List.set, List.getElem?_cons_succ, List.getElem?_cons_zero]
  refine zev_of (fun _ kk => zr_iload (pc' := 11) zi_43_9 rfl rfl kk) ?_
  refine zev_of (fun _ kk => zr_iconst (v := (-1)) (pc' := 12) zi_43_11 rfl rfl kk) ?_
  refine zv_icmp (pc' := 15) zi_43_12 rfl (fun h12 => ?_) (fun h12 => ?_)
  · replace h12 := zc_ne_t h12
    refine zev_of (fun _ kk => zr_iload (pc' := 19) zi_43_17 rfl rfl kk) ?_
    refine zev_of (fun _ kk => zr_aload_n (pc' := 20) zi_43_19 rfl rfl kk) ?_
    refine zev_of (fun _ kk => zr_get (pc' := 23) zi_43_20 (nput_at hb (k := 16) rfl) rfl rfl kk) ?_
    refine zv_icmp (pc' := 26) zi_43_23 rfl (fun h23 => ?_) (fun h23 => ?_)
    · replace h23 := zc_ne_t h23
      obtain ⟨t, ht, e⟩ : ∃ t, t < g 2 ∧ r = nI t := by
        rcases hr with ⟨t, ht, e, _⟩ | ⟨_, e⟩
        · exact ⟨t, ht, e⟩
        · split at e
          · exact absurd e h23
          · exact absurd e h12
      subst e
      obtain ⟨a, ha, hs⟩ := hsz t ht
      obtain ⟨F1, g1, ⟨k1, k2⟩, hcp⟩ := c_widen hb F g l t a hl (by omega) hs ha
      refine zev_of (fun _ kk => zr_aload_n (pc' := 36) zi_43_35 rfl rfl kk) ?_
      refine zev_of (fun _ kk => zr_aload_n (pc' := 37) zi_43_36 rfl rfl kk) ?_
      refine zev_of (fun _ kk => zr_iload_n (pc' := 38) zi_43_37 rfl rfl kk) ?_
      refine zev_of (fun _ kk => zr_iload (pc' := 40) zi_43_38 rfl rfl kk) ?_
      refine zev_of (fun _ kk => zr_n3 (pc' := 43) zi_43_40 (nput_at hb (k := 16) rfl) rfl hcp rfl kk) ?_
      refine zev_of (fun _ kk => zr_iload (pc' := 45) zi_43_43 rfl rfl kk) ?_
      refine zev_ret (zr_ireturn zi_43_45 rfl) ?_
      exact ⟨_, _, _, ⟨hr, .inr (.inr ⟨t, a, ht, rfl, hs, ha, k1, k2⟩)⟩, rfl⟩
    · replace h23 := zc_ne_f h23
      have hT20 : g 2 < 20 := by
        rcases hr with ⟨t, ht, e, _⟩ | ⟨_, e⟩
        · have := (nI_eq (by omega) (by omega)).mp (e.symm.trans h23)
          omega
        · refine Nat.lt_of_not_le fun q => ?_
          rw [if_neg (by omega)] at e
          exact h12 e
      obtain ⟨F1, g1, ⟨k1, k2⟩, hcp⟩ := c_copy hb F g l c hl hc hc8 hT20
      refine zev_of (fun _ kk => zr_aload_n (pc' := 27) zi_43_26 rfl rfl kk) ?_
      refine zev_of (fun _ kk => zr_aload_n (pc' := 28) zi_43_27 rfl rfl kk) ?_
      refine zev_of (fun _ kk => zr_iload_n (pc' := 29) zi_43_28 rfl rfl kk) ?_
      refine zev_of (fun _ kk => zr_n2 (pc' := 32) zi_43_29 (nput_at hb (k := 16) rfl) rfl hcp rfl kk) ?_
      refine zev_of (fun _ kk => zr_goto zi_43_32 kk) ?_
      refine zev_of (fun _ kk => zr_iload (pc' := 45) zi_43_43 rfl rfl kk) ?_
      refine zev_ret (zr_ireturn zi_43_45 rfl) ?_
      exact ⟨_, _, _, ⟨hr, .inr (.inl ⟨hT20, h23, k1, k2⟩)⟩, rfl⟩
  · replace h12 := zc_ne_f h12
    refine zev_of (fun _ kk => zr_iconst (v := (-1)) (pc' := 16) zi_43_15 rfl rfl kk) ?_
    refine zev_ret (zr_ireturn zi_43_16 rfl) ?_
    subst h12
    exact ⟨_, _, _, ⟨hr, .inl ⟨rfl, rfl, rfl⟩⟩, rfl⟩
/-- the key of a line -/
def zkey (F : Nat → Nat → Int32) (i : Nat) (k : Int32) : Prop := (F 5 i = -1 ∧ k = -1) ∨ ∃ t a, t < 20 ∧ F 5 i = nI t ∧ F 7 t = nI a ∧ a ≤ 8 ∧ ((zhol F t a = 0 ∧ k = -1) ∨ ∃ p, p < a ∧ F 8 (t * 8 + p) = -1 ∧ zhol F t p = 0 ∧ k = F 4 (i * 8 + p))
theorem zkey_of {F F' : Nat → Nat → Int32} {i : Nat} {k : Int32} (h1 : F' 5 = F 5) (h2 : F' 7 = F 7) (h3 : F' 8 = F 8) (h4 : F' 4 = F 4) (q : zkey F' i k) : zkey F i k := by
  simp only [zkey, zhol, h1, h2, h3, h4] at q
  exact q
theorem l_findKeys (hb : b + 71 ≤ h.length) (F : Nat → Nat → Int32) (g : Nat → Nat) (hn : g 0 ≤ 70) (hof : ∀ i, i < g 0 → F 5 i = -1 ∨ ∃ t a, t < 20 ∧ F 5 i = nI t ∧ F 7 t = nI a ∧ a ≤ 8) (i : Nat) (hi : i ≤ g 0) (X : Option Value) : zev 64 2 [some (.ref (b + 1)), some (.ref (b + 16)), some (.int (nI i)), X] [] (nput b F g h) (zQn b h fun F' g' => ((∀ r, r ≠ 6 → F' r = F r) ∧ (∀ j, i ≤ j → j < g 0 → zkey F j (F' 6 j)) ∧ ∀ j, j < i → F' 6 j = F 6 j) ∧ g' = g) := by
  refine zev_of (fun _ kk => zr_iload_n (pc' := 3) zi_64_2 rfl rfl kk) ?_
  refine zev_of (fun _ kk => zr_aload_n (pc' := 4) zi_64_3 rfl rfl kk) ?_
  refine zev_of (fun _ kk => zr_get (pc' := 7) zi_64_4 (nput_at hb (k := 1) rfl) rfl rfl kk) ?_
  refine zv_icmp (pc' := 10) zi_64_7 rfl (fun h7 => ?_) (fun h7 => ?_)
  · replace h7 := zc_ge_t (by omega) (by omega) h7
    refine zev_ret (zr_return zi_64_53 rfl) ?_
    refine ⟨_, _, ⟨⟨fun _ _ => rfl, fun p h1 h2 => absurd h1 (by omega), fun _ _ => rfl⟩, rfl⟩, rfl⟩
  · replace h7 := zc_ge_f (by omega) (by omega) h7
    obtain ⟨pl, hpl, hk⟩ : ∃ pl, ((pl = -1 ∧ zkey F i (-1)) ∨ ∃ p, p < 8 ∧ pl = nI p ∧ zkey F i (F 4 (i * 8 + p))) ∧ zcalls zTB 40 [.ref (b + 16), .int (F 5 i), .int 0] (nput b F g h) (some (.int pl), nput b F g h) := by
      rcases hof i (by omega) with e | ⟨t, a, ht, e, hs, ha⟩
      · rw [e]
        exact ⟨_, .inl ⟨rfl, .inl ⟨e, rfl⟩⟩, c_placeOfNone hb 0⟩
      · rw [e]
        obtain ⟨r, hr, hc⟩ := c_placeOfHole hb (F := F) (g := g) t a 0 ht hs ha (by omega)
        refine ⟨r, ?_, hc⟩
        rcases hr with ⟨e1, e2⟩ | ⟨p, h1, h2, h3, h4⟩
        · exact .inl ⟨e1, .inr ⟨t, a, ht, e, hs, ha, .inl ⟨by omega, rfl⟩⟩⟩
        · exact .inr ⟨p, by omega, h2, .inr ⟨t, a, ht, e, hs, ha, .inr ⟨p, h1, h3, h4, rfl⟩⟩⟩
    have hz : ∀ k, zkey F i k → zev 64 2 [some (.ref (b + 1)), some (.ref (b + 16)), some (.int (nI (i + 1))), some (.int pl)] [] (nput b (updR F 6 (upd (F 6) i k)) g h) (zQn b h fun F' g' => ((∀ r, r ≠ 6 → F' r = F r) ∧ (∀ j, i ≤ j → j < g 0 → zkey F j (F' 6 j)) ∧ ∀ j, j < i → F' 6 j = F 6 j) ∧ g' = g) := by
      intro k hkk
      refine zev_mono (l_findKeys hb (updR F 6 (upd (F 6) i k)) g hn hof (i + 1) (by omega) _) ?_
      rintro q ⟨F', g', ⟨⟨k1, k2, k3⟩, k4⟩, rfl⟩
      refine ⟨F', g', ⟨⟨fun r hr => (k1 r hr).trans (updR_ne hr), fun p h1 h2 => ?_, fun x hx => ?_⟩, k4⟩, rfl⟩
      · rcases Nat.lt_or_ge i p with q | q
        · exact zkey_of rfl rfl rfl rfl (k2 p (by omega) h2)
        · rw [show p = i by omega, k3 _ (by omega), updR_eq, pk_us]
          exact hkk
      · rw [k3 x (by omega), updR_eq, pk_un (by omega)]
    refine zev_of (fun _ kk => zr_aload_n (pc' := 11) zi_64_10 rfl rfl kk) ?_
    refine zev_of (fun _ kk => zr_aload_n (pc' := 12) zi_64_11 rfl rfl kk) ?_
    refine zev_of (fun _ kk => zr_get (pc' := 15) zi_64_12 (nput_at hb (k := 1) rfl) rfl rfl kk) ?_
    refine zev_of (fun _ kk => zr_iload_n (pc' := 16) zi_64_15 rfl rfl kk) ?_
    refine zev_of (fun _ kk => zr_atN (pc' := 19) (by omega) zi_64_16 hb rfl rfl (by decide) rfl rfl kk) ?_
    refine zev_of (fun _ kk => zr_iconst (v := (nI 0)) (pc' := 20) zi_64_19 rfl rfl kk) ?_
    refine zev_of (fun _ kk => zr_v2 (pc' := 23) zi_64_20 (nput_at hb (k := 16) rfl) rfl hk rfl kk) ?_
    refine zev_of (fun _ kk => zr_istore_n (pc' := 24) zi_64_23 (Nat.le_of_ble_eq_true rfl) rfl rfl kk) ?_
    dsimp only [zst1, zst2, zkill, List.set, List.getElem?_cons_succ, List.getElem?_cons_zero]
    refine zev_of (fun _ kk => zr_aload_n (pc' := 25) zi_64_24 rfl rfl kk) ?_
    refine zev_of (fun _ kk => zr_get (pc' := 28) zi_64_25 (nput_at hb (k := 1) rfl) rfl rfl kk) ?_
    refine zev_of (fun _ kk => zr_iload_n (pc' := 29) zi_64_28 rfl rfl kk) ?_
    refine zev_of (fun _ kk => zr_iload_n (pc' := 30) zi_64_29 rfl rfl kk) ?_
    refine zev_of (fun _ kk => zr_iconst (v := (-1)) (pc' := 31) zi_64_30 rfl rfl kk) ?_
    refine zv_icmp (pc' := 34) zi_64_31 rfl (fun h31 => ?_) (fun h31 => ?_)
    · replace h31 := zc_ne_t h31
      obtain ⟨p, hp8, rfl, hkk⟩ : ∃ p, p < 8 ∧ pl = nI p ∧ zkey F i (F 4 (i * 8 + p)) := by
        rcases hpl with ⟨e, _⟩ | q
        · exact absurd e h31
        · exact q
      refine zev_of (fun _ kk => zr_aload_n (pc' := 39) zi_64_38 rfl rfl kk) ?_
      refine zev_of (fun _ kk => zr_iload_n (pc' := 40) zi_64_39 rfl rfl kk) ?_
      refine zev_of (fun _ kk => zr_iload_n (pc' := 41) zi_64_40 rfl rfl kk) ?_
      refine zev_of (fun _ kk => zr_v2 (pc' := 44) zi_64_41 (nput_at hb (k := 1) rfl) rfl (c_wordIn hb _ _ (by omega)) rfl kk) ?_
      refine zev_of (fun _ kk => zr_rputN (pc' := 47) (rr := 6) (by omega) zi_64_44 hb rfl rfl (fun _ => rfl) (by decide) (by decide) rfl rfl kk) ?_
      refine zev_of (fun _ kk => zr_iinc (pc' := 50) zi_64_47 rfl (by first | exact n_inc _ | rfl) rfl rfl kk) ?_
      dsimp only [zst1, zst2, zkill, List.set, List.getElem?_cons_succ, List.getElem?_cons_zero]
      refine zev_of (fun _ kk => zr_goto zi_64_50 kk) ?_
      exact hz _ hkk
    · replace h31 := zc_ne_f h31
      refine zev_of (fun _ kk => zr_iconst (v := (-1)) (pc' := 35) zi_64_34 rfl rfl kk) ?_
      refine zev_of (fun _ kk => zr_goto zi_64_35 kk) ?_
      refine zev_of (fun _ kk => zr_rputN (pc' := 47) (rr := 6) (by omega) zi_64_44 hb rfl rfl (fun _ => rfl) (by decide) (by decide) rfl rfl kk) ?_
      refine zev_of (fun _ kk => zr_iinc (pc' := 50) zi_64_47 rfl (by first | exact n_inc _ | rfl) rfl rfl kk) ?_
      dsimp only [zst1, zst2, zkill, List.set, List.getElem?_cons_succ, List.getElem?_cons_zero]
      refine zev_of (fun _ kk => zr_goto zi_64_50 kk) ?_
      rcases hpl with ⟨e, q⟩ | ⟨p, hp8, e, _⟩
      · rw [h31]
        rw [h31] at hz
        exact hz _ q
      · exact absurd (e.symm.trans h31) (nI_neg (by omega))
termination_by g 0 - i
theorem c_findKeys (hb : b + 71 ≤ h.length) (F : Nat → Nat → Int32) (g : Nat → Nat) (hn : g 0 ≤ 70) (hof : ∀ i, i < g 0 → F 5 i = -1 ∨ ∃ t a, t < 20 ∧ F 5 i = nI t ∧ F 7 t = nI a ∧ a ≤ 8) : ∃ F' g', (((∀ r, r ≠ 6 → F' r = F r) ∧ ∀ j, j < g 0 → zkey F j (F' 6 j)) ∧ g' = g) ∧ zcalls zTB 64 [.ref (b + 1), .ref (b + 16)] (nput b F g h) (none, nput b F' g' h) := by
  refine zQn_out (zev_calls (Nat.le_of_ble_eq_true rfl) ?_)
  show zev 64 0 [some (.ref (b + 1)), some (.ref (b + 16)), none, none] [] _ _
  refine zev_of (fun _ kk => zr_iconst (v := (nI 0)) (pc' := 1) zi_64_0 rfl rfl kk) ?_
  refine zev_of (fun _ kk => zr_istore_n (pc' := 2) zi_64_1 (Nat.le_of_ble_eq_true rfl) rfl rfl kk) ?_
  dsimp only [zst1, zst2, zkill, List.set, List.getElem?_cons_succ, List.getElem?_cons_zero]
  refine zev_mono (l_findKeys hb F g hn hof 0 (by omega) none) ?_
  rintro q ⟨F', g', ⟨⟨k1, k2, k3⟩, k4⟩, rfl⟩
  exact ⟨F', g', ⟨⟨k1, fun j hj => k2 j (Nat.zero_le _) hj⟩, k4⟩, rfl⟩
/-- a line is added -/
def zapp (F F' : Nat → Nat → Int32) (n : Nat) (x y z : Int32) : Prop := F' 0 = upd (F 0) n x ∧ F' 1 = upd (F 1) n y ∧ F' 2 = upd (F 2) n z ∧ F' 3 = upd (F 3) n (nI 0) ∧ F' 5 = upd (F 5) n (-1) ∧ ∀ r, r ≠ 0 → r ≠ 1 → r ≠ 2 → r ≠ 3 → r ≠ 5 → F' r = F r
theorem c_append (hb : b + 71 ≤ h.length) (F : Nat → Nat → Int32) (g : Nat → Nat) (hn : g 0 < 70) (x y z : Int32) : ∃ r F' g', (r = nI (g 0) ∧ zapp F F' (g 0) x y z ∧ g' = updG g 0 (g 0 + 1)) ∧ zcalls zTB 61 [.ref (b + 1), .int x, .int y, .int z] (nput b F g h) (some (.int r), nput b F' g' h) := by
  refine zQm_out (zev_calls (Nat.le_of_ble_eq_true rfl) ?_)
  show zev 61 0 [some (.ref (b + 1)), some (.int x), some (.int y), some (.int z), none] [] _ _
  refine zev_of (fun _ kk => zr_aload_n (pc' := 1) zi_61_0 rfl rfl kk) ?_
  refine zev_of (fun _ kk => zr_get (pc' := 4) zi_61_1 (nput_at hb (k := 1) rfl) rfl rfl kk) ?_
  refine zev_of (fun _ kk => zr_istore (pc' := 6) zi_61_4 (Nat.le_of_ble_eq_true rfl) rfl rfl kk) ?_
  dsimp only [zst1, zst2, zkill, List.set, List.getElem?_cons_succ, List.getElem?_cons_zero]
  refine zev_of (fun _ kk => zr_aload_n (pc' := 7) zi_61_6 rfl rfl kk) ?_
  refine zev_of (fun _ kk => zr_get (pc' := 10) zi_61_7 (nput_at hb (k := 1) rfl) rfl rfl kk) ?_
  refine zev_of (fun _ kk => zr_iload (pc' := 12) zi_61_10 rfl rfl kk) ?_
  refine zev_of (fun _ kk => zr_iload_n (pc' := 13) zi_61_12 rfl rfl kk) ?_
  refine zev_of (fun _ kk => zr_rputN (pc' := 16) (rr := 0) (by omega) zi_61_13 hb rfl rfl (fun _ => rfl) (by decide) (by decide) rfl rfl kk) ?_
  refine zev_of (fun _ kk => zr_aload_n (pc' := 17) zi_61_16 rfl rfl kk) ?_
  refine zev_of (fun _ kk => zr_get (pc' := 20) zi_61_17 (nput_at hb (k := 1) rfl) rfl rfl kk) ?_
  refine zev_of (fun _ kk => zr_iload (pc' := 22) zi_61_20 rfl rfl kk) ?_
  refine zev_of (fun _ kk => zr_iload_n (pc' := 23) zi_61_22 rfl rfl kk) ?_
  refine zev_of (fun _ kk => zr_rputN (pc' := 26) (rr := 1) (by omega) zi_61_23 hb rfl rfl (fun _ => rfl) (by decide) (by decide) rfl rfl kk) ?_
  refine zev_of (fun _ kk => zr_aload_n (pc' := 27) zi_61_26 rfl rfl kk) ?_
  refine zev_of (fun _ kk => zr_get (pc' := 30) zi_61_27 (nput_at hb (k := 1) rfl) rfl rfl kk) ?_
  refine zev_of (fun _ kk => zr_iload (pc' := 32) zi_61_30 rfl rfl kk) ?_
  refine zev_of (fun _ kk => zr_iload_n (pc' := 33) zi_61_32 rfl rfl kk) ?_
  refine zev_of (fun _ kk => zr_rputN (pc' := 36) (rr := 2) (by omega) zi_61_33 hb rfl rfl (fun _ => rfl) (by decide) (by decide) rfl rfl kk) ?_
  refine zev_of (fun _ kk => zr_aload_n (pc' := 37) zi_61_36 rfl rfl kk) ?_
  refine zev_of (fun _ kk => zr_get (pc' := 40) zi_61_37 (nput_at hb (k := 1) rfl) rfl rfl kk) ?_
  refine zev_of (fun _ kk => zr_iload (pc' := 42) zi_61_40 rfl rfl kk) ?_
  refine zev_of (fun _ kk => zr_iconst (v := (nI 0)) (pc' := 43) zi_61_42 rfl rfl kk) ?_
  refine zev_of (fun _ kk => zr_rputN (pc' := 46) (rr := 3) (by omega) zi_61_43 hb rfl rfl (fun _ => rfl) (by decide) (by decide) rfl rfl kk) ?_
  refine zev_of (fun _ kk => zr_aload_n (pc' := 47) zi_61_46 rfl rfl kk) ?_
  refine zev_of (fun _ kk => zr_get (pc' := 50) zi_61_47 (nput_at hb (k := 1) rfl) rfl rfl kk) ?_
  refine zev_of (fun _ kk => zr_iload (pc' := 52) zi_61_50 rfl rfl kk) ?_
  refine zev_of (fun _ kk => zr_iconst (v := (-1)) (pc' := 53) zi_61_52 rfl rfl kk) ?_
  refine zev_of (fun _ kk => zr_rputN (pc' := 56) (rr := 5) (by omega) zi_61_53 hb rfl rfl (fun _ => rfl) (by decide) (by decide) rfl rfl kk) ?_
  refine zev_of (fun _ kk => zr_aload_n (pc' := 57) zi_61_56 rfl rfl kk) ?_
  refine zev_of (fun _ kk => zr_iload (pc' := 59) zi_61_57 rfl rfl kk) ?_
  refine zev_of (fun _ kk => zr_iconst (v := (nI 1)) (pc' := 60) zi_61_59 rfl rfl kk) ?_
  refine zev_of (fun _ kk => zr_iadd (pc' := 61) zi_61_60 (by first | exact nI_add _ _ | rfl) rfl kk) ?_
  refine zev_of (fun _ kk => zr_put (pc' := 64) zi_61_61 (by omega) (nput_at hb (k := 1) rfl) (Nat.le_of_ble_eq_true rfl) rfl rfl (nput_set (g' := updG _ 0 (_)) hb (by decide) rfl) kk) ?_
  refine zev_of (fun _ kk => zr_iload (pc' := 66) zi_61_64 rfl rfl kk) ?_
  refine zev_ret (zr_ireturn zi_61_66 rfl) ?_
  refine ⟨_, _, _, ⟨rfl, ⟨rfl, rfl, rfl, rfl, rfl, fun r h1 h2 h3 h4 h5 => ?_⟩, rfl⟩, rfl⟩
  rw [updR_ne h5, updR_ne h4, updR_ne h3, updR_ne h2, updR_ne h1]
theorem c_appendWord (hb : b + 71 ≤ h.length) (F : Nat → Nat → Int32) (g : Nat → Nat) (l c : Nat) (w : Int32) (hl : l < 70) (hc : F 3 l = nI c) (hc8 : c < 8) : zcalls zTB 62 [.ref (b + 1), .int (nI l), .int w] (nput b F g h) (some (.int (nI (c + 1))), nput b (updR (updR F 4 (upd (F 4) (l * 8 + c) w)) 3 (upd (F 3) l (nI (c + 1)))) g h) := by
  refine zcalls_of (Nat.le_of_ble_eq_true rfl) ?_
  show zruns zTB 62 0 [some (.ref (b + 1)), some (.int (nI l)), some (.int w), none] [] _ _
  refine zr_aload_n (pc' := 1) zi_62_0 rfl rfl ?_
  refine zr_get (pc' := 4) zi_62_1 (nput_at hb (k := 1) rfl) rfl rfl ?_
  refine zr_iload_n (pc' := 5) zi_62_4 rfl rfl ?_
  refine zr_atN (pc' := 8) (by omega) zi_62_5 hb rfl rfl (by decide) rfl rfl ?_
  rw [hc]
  refine zr_istore_n (pc' := 9) zi_62_8 (Nat.le_of_ble_eq_true rfl) rfl rfl ?_
  dsimp only [zst1, zst2, zkill, List.set, List.getElem?_cons_succ, List.getElem?_cons_zero]
  refine zr_aload_n (pc' := 10) zi_62_9 rfl rfl ?_
  refine zr_get (pc' := 13) zi_62_10 (nput_at hb (k := 1) rfl) rfl rfl ?_
  refine zr_iload_n (pc' := 14) zi_62_13 rfl rfl ?_
  refine zr_bipush (v := (nI 8)) (pc' := 16) zi_62_14 rfl rfl ?_
  refine zr_imul (pc' := 17) zi_62_16 (by first | exact pk_mul _ _ | rfl) rfl ?_
  refine zr_iload_n (pc' := 18) zi_62_17 rfl rfl ?_
  refine zr_iadd (pc' := 19) zi_62_18 (by first | exact nI_add _ _ | rfl) rfl ?_
  refine zr_iload_n (pc' := 20) zi_62_19 rfl rfl ?_
  refine zr_rputN (pc' := 23) (rr := 4) (by omega) zi_62_20 hb rfl rfl (fun _ => rfl) (by decide) (by decide) rfl rfl ?_
  refine zr_aload_n (pc' := 24) zi_62_23 rfl rfl ?_
  refine zr_get (pc' := 27) zi_62_24 (nput_at hb (k := 1) rfl) rfl rfl ?_
  refine zr_iload_n (pc' := 28) zi_62_27 rfl rfl ?_
  refine zr_iload_n (pc' := 29) zi_62_28 rfl rfl ?_
  refine zr_iconst (v := (nI 1)) (pc' := 30) zi_62_29 rfl rfl ?_
  refine zr_iadd (pc' := 31) zi_62_30 (by first | exact nI_add _ _ | rfl) rfl ?_
  refine zr_rputN (pc' := 34) (rr := 3) (by omega) zi_62_31 hb rfl rfl (fun _ => rfl) (by decide) (by decide) rfl rfl ?_
  refine zr_iload_n (pc' := 35) zi_62_34 rfl rfl ?_
  refine zr_iconst (v := (nI 1)) (pc' := 36) zi_62_35 rfl rfl ?_
  refine zr_iadd (pc' := 37) zi_62_36 (by first | exact nI_add _ _ | rfl) rfl ?_
  exact zr_ireturn zi_62_37 rfl
end


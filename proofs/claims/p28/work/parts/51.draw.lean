theorem zi_4_0 : zI 4 0 = some (.aload_n 0, []) := by decide +kernel
theorem zi_4_1 : zI 4 1 = some (.getfield 31, [7, 1, 33]) := by decide +kernel
theorem zi_4_4 : zI 4 4 = some (.aload_n 0, []) := by decide +kernel
theorem zi_4_5 : zI 4 5 = some (.getfield 34, [7, 2, 34]) := by decide +kernel
theorem zi_4_8 : zI 4 8 = some (.bipush 24, []) := by decide +kernel
theorem zi_4_10 : zI 4 10 = some (.irem, []) := by decide +kernel
theorem zi_4_11 : zI 4 11 = some (.invokestatic 38, [100, 1, 2, 0, 36, 0, 37, 35, 1, 0]) := by decide +kernel
theorem zi_4_14 : zI 4 14 = some (.aload_n 0, []) := by decide +kernel
theorem zi_4_15 : zI 4 15 = some (.getfield 34, [7, 2, 34]) := by decide +kernel
theorem zi_4_18 : zI 4 18 = some (.bipush 24, []) := by decide +kernel
theorem zi_4_20 : zI 4 20 = some (.idiv, []) := by decide +kernel
theorem zi_4_21 : zI 4 21 = some (.bipush 8, []) := by decide +kernel
theorem zi_4_23 : zI 4 23 = some (.irem, []) := by decide +kernel
theorem zi_4_24 : zI 4 24 = some (.ishr, []) := by decide +kernel
theorem zi_4_25 : zI 4 25 = some (.sipush 139, []) := by decide +kernel
theorem zi_4_28 : zI 4 28 = some (.aload_n 0, []) := by decide +kernel
theorem zi_4_29 : zI 4 29 = some (.getfield 34, [7, 2, 34]) := by decide +kernel
theorem zi_4_32 : zI 4 32 = some (.imul, []) := by decide +kernel
theorem zi_4_33 : zI 4 33 = some (.iadd, []) := by decide +kernel
theorem zi_4_34 : zI 4 34 = some (.iload_n 1, []) := by decide +kernel
theorem zi_4_35 : zI 4 35 = some (.invokestatic 44, [99, 1, 2, 0, 39, 0, 37, 38, 1, 1]) := by decide +kernel
theorem zi_4_38 : zI 4 38 = some (.istore_n 2, []) := by decide +kernel
theorem zi_4_39 : zI 4 39 = some (.aload_n 0, []) := by decide +kernel
theorem zi_4_40 : zI 4 40 = some (.dup, []) := by decide +kernel
theorem zi_4_41 : zI 4 41 = some (.getfield 34, [7, 2, 34]) := by decide +kernel
theorem zi_4_44 : zI 4 44 = some (.iconst 1, []) := by decide +kernel
theorem zi_4_45 : zI 4 45 = some (.iadd, []) := by decide +kernel
theorem zi_4_46 : zI 4 46 = some (.putfield 34, [7, 2, 0, 34]) := by decide +kernel
theorem zi_4_49 : zI 4 49 = some (.iload_n 2, []) := by decide +kernel
theorem zi_4_50 : zI 4 50 = some (.ireturn, []) := by decide +kernel
theorem zi_22_0 : zI 22 0 = some (.aload_n 1, []) := by decide +kernel
theorem zi_22_1 : zI 22 1 = some (.arraylength, []) := by decide +kernel
theorem zi_22_2 : zI 22 2 = some (.aload_n 0, []) := by decide +kernel
theorem zi_22_3 : zI 22 3 = some (.arraylength, []) := by decide +kernel
theorem zi_22_4 : zI 22 4 = some (.iconst 3, []) := by decide +kernel
theorem zi_22_5 : zI 22 5 = some (.isub, []) := by decide +kernel
theorem zi_22_6 : zI 22 6 = some (.if_icmp .eq 5, [11]) := by decide +kernel
theorem zi_22_9 : zI 22 9 = some (.iconst (-1), []) := by decide +kernel
theorem zi_22_10 : zI 22 10 = some (.ireturn, []) := by decide +kernel
theorem zi_22_11 : zI 22 11 = some (.iconst 0, []) := by decide +kernel
theorem zi_22_12 : zI 22 12 = some (.istore_n 2, []) := by decide +kernel
theorem zi_22_13 : zI 22 13 = some (.iconst 0, []) := by decide +kernel
theorem zi_22_14 : zI 22 14 = some (.istore_n 3, []) := by decide +kernel
theorem zi_22_15 : zI 22 15 = some (.iload_n 3, []) := by decide +kernel
theorem zi_22_16 : zI 22 16 = some (.aload_n 1, []) := by decide +kernel
theorem zi_22_17 : zI 22 17 = some (.arraylength, []) := by decide +kernel
theorem zi_22_18 : zI 22 18 = some (.if_icmp .ge 28, [46]) := by decide +kernel
theorem zi_22_21 : zI 22 21 = some (.iload_n 2, []) := by decide +kernel
theorem zi_22_22 : zI 22 22 = some (.aload_n 1, []) := by decide +kernel
theorem zi_22_23 : zI 22 23 = some (.iload_n 3, []) := by decide +kernel
theorem zi_22_24 : zI 22 24 = some (.iaload, []) := by decide +kernel
theorem zi_22_25 : zI 22 25 = some (.aload_n 0, []) := by decide +kernel
theorem zi_22_26 : zI 22 26 = some (.iconst 3, []) := by decide +kernel
theorem zi_22_27 : zI 22 27 = some (.iload_n 3, []) := by decide +kernel
theorem zi_22_28 : zI 22 28 = some (.iadd, []) := by decide +kernel
theorem zi_22_29 : zI 22 29 = some (.iaload, []) := by decide +kernel
theorem zi_22_30 : zI 22 30 = some (.if_icmp .ne 7, [37]) := by decide +kernel
theorem zi_22_33 : zI 22 33 = some (.iconst 1, []) := by decide +kernel
theorem zi_22_34 : zI 22 34 = some (.goto 4, [38]) := by decide +kernel
theorem zi_22_37 : zI 22 37 = some (.iconst 0, []) := by decide +kernel
theorem zi_22_38 : zI 22 38 = some (.iadd, []) := by decide +kernel
theorem zi_22_39 : zI 22 39 = some (.istore_n 2, []) := by decide +kernel
theorem zi_22_40 : zI 22 40 = some (.iinc 3 1, []) := by decide +kernel
theorem zi_22_43 : zI 22 43 = some (.goto (-28), [15]) := by decide +kernel
theorem zi_22_46 : zI 22 46 = some (.iload_n 2, []) := by decide +kernel
theorem zi_22_47 : zI 22 47 = some (.ireturn, []) := by decide +kernel
theorem zi_45_0 : zI 45 0 = some (.aload_n 0, []) := by decide +kernel
theorem zi_45_1 : zI 45 1 = some (.arraylength, []) := by decide +kernel
theorem zi_45_2 : zI 45 2 = some (.iconst 1, []) := by decide +kernel
theorem zi_45_3 : zI 45 3 = some (.iadd, []) := by decide +kernel
theorem zi_45_4 : zI 45 4 = some (.anewarray 16, [3, 257]) := by decide +kernel
theorem zi_45_7 : zI 45 7 = some (.astore_n 2, []) := by decide +kernel
theorem zi_45_8 : zI 45 8 = some (.aload_n 0, []) := by decide +kernel
theorem zi_45_9 : zI 45 9 = some (.iconst 0, []) := by decide +kernel
theorem zi_45_10 : zI 45 10 = some (.aload_n 2, []) := by decide +kernel
theorem zi_45_11 : zI 45 11 = some (.iconst 0, []) := by decide +kernel
theorem zi_45_12 : zI 45 12 = some (.aload_n 0, []) := by decide +kernel
theorem zi_45_13 : zI 45 13 = some (.arraylength, []) := by decide +kernel
theorem zi_45_14 : zI 45 14 = some (.invokestatic 48, [0, 3, 258, 259, 260, 261]) := by decide +kernel
theorem zi_45_17 : zI 45 17 = some (.aload_n 2, []) := by decide +kernel
theorem zi_45_18 : zI 45 18 = some (.aload_n 0, []) := by decide +kernel
theorem zi_45_19 : zI 45 19 = some (.arraylength, []) := by decide +kernel
theorem zi_45_20 : zI 45 20 = some (.aload_n 1, []) := by decide +kernel
theorem zi_45_21 : zI 45 21 = some (.aastore, []) := by decide +kernel
theorem zi_45_22 : zI 45 22 = some (.aload_n 2, []) := by decide +kernel
theorem zi_45_23 : zI 45 23 = some (.areturn, []) := by decide +kernel
theorem zi_99_0 : zI 99 0 = some (.iload_n 0, []) := by decide +kernel
theorem zi_99_1 : zI 99 1 = some (.ldc 7, [2147483647, 503]) := by decide +kernel
theorem zi_99_3 : zI 99 3 = some (.iand, []) := by decide +kernel
theorem zi_99_4 : zI 99 4 = some (.iload_n 1, []) := by decide +kernel
theorem zi_99_5 : zI 99 5 = some (.irem, []) := by decide +kernel
theorem zi_99_6 : zI 99 6 = some (.ireturn, []) := by decide +kernel
theorem zi_100_0 : zI 100 0 = some (.iload_n 1, []) := by decide +kernel
theorem zi_100_1 : zI 100 1 = some (.aload_n 0, []) := by decide +kernel
theorem zi_100_2 : zI 100 2 = some (.arraylength, []) := by decide +kernel
theorem zi_100_3 : zI 100 3 = some (.if_icmp .ge 9, [12]) := by decide +kernel
theorem zi_100_6 : zI 100 6 = some (.aload_n 0, []) := by decide +kernel
theorem zi_100_7 : zI 100 7 = some (.iload_n 1, []) := by decide +kernel
theorem zi_100_8 : zI 100 8 = some (.iaload, []) := by decide +kernel
theorem zi_100_9 : zI 100 9 = some (.goto 9, [18]) := by decide +kernel
theorem zi_100_12 : zI 100 12 = some (.ldc 8, [790386105, 504]) := by decide +kernel
theorem zi_100_14 : zI 100 14 = some (.iload_n 1, []) := by decide +kernel
theorem zi_100_15 : zI 100 15 = some (.iconst 3, []) := by decide +kernel
theorem zi_100_16 : zI 100 16 = some (.iadd, []) := by decide +kernel
theorem zi_100_17 : zI 100 17 = some (.imul, []) := by decide +kernel
theorem zi_100_18 : zI 100 18 = some (.ireturn, []) := by decide +kernel
/-! the Owl: draws, rows, likeness -/
theorem and_nn (v : Int32) : ¬ (v &&& nI 2147483647) < 0 := by
  intro h
  have h2 : (v &&& nI 2147483647).toInt < 0 := Int32.lt_iff_toInt_lt.mp h
  have h3 : (v &&& nI 2147483647).toBitVec.msb = true := BitVec.msb_eq_toInt.trans (decide_eq_true h2)
  rw [show (v &&& nI 2147483647).toBitVec = v.toBitVec &&& (nI 2147483647).toBitVec from rfl, BitVec.msb_and] at h3
  rw [show (nI 2147483647).toBitVec.msb = false by decide, Bool.and_false] at h3
  cases h3
section
variable {H : zH}
theorem c_below (v : Int32) (n : Nat) (h0 : 0 < n) (hn : n < 2 ^ 31) : ∃ k, k < n ∧ zcalls zTB 99 [.int v, .int (nI n)] H (some (.int (nI k)), H) := by
  obtain ⟨j, hj, e⟩ := nI_of (and_nn v)
  refine ⟨j % n, Nat.mod_lt _ h0, ?_⟩
  refine zcalls_of (Nat.le_of_ble_eq_true rfl) ?_
  show zruns zTB 99 0 [some (.int v), some (.int (nI n))] [] _ _
  have hrm := pk_rem hj h0 hn
  refine zr_iload_n (pc' := 1) zi_99_0 rfl rfl ?_
  refine zr_ldc (v := (nI 2147483647)) (pc' := 3) zi_99_1 rfl rfl ?_
  refine zr_iand (pc' := 4) zi_99_3 rfl rfl ?_
  rw [e]
  refine zr_iload_n (pc' := 5) zi_99_4 rfl rfl ?_
  refine zr_irem (pc' := 6) zi_99_5 (nI_ne0 h0 hn) hrm rfl ?_
  exact zr_ireturn zi_99_6 rfl
theorem c_cell (L : Nat) (f : Nat → Int32) (h1 : H[0]? = some (zri L f)) (hL : L < 2 ^ 31) (k : Nat) (hk : k < 2 ^ 31) : ∃ v, zcalls zTB 100 [.ref 0, .int (nI k)] H (some (.int v), H) := by
  have hz : ∃ q, (fun q : zR => ∃ v, q = (some (.int v), H)) q ∧ zcalls zTB 100 [.ref 0, .int (nI k)] H q := by
    refine zev_calls (Nat.le_of_ble_eq_true rfl) ?_
    show zev 100 0 [some (.ref 0), some (.int (nI k))] [] _ _
    refine zev_of (fun _ kk => zr_iload_n (pc' := 1) zi_100_0 rfl rfl kk) ?_
    refine zev_of (fun _ kk => zr_aload_n (pc' := 2) zi_100_1 rfl rfl kk) ?_
    refine zev_of (fun _ kk => zr_alen (v := nI L) (pc' := 3) zi_100_2 h1 rfl rfl kk) ?_
    refine zv_icmp (pc' := 6) zi_100_3 rfl (fun h3 => ?_) (fun h3 => ?_)
    · replace h3 := zc_ge_t (by omega) (by omega) h3
      refine zev_of (fun _ kk => zr_ldc (v := (nI 790386105)) (pc' := 14) zi_100_12 rfl rfl kk) ?_
      refine zev_of (fun _ kk => zr_iload_n (pc' := 15) zi_100_14 rfl rfl kk) ?_
      refine zev_of (fun _ kk => zr_iconst (v := (nI 3)) (pc' := 16) zi_100_15 rfl rfl kk) ?_
      refine zev_of (fun _ kk => zr_iadd (pc' := 17) zi_100_16 (by first | exact nI_add _ _ | rfl) rfl kk) ?_
      refine zev_of (fun _ kk => zr_imul (pc' := 18) zi_100_17 (by first | exact pk_mul _ _ | rfl) rfl kk) ?_
      refine zev_ret (zr_ireturn zi_100_18 rfl) ?_
      exact ⟨_, rfl⟩
    · replace h3 := zc_ge_f (by omega) (by omega) h3
      refine zev_of (fun _ kk => zr_aload_n (pc' := 7) zi_100_6 rfl rfl kk) ?_
      refine zev_of (fun _ kk => zr_iload_n (pc' := 8) zi_100_7 rfl rfl kk) ?_
      refine zev_of (fun _ kk => zr_iald (pc' := 9) zi_100_8 h1 (nI_in (by omega) hL) rfl rfl kk) ?_
      refine zev_of (fun _ kk => zr_goto zi_100_9 kk) ?_
      refine zev_ret (zr_ireturn zi_100_18 rfl) ?_
      exact ⟨_, rfl⟩
  obtain ⟨_, ⟨v, rfl⟩, hc⟩ := hz
  exact ⟨v, hc⟩
end
section
variable {o : Nat} {h : zH} {A : Nat → Nat → Int32} {nl nm nT sh gp wi bk rl rt e u d : Nat} {F : Nat → Nat → Int32} {g : Nat → Nat}
theorem c_draw (w : zOw o h A nl nm nT sh gp wi bk rl rt e u d) (hd : d < 2 ^ 30) (n : Nat) (h0 : 0 < n) (hn : n < 2 ^ 31) : ∃ k h', k < n ∧ zOw o h' A nl nm nT sh gp wi bk rl rt e u (d + 1) ∧ (h'.length = h.length ∧ ∀ i, i ≠ o → h'[i]? = h[i]?) ∧ zcalls zTB 4 [.ref o, .int (nI n)] (nput (o + 1) F g h) (some (.int (nI k)), nput (o + 1) F g h') := by
  have hb := w.hb
  have ho := w.o1
  obtain ⟨dr, hdr, hO⟩ := w.ob
  obtain ⟨L, f, hs1, hs2⟩ := w.sc
  have hol : o < h.length := by omega
  obtain ⟨cv, hcell⟩ := c_cell (H := nput (o + 1) F g h) L f (zo_at hb hs1 (.inl (by omega))) (by omega) (dr % 24) (by omega)
  obtain ⟨k, hk, hbel⟩ := c_below (H := nput (o + 1) F g h) (cv >>> (nI (dr / 24 % 8) &&& 31) + nI (139 * dr)) n h0 hn
  refine ⟨k, h.set o (zow o (dr + 1) rl nm rt), hk, ?_, ⟨List.length_set, fun i hi => List.getElem?_set_ne (Ne.symm hi)⟩, ?_⟩
  · refine zOw_fr w (fun i _ hi => List.getElem?_set_ne (Ne.symm hi)) ⟨dr + 1, by omega, List.getElem?_set_self hol⟩ (by rw [List.length_set]; exact Nat.le_refl _) ?_ zAg_rf
    rw [List.length_set, zss_set h o _ (zow o (dr + 1) rl nm rt) hO rfl]
    exact w.bu
  · refine zcalls_of (Nat.le_of_ble_eq_true rfl) ?_
    show zruns zTB 4 0 [some (.ref o), some (.int (nI n)), none] [] _ _
    refine zr_aload_n (pc' := 1) zi_4_0 rfl rfl ?_
    refine zo_get (pc' := 4) zi_4_1 hb hO rfl rfl ?_
    refine zr_aload_n (pc' := 5) zi_4_4 rfl rfl ?_
    refine zo_get (pc' := 8) zi_4_5 hb hO rfl rfl ?_
    refine zr_bipush (v := (nI 24)) (pc' := 10) zi_4_8 rfl rfl ?_
    have hrm : nI dr - nI dr / nI 24 * nI 24 = nI (dr % 24) := pk_rem (by omega) (by omega) (by omega)
    refine zr_irem (pc' := 11) zi_4_10 (by decide) hrm rfl ?_
    refine zr_s2 (pc' := 14) zi_4_11 rfl hcell rfl ?_
    refine zr_aload_n (pc' := 15) zi_4_14 rfl rfl ?_
    refine zo_get (pc' := 18) zi_4_15 hb hO rfl rfl ?_
    refine zr_bipush (v := (nI 24)) (pc' := 20) zi_4_18 rfl rfl ?_
    have hdv : nI dr / nI 24 = nI (dr / 24) := pk_div (by omega) (by omega) (by omega)
    refine zr_idiv (pc' := 21) zi_4_20 (by decide) hdv rfl ?_
    refine zr_bipush (v := (nI 8)) (pc' := 23) zi_4_21 rfl rfl ?_
    have hrm : nI (dr / 24) - nI (dr / 24) / nI 8 * nI 8 = nI (dr / 24 % 8) := pk_rem (by omega) (by omega) (by omega)
    refine zr_irem (pc' := 24) zi_4_23 (by decide) hrm rfl ?_
    refine zr_ishr (pc' := 25) zi_4_24 rfl rfl ?_
    refine zr_sipush (v := (nI 139)) (pc' := 28) zi_4_25 rfl rfl ?_
    refine zr_aload_n (pc' := 29) zi_4_28 rfl rfl ?_
    refine zo_get (pc' := 32) zi_4_29 hb hO rfl rfl ?_
    refine zr_imul (pc' := 33) zi_4_32 (by first | exact pk_mul _ _ | rfl) rfl ?_
    refine zr_iadd (pc' := 34) zi_4_33 rfl rfl ?_
    refine zr_iload_n (pc' := 35) zi_4_34 rfl rfl ?_
    refine zr_s2 (pc' := 38) zi_4_35 rfl hbel rfl ?_
    refine zr_istore_n (pc' := 39) zi_4_38 (Nat.le_of_ble_eq_true rfl) rfl rfl ?_
    dsimp only [zst1, zst2, zkill, List.set, List.getElem?_cons_succ, List.getElem?_cons_zero]
    refine zr_aload_n (pc' := 40) zi_4_39 rfl rfl ?_
    refine zr_dup (pc' := 41) zi_4_40 rfl rfl ?_
    refine zo_get (pc' := 44) zi_4_41 hb hO rfl rfl ?_
    refine zr_iconst (v := (nI 1)) (pc' := 45) zi_4_44 rfl rfl ?_
    refine zr_iadd (pc' := 46) zi_4_45 (by first | exact nI_add _ _ | rfl) rfl ?_
    refine zo_put (pc' := 49) zi_4_46 hb ho hO (Nat.le_of_ble_eq_true rfl) rfl rfl rfl ?_
    refine zr_iload_n (pc' := 50) zi_4_49 rfl rfl ?_
    exact zr_ireturn zi_4_50 rfl
end
section
variable {y pc pc' : Nat} {L : zL} {st : List Value} {h : zH} {r : zR} {ax : List Nat}
theorem zcp_cond {x z w : Int32} {a b c : Nat} {st : List Value} (h1 : x = nI a) (h2 : z = nI b) (h3 : w = nI c) (ha : a < 2 ^ 31) (hb : b < 2 ^ 31) (hc : c < 2 ^ 31) {i d : Nat} (hid : i ≠ d) (hs : zcat8 st = true) : ¬ (x < 0 ∨ z < 0 ∨ w < 0 ∨ i = d ∨ 8 < (st.map fun v => v.category).sum) := by
  subst h1
  subst h2
  subst h3
  have := zcat8_le hs
  rintro (q | q | q | q | q)
  · exact nI_pos ha q
  · exact nI_pos hb q
  · exact nI_pos hc q
  · exact hid q
  · omega
/-- System.arraycopy of numbers, of rows -/
theorem zo_cpy {ix z i d n sp dp n0 n1 : Nat} {f f2 : Nat → Int32} (hI : zI y pc = some (.invokestatic ix, z :: 3 :: ax)) (hi : 1 ≤ i) (hd : 1 ≤ d) (hid : i ≠ d) (hn : n < 2 ^ 31) (hsp : sp < 2 ^ 31) (hdp : dp < 2 ^ 31) (h1 : h[i]? = some (zri n0 f)) (h2 : h[d]? = some (zri n1 f2)) (hl : sp + n ≤ n0 ∧ dp + n ≤ n1) (hs : zcat8 st = true) (hp : pc + 3 = pc') (k : zruns zTB y pc' L st (h.set d (zri n1 (va_cpy f f2 sp dp n))) r) : zruns zTB y pc L (.int (nI n) :: .int (nI dp) :: .ref d :: .int (nI sp) :: .ref i :: st) h r := by
  obtain ⟨i, rfl⟩ : ∃ m, i = m + 1 := ⟨i - 1, by omega⟩
  obtain ⟨d, rfl⟩ : ∃ m, d = m + 1 := ⟨d - 1, by omega⟩
  refine zruns_step hI (fun C => ?_) k
  subst hp
  show zcopy pc L (.int (nI n) :: .int (nI dp) :: .ref (d + 1) :: .int (nI sp) :: .ref (i + 1) :: st) h = _
  simp only [zcopy, if_neg (zcp_cond (x := nI n) (z := nI dp) (w := nI sp) (i := i) (d := d) rfl rfl rfl hn hdp hsp (by omega) hs), h1, h2, nI_clamp hn, nI_clamp hsp, nI_clamp hdp, if_pos hl, zgo]
theorem zo_cpr {ix z i d n sp dp n0 n1 : Nat} {f f2 : Nat → Option Nat} (hI : zI y pc = some (.invokestatic ix, z :: 3 :: ax)) (hi : 1 ≤ i) (hd : 1 ≤ d) (hid : i ≠ d) (hn : n < 2 ^ 31) (hsp : sp < 2 ^ 31) (hdp : dp < 2 ^ 31) (h1 : h[i]? = some (zrr n0 f)) (h2 : h[d]? = some (zrr n1 f2)) (hl : sp + n ≤ n0 ∧ dp + n ≤ n1) (hz : ∀ j, j < n → zrow h (f (sp + j)) = true) (hs : zcat8 st = true) (hp : pc + 3 = pc') (k : zruns zTB y pc' L st (h.set d (zrr n1 (va_cpy f f2 sp dp n))) r) : zruns zTB y pc L (.int (nI n) :: .int (nI dp) :: .ref d :: .int (nI sp) :: .ref i :: st) h r := by
  obtain ⟨i, rfl⟩ : ∃ m, i = m + 1 := ⟨i - 1, by omega⟩
  obtain ⟨d, rfl⟩ : ∃ m, d = m + 1 := ⟨d - 1, by omega⟩
  refine zruns_step hI (fun C => ?_) k
  subst hp
  have hall : (List.range n).all (fun j => zrow h (f (sp + j))) = true := List.all_eq_true.mpr fun j hj => hz j (List.mem_range.mp hj)
  have hl3 : sp + n ≤ n0 ∧ dp + n ≤ n1 ∧ (List.range n).all (fun j => zrow h (f (sp + j))) = true := ⟨hl.1, hl.2, hall⟩
  show zcopy pc L (.int (nI n) :: .int (nI dp) :: .ref (d + 1) :: .int (nI sp) :: .ref (i + 1) :: st) h = _
  simp only [zcopy, if_neg (zcp_cond (x := nI n) (z := nI dp) (w := nI sp) (i := i) (d := d) rfl rfl rfl hn hdp hsp (by omega) hs), h1, h2, nI_clamp hn, nI_clamp hsp, nI_clamp hdp, if_pos hl3, zgo]
end
section
variable {H : zH}
theorem zrow_of {q n : Nat} {f : Nat → Int32} (h1 : 1 ≤ q) (h : H[q]? = some (zri n f)) : zrow H (some q) = true := by
  obtain ⟨m, rfl⟩ : ∃ m, q = m + 1 := ⟨q - 1, by omega⟩
  simp only [zrow, h]
theorem c_with (ra n p m : Nat) (f : Nat → Option Nat) (f2 : Nat → Int32) (hra : 1 ≤ ra) (hp : 1 ≤ p) (hn : n ≤ 1000) (h1 : H[ra]? = some (zrr n f)) (h2 : H[p]? = some (zri m f2)) (h3 : ∀ i, i < n → ∃ p', f i = some p' ∧ 1 ≤ p' ∧ ∃ m f2, H[p']? = some (zri m f2)) : ∃ G, (∀ i, i < n → G i = f i) ∧ G n = some p ∧ zcalls zTB 45 [.ref ra, .ref p] H (some (.ref H.length), H ++ [zrr (n + 1) G]) := by
  have hl1 : ra < H.length := (List.getElem?_eq_some_iff.mp h1).1
  have hl2 : p < H.length := (List.getElem?_eq_some_iff.mp h2).1
  refine ⟨va_up (va_cpy f (fun _ => none) 0 0 n) n (some p), fun i hi => ?_, va_up_self _ _ _, ?_⟩
  · rw [va_up_ne _ _ (by omega)]
    unfold va_cpy
    rw [if_pos (by omega)]
    congr 1
    omega
  have k1 : ∀ e : zE, (H ++ [e])[ra]? = some (zrr n f) := fun e => by rw [List.getElem?_append_left hl1]; exact h1
  have k2 : ∀ e : zE, (H ++ [e])[p]? = some (zri m f2) := fun e => by rw [List.getElem?_append_left hl2]; exact h2
  have k3 : ∀ e : zE, (H ++ [e])[H.length]? = some e := fun e => by rw [List.getElem?_append_right (Nat.le_refl _), Nat.sub_self]; rfl
  refine zcalls_of (Nat.le_of_ble_eq_true rfl) ?_
  show zruns zTB 45 0 [some (.ref ra), some (.ref p), none] [] _ _
  refine zr_aload_n (pc' := 1) zi_45_0 rfl rfl ?_
  refine zr_alen (v := nI n) (pc' := 2) zi_45_1 h1 rfl rfl ?_
  refine zr_iconst (v := (nI 1)) (pc' := 3) zi_45_2 rfl rfl ?_
  refine zr_iadd (pc' := 4) zi_45_3 (by first | exact nI_add _ _ | rfl) rfl ?_
  refine zr_anewa (n := H.length) (N := n + 1) (pc' := 7) zi_45_4 (nI_pos (by omega)) (nI_clamp (by omega)) (by omega) rfl rfl ?_
  refine zr_astore_n (pc' := 8) zi_45_7 (Nat.le_of_ble_eq_true rfl) rfl rfl ?_
  dsimp only [zst1, zst2, zkill, List.set, List.getElem?_cons_succ, List.getElem?_cons_zero]
  refine zr_aload_n (pc' := 9) zi_45_8 rfl rfl ?_
  refine zr_iconst (v := (nI 0)) (pc' := 10) zi_45_9 rfl rfl ?_
  refine zr_aload_n (pc' := 11) zi_45_10 rfl rfl ?_
  refine zr_iconst (v := (nI 0)) (pc' := 12) zi_45_11 rfl rfl ?_
  refine zr_aload_n (pc' := 13) zi_45_12 rfl rfl ?_
  refine zr_alen (v := nI n) (pc' := 14) zi_45_13 (k1 _) rfl rfl ?_
  refine zo_cpr (n := n) (sp := 0) (dp := 0) (pc' := 17) zi_45_14 hra (by omega) (by omega) (by omega) (by omega) (by omega) (k1 _) (k3 _) (by omega) (fun j hj => by obtain ⟨p', e1, e2, m', f', e3⟩ := h3 j hj; rw [show 0 + j = j by omega, e1]; exact zrow_of e2 (by rw [List.getElem?_append_left (List.getElem?_eq_some_iff.mp e3).1]; exact e3)) rfl rfl ?_
  rw [set_last]
  refine zr_aload_n (pc' := 18) zi_45_17 rfl rfl ?_
  refine zr_aload_n (pc' := 19) zi_45_18 rfl rfl ?_
  refine zr_alen (v := nI n) (pc' := 20) zi_45_19 (k1 _) rfl rfl ?_
  refine zr_aload_n (pc' := 21) zi_45_20 rfl rfl ?_
  refine zr_aast (h' := H ++ [zrr (n + 1) (va_up (va_cpy f (fun _ => none) 0 0 n) n (some p))]) (pc' := 22) zi_45_21 (by omega) hp (k3 _) (k2 _) (nI_in (by omega) (by omega)) rfl (by rw [nI_clamp (by omega), set_last]) ?_
  refine zr_aload_n (pc' := 23) zi_45_22 rfl rfl ?_
  exact zr_areturn zi_45_23 rfl
theorem l_oalike {A : Nat → Nat → Int32} (l t c a p q : Nat) (f f2 : Nat → Int32) (h1 : H[p]? = some (zri (3 + c) f)) (h2 : H[q]? = some (zri a f2)) (hc : c ≤ 8) (e : a = c) (e4 : ∀ k, k < c → f (3 + k) = A 4 (l * 8 + k)) (e8 : ∀ k, k < a → f2 k = A 8 (t * 8 + k)) (k : Nat) (hk : k ≤ a) : zruns zTB 22 15 [some (.ref p), some (.ref q), some (.int (nI (zsm A l t k))), some (.int (nI k))] [] H (some (.int (nI (zsm A l t a))), H) := by
  refine zr_iload_n (pc' := 16) zi_22_15 rfl rfl ?_
  refine zr_aload_n (pc' := 17) zi_22_16 rfl rfl ?_
  refine zr_alen (v := nI a) (pc' := 18) zi_22_17 h2 rfl rfl ?_
  refine zr_icmp (pc' := 21) zi_22_18 rfl (fun h18 => ?_) (fun h18 => ?_)
  · replace h18 := zc_ge_t (by omega) (by omega) h18
    refine zr_iload_n (pc' := 47) zi_22_46 rfl rfl ?_
    rw [show a = k by omega]
    exact zr_ireturn zi_22_47 rfl
  · replace h18 := zc_ge_f (by omega) (by omega) h18
    refine zr_iload_n (pc' := 22) zi_22_21 rfl rfl ?_
    refine zr_aload_n (pc' := 23) zi_22_22 rfl rfl ?_
    refine zr_iload_n (pc' := 24) zi_22_23 rfl rfl ?_
    refine zr_iald (v := A 8 (t * 8 + k)) (pc' := 25) zi_22_24 h2 (nI_in (by omega) (by omega)) (by rw [nI_clamp (by omega)]; exact e8 k (by omega)) rfl ?_
    refine zr_aload_n (pc' := 26) zi_22_25 rfl rfl ?_
    refine zr_iconst (v := (nI 3)) (pc' := 27) zi_22_26 rfl rfl ?_
    refine zr_iload_n (pc' := 28) zi_22_27 rfl rfl ?_
    refine zr_iadd (pc' := 29) zi_22_28 (by first | exact nI_add _ _ | rfl) rfl ?_
    refine zr_iald (v := A 4 (l * 8 + k)) (pc' := 30) zi_22_29 h1 (nI_in (by omega) (by omega)) (by rw [nI_clamp (by omega)]; exact e4 k (by omega)) rfl ?_
    refine zr_icmp (pc' := 33) zi_22_30 rfl (fun h30 => ?_) (fun h30 => ?_)
    · replace h30 := zc_ne_t h30
      refine zr_iconst (v := (nI 0)) (pc' := 38) zi_22_37 rfl rfl ?_
      refine zr_iadd (pc' := 39) zi_22_38 (by first | exact nI_add _ _ | rfl) rfl ?_
      refine zr_istore_n (pc' := 40) zi_22_39 (Nat.le_of_ble_eq_true rfl) rfl rfl ?_
      dsimp only [zst1, zst2, zkill, List.set, List.getElem?_cons_succ, List.getElem?_cons_zero]
      refine zr_iinc (pc' := 43) zi_22_40 rfl (by first | exact n_inc _ | rfl) rfl rfl ?_
      dsimp only [zst1, zst2, zkill, List.set, List.getElem?_cons_succ, List.getElem?_cons_zero]
      refine zr_goto zi_22_43 ?_
      have ih := l_oalike l t c a p q f f2 h1 h2 hc e e4 e8 (k + 1) (by omega)
      rw [zsm_f (Ne.symm h30)] at ih
      exact ih
    · replace h30 := zc_ne_f h30
      refine zr_iconst (v := (nI 1)) (pc' := 34) zi_22_33 rfl rfl ?_
      refine zr_goto zi_22_34 ?_
      refine zr_iadd (pc' := 39) zi_22_38 (by first | exact nI_add _ _ | rfl) rfl ?_
      refine zr_istore_n (pc' := 40) zi_22_39 (Nat.le_of_ble_eq_true rfl) rfl rfl ?_
      dsimp only [zst1, zst2, zkill, List.set, List.getElem?_cons_succ, List.getElem?_cons_zero]
      refine zr_iinc (pc' := 43) zi_22_40 rfl (by first | exact n_inc _ | rfl) rfl rfl ?_
      dsimp only [zst1, zst2, zkill, List.set, List.getElem?_cons_succ, List.getElem?_cons_zero]
      refine zr_goto zi_22_43 ?_
      have ih := l_oalike l t c a p q f f2 h1 h2 hc e e4 e8 (k + 1) (by omega)
      rw [zsm_t h30.symm] at ih
      exact ih
termination_by a - k
theorem c_oalike {A : Nat → Nat → Int32} (l t c a p q : Nat) (f f2 : Nat → Int32) (h1 : H[p]? = some (zri (3 + c) f)) (h2 : H[q]? = some (zri a f2)) (hc : c ≤ 8) (ha : a ≤ 8) (e3 : A 3 l = nI c) (e7 : A 7 t = nI a) (e4 : ∀ k, k < c → f (3 + k) = A 4 (l * 8 + k)) (e8 : ∀ k, k < a → f2 k = A 8 (t * 8 + k)) : zcalls zTB 22 [.ref p, .ref q] H (some (.int (nI (zak A l t) - 1)), H) := by
  refine zcalls_of (Nat.le_of_ble_eq_true rfl) ?_
  show zruns zTB 22 0 [some (.ref p), some (.ref q), none, none] [] _ _
  refine zr_aload_n (pc' := 1) zi_22_0 rfl rfl ?_
  refine zr_alen (v := nI a) (pc' := 2) zi_22_1 h2 rfl rfl ?_
  refine zr_aload_n (pc' := 3) zi_22_2 rfl rfl ?_
  refine zr_alen (v := nI (3 + c)) (pc' := 4) zi_22_3 h1 rfl rfl ?_
  refine zr_iconst (v := (nI 3)) (pc' := 5) zi_22_4 rfl rfl ?_
  refine zr_isub (pc' := 6) zi_22_5 (by first | exact pk_sub (by omega) | rfl) rfl ?_
  rw [show 3 + c - 3 = c by omega]
  refine zr_icmp (pc' := 9) zi_22_6 rfl (fun h6 => ?_) (fun h6 => ?_)
  · replace h6 := zc_eq_t h6
    refine zr_iconst (v := (nI 0)) (pc' := 12) zi_22_11 rfl rfl ?_
    refine zr_istore_n (pc' := 13) zi_22_12 (Nat.le_of_ble_eq_true rfl) rfl rfl ?_
    dsimp only [zst1, zst2, zkill, List.set, List.getElem?_cons_succ, List.getElem?_cons_zero]
    refine zr_iconst (v := (nI 0)) (pc' := 14) zi_22_13 rfl rfl ?_
    refine zr_istore_n (pc' := 15) zi_22_14 (Nat.le_of_ble_eq_true rfl) rfl rfl ?_
    dsimp only [zst1, zst2, zkill, List.set, List.getElem?_cons_succ, List.getElem?_cons_zero]
    have e : a = c := (nI_eq (by omega) (by omega)).mp h6
    rw [zak, if_pos (by rw [e3, e7, e]), e7, nI_clamp (by omega), nI_pred]
    exact l_oalike l t c a p q f f2 h1 h2 hc e e4 e8 0 (Nat.zero_le _)
  · replace h6 := zc_eq_f h6
    refine zr_iconst (v := (-1)) (pc' := 10) zi_22_9 rfl rfl ?_
    rw [zak, if_neg (by rw [e3, e7]; exact fun e => h6 e.symm)]
    rw [show nI 0 - 1 = (-1 : Int32) from rfl]
    exact zr_ireturn zi_22_10 rfl
end


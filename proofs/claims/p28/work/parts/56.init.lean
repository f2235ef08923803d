theorem zi_94_0 : zI 94 0 = some (.aload_n 0, []) := by decide +kernel
theorem zi_94_1 : zI 94 1 = some (.invokespecial 1, [0, 5, 486, 2, 3]) := by decide +kernel
theorem zi_94_4 : zI 94 4 = some (.aload_n 0, []) := by decide +kernel
theorem zi_94_5 : zI 94 5 = some (.new 7, [6, 487, 488, 9, 1, 1, 1, 1, 1, 1, 1]) := by decide +kernel
theorem zi_94_8 : zI 94 8 = some (.dup, []) := by decide +kernel
theorem zi_94_9 : zI 94 9 = some (.invokespecial 9, [82, 2, 0, 0, 491, 0, 9, 490, 0, 489]) := by decide +kernel
theorem zi_94_12 : zI 94 12 = some (.putfield 10, [7, 0, 1, 139]) := by decide +kernel
theorem zi_94_15 : zI 94 15 = some (.aload_n 0, []) := by decide +kernel
theorem zi_94_16 : zI 94 16 = some (.iconst 0, []) := by decide +kernel
theorem zi_94_17 : zI 94 17 = some (.anewarray 16, [3, 257]) := by decide +kernel
theorem zi_94_20 : zI 94 20 = some (.putfield 18, [7, 3, 1, 132]) := by decide +kernel
theorem zi_94_23 : zI 94 23 = some (.aload_n 0, []) := by decide +kernel
theorem zi_94_24 : zI 94 24 = some (.bipush 70, []) := by decide +kernel
theorem zi_94_26 : zI 94 26 = some (.newarray .int, [0, 4]) := by decide +kernel
theorem zi_94_28 : zI 94 28 = some (.putfield 22, [7, 5, 1, 133]) := by decide +kernel
theorem zi_94_31 : zI 94 31 = some (.aload_n 0, []) := by decide +kernel
theorem zi_94_32 : zI 94 32 = some (.iconst 0, []) := by decide +kernel
theorem zi_94_33 : zI 94 33 = some (.anewarray 16, [3, 257]) := by decide +kernel
theorem zi_94_36 : zI 94 36 = some (.putfield 25, [7, 6, 1, 492]) := by decide +kernel
theorem zi_94_39 : zI 94 39 = some (.aload_n 0, []) := by decide +kernel
theorem zi_94_40 : zI 94 40 = some (.iconst 4, []) := by decide +kernel
theorem zi_94_41 : zI 94 41 = some (.newarray .int, [0, 4]) := by decide +kernel
theorem zi_94_43 : zI 94 43 = some (.dup, []) := by decide +kernel
theorem zi_94_44 : zI 94 44 = some (.iconst 0, []) := by decide +kernel
theorem zi_94_45 : zI 94 45 = some (.bipush 50, []) := by decide +kernel
theorem zi_94_47 : zI 94 47 = some (.iastore, []) := by decide +kernel
theorem zi_94_48 : zI 94 48 = some (.dup, []) := by decide +kernel
theorem zi_94_49 : zI 94 49 = some (.iconst 1, []) := by decide +kernel
theorem zi_94_50 : zI 94 50 = some (.bipush 30, []) := by decide +kernel
theorem zi_94_52 : zI 94 52 = some (.iastore, []) := by decide +kernel
theorem zi_94_53 : zI 94 53 = some (.dup, []) := by decide +kernel
theorem zi_94_54 : zI 94 54 = some (.iconst 2, []) := by decide +kernel
theorem zi_94_55 : zI 94 55 = some (.bipush 10, []) := by decide +kernel
theorem zi_94_57 : zI 94 57 = some (.iastore, []) := by decide +kernel
theorem zi_94_58 : zI 94 58 = some (.dup, []) := by decide +kernel
theorem zi_94_59 : zI 94 59 = some (.iconst 3, []) := by decide +kernel
theorem zi_94_60 : zI 94 60 = some (.bipush 20, []) := by decide +kernel
theorem zi_94_62 : zI 94 62 = some (.iastore, []) := by decide +kernel
theorem zi_94_63 : zI 94 63 = some (.putfield 28, [7, 7, 1, 134]) := by decide +kernel
theorem zi_94_66 : zI 94 66 = some (.aload_n 0, []) := by decide +kernel
theorem zi_94_67 : zI 94 67 = some (.aload_n 1, []) := by decide +kernel
theorem zi_94_68 : zI 94 68 = some (.putfield 31, [7, 1, 1, 33]) := by decide +kernel
theorem zi_94_71 : zI 94 71 = some (.aload_n 0, []) := by decide +kernel
theorem zi_94_72 : zI 94 72 = some (.iload_n 2, []) := by decide +kernel
theorem zi_94_73 : zI 94 73 = some (.putfield 34, [7, 2, 0, 34]) := by decide +kernel
theorem zi_94_76 : zI 94 76 = some (.return_, []) := by decide +kernel
/-! a new Owl -/
def zmid (H : zH) (e : zE) (F : Nat → Nat → Int32) (X : zH) : zH := H ++ (e :: (nlist (H.length + 1) F (fun _ => 0) ++ X))
section
variable {H X X' : zH} {e e' c : zE} {F : Nat → Nat → Int32} {g : Nat → Nat} {j : Nat}
theorem zmid_len : (zmid H e F X).length = H.length + 72 + X.length := by
  unfold zmid
  rw [List.length_append, List.length_cons, List.length_append, nlist_len]
  omega
theorem zmid_o : (zmid H e F X)[H.length]? = some e := by
  unfold zmid
  rw [List.getElem?_append_right (Nat.le_refl _), Nat.sub_self]
  rfl
theorem zmid_x (h : X[j]? = some c) : (zmid H e F X)[H.length + 72 + j]? = some c := by
  unfold zmid
  rw [List.getElem?_append_right (by omega), show H.length + 72 + j - H.length = (71 + j) + 1 by omega, List.getElem?_cons_succ, List.getElem?_append_right (by rw [nlist_len]; omega), nlist_len, Nat.add_sub_cancel_left]
  exact h
theorem zmid_set : (zmid H e F X).set H.length e' = zmid H e' F X := by
  unfold zmid
  rw [List.set_append_right _ _ (Nat.le_refl _), Nat.sub_self]
  rfl
theorem zmid_setx : (zmid H e F X).set (H.length + 72 + j) c = zmid H e F (X.set j c) := by
  unfold zmid
  rw [List.set_append_right _ _ (by omega), show H.length + 72 + j - H.length = (71 + j) + 1 by omega, List.set_cons_succ, List.set_append_right _ _ (by rw [nlist_len]; omega), nlist_len, Nat.add_sub_cancel_left]
theorem zmid_app : zmid H e F X ++ [c] = zmid H e F (X ++ [c]) := by
  unfold zmid
  rw [List.append_assoc, List.cons_append, List.append_assoc]
theorem zmid_lo {i : Nat} (h : i < H.length) : (zmid H e F X)[i]? = H[i]? := by
  unfold zmid
  rw [List.getElem?_append_left h]
theorem zmid_zss : zss (zmid H e F X) ≤ zss H + zsz e + 6000 + zss X := by
  have h3 := nlist_zss (b := H.length + 1) (F := F) (g := fun _ => 0)
  unfold zmid
  rw [show e :: (nlist (H.length + 1) F (fun _ => 0) ++ X) = [e] ++ (nlist (H.length + 1) F (fun _ => 0) ++ X) from rfl, zss_app2, zss_app2, zss_app2]
  have : zss [e] = zsz e := by simp [zss]
  omega
end
section
variable {y pc pc' : Nat} {H X X' : zH} {e e' c : zE} {F : Nat → Nat → Int32} {g : Nat → Nat} {L : zL} {st : List Value} {r : zR} {ax : List Nat}
theorem zi_put {ix ci f kd : Nat} {fs : List Value} {v : Value} (hI : zI y pc = some (.putfield ix, ci :: f :: kd :: ax)) (ho : 1 ≤ H.length) (hf : f < fs.length) (hk : zfits kd v = true) (hp : pc + 3 = pc') (he : .inr (ci, fs.set f v) = e') (k : zruns zTB y pc' L st (nput (H.length + 1) F g (zmid H e' F X)) r) : zruns zTB y pc L (v :: .ref H.length :: st) (nput (H.length + 1) F g (zmid H (.inr (ci, fs)) F X)) r := zo_put hI (by rw [zmid_len]; omega) ho zmid_o hf hk hp (by rw [zmid_set, he]) k
theorem zi_newa {n j : Nat} (hI : zI y pc = some (.newarray .int, 0 :: ax)) (hn : n ≤ 10000) (hj : X.length = j) (hX : X ++ [zri n fun _ => 0] = X') (hp : pc + 2 = pc') (k : zruns zTB y pc' L (.ref (H.length + 72 + j) :: st) (nput (H.length + 1) F g (zmid H e F X')) r) : zruns zTB y pc L (.int (nI n) :: st) (nput (H.length + 1) F g (zmid H e F X)) r := by
  refine zo_newa hI (by rw [zmid_len]; omega) hn hp ?_
  rw [zmid_app, hX, zmid_len, hj]
  exact k
theorem zi_anewa {ix n j : Nat} (hI : zI y pc = some (.anewarray ix, 3 :: ax)) (hn : n ≤ 10000) (hj : X.length = j) (hX : X ++ [zrr n fun _ => none] = X') (hp : pc + 3 = pc') (k : zruns zTB y pc' L (.ref (H.length + 72 + j) :: st) (nput (H.length + 1) F g (zmid H e F X')) r) : zruns zTB y pc L (.int (nI n) :: st) (nput (H.length + 1) F g (zmid H e F X)) r := by
  have hb : H.length + 1 + 71 ≤ (zmid H e F X).length := by rw [zmid_len]; omega
  refine zr_anewa (N := n) hI (nI_pos (by omega)) (nI_clamp (by omega)) hn (nput_len hb) hp ?_
  rw [show ([.inl (3, zdefA 3 n)] : zH) = [zrr n fun _ => none] from rfl, nput_app hb, zmid_app, hX, zmid_len, hj]
  exact k
theorem zi_iast {n j i : Nat} {f : Nat → Int32} {v : Int32} (hI : zI y pc = some (.iastore, ax)) (hh : X[i]? = some (zri n f)) (hj : j < n) (hn : n < 2 ^ 31) (hp : pc + 1 = pc') (hX : X.set i (zri n (upd f j v)) = X') (k : zruns zTB y pc' L st (nput (H.length + 1) F g (zmid H e F X')) r) : zruns zTB y pc L (.int v :: .int (nI j) :: .ref (H.length + 72 + i) :: st) (nput (H.length + 1) F g (zmid H e F X)) r := by
  refine zo_iast hI (by rw [zmid_len]; omega) (zmid_x hh) (by omega) hj hn hp ?_
  rw [zmid_setx, hX]
  exact k
end
/-- an Owl as it is made -/
abbrev zow0 : zE := .inr (7, [.null, .null, .int 0, .null, .int 0, .null, .null, .null])
/-- the heap between two Owls -/
def zSC (U : Nat) (H : zH) : Prop := 1 ≤ H.length ∧ H.length ≤ 100 * U ∧ zss H ≤ 10000 * U ∧ ∃ L f, H[0]? = some (zri L f) ∧ L ≤ 260
theorem zOW_sc {o U : Nat} {H : zH} (W : zOW o U H) : zSC (U + 1) H := by
  obtain ⟨h, F, g, x, sh, gp, wi, bk, rl, rt, e, q, hx, w, rfl⟩ := W
  have hb := w.hb
  have hbu := w.bu
  have ho := w.o1
  obtain ⟨L, f, h1, h2⟩ := w.sc
  have hz := nput_zle (b := o + 1) (F := F) (g := g) (h := h)
  refine ⟨by rw [nput_len hb]; omega, by rw [nput_len hb]; omega, by omega, L, f, ?_, h2⟩
  rw [nput_out hb (by omega)]
  exact h1
set_option maxHeartbeats 2000000 in
theorem c_oinit {H : zH} {U : Nat} (hS : zSC U H) (t : Nat) (ht : t ≤ 30 * (U + 1)) : ∃ H', zOW H.length (U + 1) H' ∧ zcalls zTB 94 [.ref H.length, .ref 0, .int (nI t)] (H ++ [zow0]) (none, H') := by
  obtain ⟨hl, hlU, hzU, L, f0, hs1, hs2⟩ := hS
  obtain ⟨F, hF, hci⟩ := c_init (H ++ [zow0]) (by rw [List.length_append]; exact Nat.le_add_left _ _)
  have hlen : (H ++ [zow0]).length = H.length + 1 := by rw [List.length_append]; rfl
  have hnp := nput_new (h0 := H ++ [zow0]) (F := F) (F' := F) (g := fun _ => 0) (g' := fun _ => 0)
  rw [← hnp, hlen] at hci
  have hmid : H ++ [zow0] ++ nlist (H.length + 1) F (fun _ => 0) = zmid H zow0 F [] := by
    unfold zmid
    rw [List.append_assoc, List.append_nil]
    rfl
  rw [hmid] at hci
  obtain ⟨sf, hsf⟩ : ∃ sf, sf = upd (upd (upd (upd (fun _ => (0 : Int32)) 0 (nI 50)) 1 (nI 30)) 2 (nI 10)) 3 (nI 20) := ⟨_, rfl⟩
  refine ⟨nput (H.length + 1) F (fun _ => 0) (zmid H (zow H.length t (H.length + 72 + 0) 0 (H.length + 72 + 2)) F [zrr 0 fun _ => none, zri 70 fun _ => 0, zrr 0 fun _ => none, zri 4 sf]), ⟨_, F, fun _ => 0, fun _ => 0, 50, 30, 10, 20, H.length + 72 + 0, H.length + 72 + 2, H.length + 76, zOk_new hF, fun i hi => absurd hi (Nat.not_lt_zero _), ?_, rfl⟩, ?_⟩
  · refine ⟨hl, ⟨t, ht, zmid_o⟩, ⟨fun _ => 0, zmid_x (j := 1) rfl⟩, ⟨sf, zmid_x (j := 3) rfl, by rw [hsf]; rfl, by rw [hsf]; rfl, by rw [hsf]; rfl, by rw [hsf]; rfl⟩, ⟨L, f0, by rw [zmid_lo (by omega)]; exact hs1, hs2⟩, ⟨by omega, by omega, by omega, by omega, by omega, Nat.le_refl _, by rw [zmid_len]; exact Nat.le_refl _⟩, ⟨fun _ => none, zmid_x (j := 0) rfl, fun l hl => absurd hl (Nat.not_lt_zero _)⟩, ⟨fun _ => none, zmid_x (j := 2) rfl, fun l hl => absurd hl (Nat.not_lt_zero _)⟩, ?_, ?_⟩
    · rw [zmid_len]
      show H.length + 72 + 4 ≤ _
      omega
    · refine Nat.le_trans zmid_zss ?_
      show zss H + 8 + 6000 + (0 + (70 + (0 + (4 + 0)))) ≤ _
      omega
  · refine zcalls_of (Nat.le_of_ble_eq_true rfl) ?_
    show zruns zTB 94 0 [some (.ref H.length), some (.ref 0), some (.int (nI t))] [] _ _
    refine zr_aload_n (pc' := 1) zi_94_0 rfl rfl ?_
    refine zr_objinit (pc' := 4) zi_94_1 rfl rfl ?_
    refine zr_aload_n (pc' := 5) zi_94_4 rfl rfl ?_
    refine zr_new (n := H.length + 1) (pc' := 8) zi_94_5 rfl hlen rfl ?_
    refine zr_dup (pc' := 9) zi_94_8 rfl rfl ?_
    refine zr_i0 (pc' := 12) zi_94_9 rfl hci rfl ?_
    refine zi_put (pc' := 15) zi_94_12 hl (Nat.le_of_ble_eq_true rfl) rfl rfl rfl ?_
    refine zr_aload_n (pc' := 16) zi_94_15 rfl rfl ?_
    refine zr_iconst (v := (nI 0)) (pc' := 17) zi_94_16 rfl rfl ?_
    refine zi_anewa (n := 0) (pc' := 20) zi_94_17 (by omega) rfl rfl rfl ?_
    refine zi_put (pc' := 23) zi_94_20 hl (Nat.le_of_ble_eq_true rfl) rfl rfl rfl ?_
    refine zr_aload_n (pc' := 24) zi_94_23 rfl rfl ?_
    refine zr_bipush (v := (nI 70)) (pc' := 26) zi_94_24 rfl rfl ?_
    refine zi_newa (pc' := 28) zi_94_26 (by omega) rfl rfl rfl ?_
    refine zi_put (pc' := 31) zi_94_28 hl (Nat.le_of_ble_eq_true rfl) rfl rfl rfl ?_
    refine zr_aload_n (pc' := 32) zi_94_31 rfl rfl ?_
    refine zr_iconst (v := (nI 0)) (pc' := 33) zi_94_32 rfl rfl ?_
    refine zi_anewa (n := 0) (pc' := 36) zi_94_33 (by omega) rfl rfl rfl ?_
    refine zi_put (pc' := 39) zi_94_36 hl (Nat.le_of_ble_eq_true rfl) rfl rfl rfl ?_
    refine zr_aload_n (pc' := 40) zi_94_39 rfl rfl ?_
    refine zr_iconst (v := (nI 4)) (pc' := 41) zi_94_40 rfl rfl ?_
    refine zi_newa (pc' := 43) zi_94_41 (by omega) rfl rfl rfl ?_
    refine zr_dup (pc' := 44) zi_94_43 rfl rfl ?_
    refine zr_iconst (v := (nI 0)) (pc' := 45) zi_94_44 rfl rfl ?_
    refine zr_bipush (v := (nI 50)) (pc' := 47) zi_94_45 rfl rfl ?_
    refine zi_iast (i := 3) (pc' := 48) zi_94_47 rfl (by omega) (by omega) rfl rfl ?_
    refine zr_dup (pc' := 49) zi_94_48 rfl rfl ?_
    refine zr_iconst (v := (nI 1)) (pc' := 50) zi_94_49 rfl rfl ?_
    refine zr_bipush (v := (nI 30)) (pc' := 52) zi_94_50 rfl rfl ?_
    refine zi_iast (i := 3) (pc' := 53) zi_94_52 rfl (by omega) (by omega) rfl rfl ?_
    refine zr_dup (pc' := 54) zi_94_53 rfl rfl ?_
    refine zr_iconst (v := (nI 2)) (pc' := 55) zi_94_54 rfl rfl ?_
    refine zr_bipush (v := (nI 10)) (pc' := 57) zi_94_55 rfl rfl ?_
    refine zi_iast (i := 3) (pc' := 58) zi_94_57 rfl (by omega) (by omega) rfl rfl ?_
    refine zr_dup (pc' := 59) zi_94_58 rfl rfl ?_
    refine zr_iconst (v := (nI 3)) (pc' := 60) zi_94_59 rfl rfl ?_
    refine zr_bipush (v := (nI 20)) (pc' := 62) zi_94_60 rfl rfl ?_
    refine zi_iast (i := 3) (pc' := 63) zi_94_62 rfl (by omega) (by omega) rfl rfl ?_
    refine zi_put (pc' := 66) zi_94_63 hl (Nat.le_of_ble_eq_true rfl) rfl rfl rfl ?_
    refine zr_aload_n (pc' := 67) zi_94_66 rfl rfl ?_
    refine zr_aload_n (pc' := 68) zi_94_67 rfl rfl ?_
    refine zi_put (pc' := 71) zi_94_68 hl (Nat.le_of_ble_eq_true rfl) rfl rfl rfl ?_
    refine zr_aload_n (pc' := 72) zi_94_71 rfl rfl ?_
    refine zr_iload_n (pc' := 73) zi_94_72 rfl rfl ?_
    refine zi_put (pc' := 76) zi_94_73 hl (Nat.le_of_ble_eq_true rfl) rfl rfl rfl ?_
    rw [hsf]
    exact zr_return zi_94_76 rfl


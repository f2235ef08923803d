theorem zi_58_0 : zI 58 0 = some (.iconst 4, []) := by decide +kernel
theorem zi_58_1 : zI 58 1 = some (.anewarray 201, [3, 221]) := by decide +kernel
theorem zi_58_4 : zI 58 4 = some (.dup, []) := by decide +kernel
theorem zi_58_5 : zI 58 5 = some (.iconst 0, []) := by decide +kernel
theorem zi_58_6 : zI 58 6 = some (.aload_n 0, []) := by decide +kernel
theorem zi_58_7 : zI 58 7 = some (.getfield 28, [7, 9, 38]) := by decide +kernel
theorem zi_58_10 : zI 58 10 = some (.aastore, []) := by decide +kernel
theorem zi_58_11 : zI 58 11 = some (.dup, []) := by decide +kernel
theorem zi_58_12 : zI 58 12 = some (.iconst 1, []) := by decide +kernel
theorem zi_58_13 : zI 58 13 = some (.aload_n 0, []) := by decide +kernel
theorem zi_58_14 : zI 58 14 = some (.getfield 31, [7, 11, 24]) := by decide +kernel
theorem zi_58_17 : zI 58 17 = some (.aastore, []) := by decide +kernel
theorem zi_58_18 : zI 58 18 = some (.dup, []) := by decide +kernel
theorem zi_58_19 : zI 58 19 = some (.iconst 2, []) := by decide +kernel
theorem zi_58_20 : zI 58 20 = some (.aload_n 0, []) := by decide +kernel
theorem zi_58_21 : zI 58 21 = some (.getfield 34, [7, 12, 25]) := by decide +kernel
theorem zi_58_24 : zI 58 24 = some (.aastore, []) := by decide +kernel
theorem zi_58_25 : zI 58 25 = some (.dup, []) := by decide +kernel
theorem zi_58_26 : zI 58 26 = some (.iconst 3, []) := by decide +kernel
theorem zi_58_27 : zI 58 27 = some (.iconst 2, []) := by decide +kernel
theorem zi_58_28 : zI 58 28 = some (.newarray .int, [0, 5]) := by decide +kernel
theorem zi_58_30 : zI 58 30 = some (.dup, []) := by decide +kernel
theorem zi_58_31 : zI 58 31 = some (.iconst 0, []) := by decide +kernel
theorem zi_58_32 : zI 58 32 = some (.aload_n 0, []) := by decide +kernel
theorem zi_58_33 : zI 58 33 = some (.getfield 73, [7, 8, 37]) := by decide +kernel
theorem zi_58_36 : zI 58 36 = some (.iastore, []) := by decide +kernel
theorem zi_58_37 : zI 58 37 = some (.dup, []) := by decide +kernel
theorem zi_58_38 : zI 58 38 = some (.iconst 1, []) := by decide +kernel
theorem zi_58_39 : zI 58 39 = some (.aload_n 0, []) := by decide +kernel
theorem zi_58_40 : zI 58 40 = some (.getfield 66, [7, 10, 15]) := by decide +kernel
theorem zi_58_43 : zI 58 43 = some (.iastore, []) := by decide +kernel
theorem zi_58_44 : zI 58 44 = some (.aastore, []) := by decide +kernel
theorem zi_58_45 : zI 58 45 = some (.astore_n 2, []) := by decide +kernel
theorem zi_58_46 : zI 58 46 = some (.aload_n 0, []) := by decide +kernel
theorem zi_58_47 : zI 58 47 = some (.bipush 70, []) := by decide +kernel
theorem zi_58_49 : zI 58 49 = some (.newarray .int, [0, 5]) := by decide +kernel
theorem zi_58_51 : zI 58 51 = some (.putfield 28, [7, 9, 1, 38]) := by decide +kernel
theorem zi_58_54 : zI 58 54 = some (.aload_n 0, []) := by decide +kernel
theorem zi_58_55 : zI 58 55 = some (.bipush 20, []) := by decide +kernel
theorem zi_58_57 : zI 58 57 = some (.newarray .int, [0, 5]) := by decide +kernel
theorem zi_58_59 : zI 58 59 = some (.putfield 31, [7, 11, 1, 24]) := by decide +kernel
theorem zi_58_62 : zI 58 62 = some (.aload_n 0, []) := by decide +kernel
theorem zi_58_63 : zI 58 63 = some (.sipush 160, []) := by decide +kernel
theorem zi_58_66 : zI 58 66 = some (.newarray .int, [0, 5]) := by decide +kernel
theorem zi_58_68 : zI 58 68 = some (.putfield 34, [7, 12, 1, 25]) := by decide +kernel
theorem zi_58_71 : zI 58 71 = some (.iload_n 1, []) := by decide +kernel
theorem zi_58_72 : zI 58 72 = some (.ifCond .eq 49, [121]) := by decide +kernel
theorem zi_58_121 : zI 58 121 = some (.aload_n 0, []) := by decide +kernel
theorem zi_58_122 : zI 58 122 = some (.iconst 0, []) := by decide +kernel
theorem zi_58_123 : zI 58 123 = some (.putfield 73, [7, 8, 0, 37]) := by decide +kernel
theorem zi_58_126 : zI 58 126 = some (.aload_n 0, []) := by decide +kernel
theorem zi_58_127 : zI 58 127 = some (.iconst 0, []) := by decide +kernel
theorem zi_58_128 : zI 58 128 = some (.putfield 66, [7, 10, 0, 15]) := by decide +kernel
theorem zi_58_131 : zI 58 131 = some (.aload_n 2, []) := by decide +kernel
theorem zi_58_132 : zI 58 132 = some (.areturn, []) := by decide +kernel
theorem zi_59_0 : zI 59 0 = some (.aload_n 0, []) := by decide +kernel
theorem zi_59_1 : zI 59 1 = some (.aload_n 1, []) := by decide +kernel
theorem zi_59_2 : zI 59 2 = some (.iconst 0, []) := by decide +kernel
theorem zi_59_3 : zI 59 3 = some (.aaload, []) := by decide +kernel
theorem zi_59_4 : zI 59 4 = some (.putfield 28, [7, 9, 1, 38]) := by decide +kernel
theorem zi_59_7 : zI 59 7 = some (.aload_n 0, []) := by decide +kernel
theorem zi_59_8 : zI 59 8 = some (.aload_n 1, []) := by decide +kernel
theorem zi_59_9 : zI 59 9 = some (.iconst 1, []) := by decide +kernel
theorem zi_59_10 : zI 59 10 = some (.aaload, []) := by decide +kernel
theorem zi_59_11 : zI 59 11 = some (.putfield 31, [7, 11, 1, 24]) := by decide +kernel
theorem zi_59_14 : zI 59 14 = some (.aload_n 0, []) := by decide +kernel
theorem zi_59_15 : zI 59 15 = some (.aload_n 1, []) := by decide +kernel
theorem zi_59_16 : zI 59 16 = some (.iconst 2, []) := by decide +kernel
theorem zi_59_17 : zI 59 17 = some (.aaload, []) := by decide +kernel
theorem zi_59_18 : zI 59 18 = some (.putfield 34, [7, 12, 1, 25]) := by decide +kernel
theorem zi_59_21 : zI 59 21 = some (.aload_n 0, []) := by decide +kernel
theorem zi_59_22 : zI 59 22 = some (.aload_n 1, []) := by decide +kernel
theorem zi_59_23 : zI 59 23 = some (.iconst 3, []) := by decide +kernel
theorem zi_59_24 : zI 59 24 = some (.aaload, []) := by decide +kernel
theorem zi_59_25 : zI 59 25 = some (.iconst 0, []) := by decide +kernel
theorem zi_59_26 : zI 59 26 = some (.iaload, []) := by decide +kernel
theorem zi_59_27 : zI 59 27 = some (.putfield 73, [7, 8, 0, 37]) := by decide +kernel
theorem zi_59_30 : zI 59 30 = some (.aload_n 0, []) := by decide +kernel
theorem zi_59_31 : zI 59 31 = some (.aload_n 1, []) := by decide +kernel
theorem zi_59_32 : zI 59 32 = some (.iconst 3, []) := by decide +kernel
theorem zi_59_33 : zI 59 33 = some (.aaload, []) := by decide +kernel
theorem zi_59_34 : zI 59 34 = some (.iconst 1, []) := by decide +kernel
theorem zi_59_35 : zI 59 35 = some (.iaload, []) := by decide +kernel
theorem zi_59_36 : zI 59 36 = some (.putfield 66, [7, 10, 0, 15]) := by decide +kernel
theorem zi_59_39 : zI 59 39 = some (.return_, []) := by decide +kernel
theorem zi_153_21 : zI 153 21 = some (.aload_n 0, []) := by decide +kernel
theorem zi_153_22 : zI 153 22 = some (.iconst 0, []) := by decide +kernel
theorem zi_153_23 : zI 153 23 = some (.invokevirtual 202, [58, 0, 1, 7, 616, 617, 19, 615, 0, 614]) := by decide +kernel
theorem zi_153_26 : zI 153 26 = some (.astore_n 2, []) := by decide +kernel
theorem zi_153_27 : zI 153 27 = some (.iconst 0, []) := by decide +kernel
theorem zi_153_28 : zI 153 28 = some (.istore_n 3, []) := by decide +kernel
theorem zi_153_29 : zI 153 29 = some (.iload_n 3, []) := by decide +kernel
theorem zi_153_30 : zI 153 30 = some (.aload_n 0, []) := by decide +kernel
theorem zi_153_31 : zI 153 31 = some (.getfield 59, [7, 1, 36]) := by decide +kernel
theorem zi_153_34 : zI 153 34 = some (.if_icmp .ge 15, [49]) := by decide +kernel
theorem zi_153_49 : zI 153 49 = some (.aload_n 0, []) := by decide +kernel
theorem zi_153_50 : zI 153 50 = some (.getfield 66, [7, 10, 15]) := by decide +kernel
theorem zi_153_53 : zI 153 53 = some (.istore_n 3, []) := by decide +kernel
theorem zi_153_54 : zI 153 54 = some (.aload_n 0, []) := by decide +kernel
theorem zi_153_55 : zI 153 55 = some (.aload_n 2, []) := by decide +kernel
theorem zi_153_56 : zI 153 56 = some (.invokevirtual 206, [59, 0, 1, 7, 620, 621, 19, 619, 0, 618]) := by decide +kernel
theorem zi_153_59 : zI 153 59 = some (.iload_n 3, []) := by decide +kernel
theorem zi_153_60 : zI 153 60 = some (.ireturn, []) := by decide +kernel
/-! the reference puts by what was learned: new cells behind h -/
section ME
variable {c : Nat} {G : Nat → Nat → Int32} {v : Nat → Int32} {r : Nat → Nat} {h E E' : zH} {y pc pc' : Nat} {L : zL} {st : List Value} {q : zR} {ax : List Nat}
theorem mE_len (hc : c + 16 ≤ h.length) : c + 16 ≤ (h ++ E).length := by rw [List.length_append]; omega
theorem mE_at {i : Nat} {e : zE} (hc : c + 16 ≤ h.length) (he : E[i]? = some e) : (mput c G v r (h ++ E))[h.length + i]? = some e := by
  rw [mput_out (mE_len hc) (by omega), List.getElem?_append_right (by omega), Nat.add_sub_cancel_left]
  exact he
theorem mE_set {i : Nat} {e : zE} (hc : c + 16 ≤ h.length) : (mput c G v r (h ++ E)).set (h.length + i) e = mput c G v r (h ++ E.set i e) := by
  have ht : ((h ++ E).take c).length = c := by rw [List.length_take, List.length_append]; omega
  have hd : ((h ++ E).drop (c + 16)) = h.drop (c + 16) ++ E := List.drop_append_of_le_length hc
  have hd2 : ((h ++ E.set i e).drop (c + 16)) = h.drop (c + 16) ++ E.set i e := List.drop_append_of_le_length hc
  have ht2 : (h ++ E.set i e).take c = (h ++ E).take c := by rw [List.take_append_of_le_length (by omega), List.take_append_of_le_length (by omega)]
  have hl : (h.drop (c + 16)).length = h.length - (c + 16) := List.length_drop
  unfold mput
  rw [hd, hd2, ht2, List.set_append_right _ _ (by omega), ht, List.set_append_right _ _ (by rw [mlist_len]; omega), mlist_len, List.set_append_right _ _ (by omega), hl]
  congr 5
  omega
theorem me_newa {a : ArrayType} {t n N : Nat} {x : Int32} (hI : zI y pc = some (.newarray a, t :: ax)) (hx : ¬ x < 0) (hN : x.toNatClampNeg = N) (hb : N ≤ 10000) (hc : c + 16 ≤ h.length) (hn : E.length = n) (hL : E ++ [.inl (t, zdefA t N)] = E') (hp : pc + 2 = pc') (k : zruns zTB y pc' L (.ref (h.length + n) :: st) (mput c G v r (h ++ E')) q) : zruns zTB y pc L (.int x :: st) (mput c G v r (h ++ E)) q := by
  refine zr_newa hI hx hN hb (n := h.length + n) (by rw [mput_len (mE_len hc), List.length_append, hn]) hp ?_
  rw [mput_app (mE_len hc), List.append_assoc, hL]
  exact k
theorem me_anewa {ix t n N : Nat} {x : Int32} (hI : zI y pc = some (.anewarray ix, t :: ax)) (hx : ¬ x < 0) (hN : x.toNatClampNeg = N) (hb : N ≤ 10000) (hc : c + 16 ≤ h.length) (hn : E.length = n) (hL : E ++ [.inl (t, zdefA t N)] = E') (hp : pc + 3 = pc') (k : zruns zTB y pc' L (.ref (h.length + n) :: st) (mput c G v r (h ++ E')) q) : zruns zTB y pc L (.int x :: st) (mput c G v r (h ++ E)) q := by
  refine zr_anewa hI hx hN hb (n := h.length + n) (by rw [mput_len (mE_len hc), List.length_append, hn]) hp ?_
  rw [mput_app (mE_len hc), List.append_assoc, hL]
  exact k
theorem me_aast {i n p n2 : Nat} {f : Nat → Option Nat} {f2 : Nat → Int32} {j : Int32} (hI : zI y pc = some (.aastore, ax)) (h1 : 1 ≤ c) (hc : c + 16 ≤ h.length) (hp1 : 1 ≤ p) (hh : E[i]? = some (.inl (3, n, .inr (.inr (.inr (.inr f)))))) (hq : (mput c G v r (h ++ E))[p]? = some (.inl (0, n2, .inl f2))) (hj : ¬ (j < 0 ∨ n ≤ j.toNatClampNeg)) (hE : E.set i (.inl (3, n, .inr (.inr (.inr (.inr (va_up f j.toNatClampNeg (some p))))))) = E') (hp : pc + 1 = pc') (k : zruns zTB y pc' L st (mput c G v r (h ++ E')) q) : zruns zTB y pc L (.ref p :: .int j :: .ref (h.length + i) :: st) (mput c G v r (h ++ E)) q := by
  refine zr_aast hI (by omega) hp1 (mE_at hc hh) hq hj hp ?_ k
  rw [mE_set hc, hE]
theorem me_iast {i n : Nat} {f : Nat → Int32} {j x : Int32} (hI : zI y pc = some (.iastore, ax)) (h1 : 1 ≤ c) (hc : c + 16 ≤ h.length) (hh : E[i]? = some (.inl (0, n, .inl f))) (hj : ¬ (j < 0 ∨ n ≤ j.toNatClampNeg)) (hE : E.set i (.inl (0, n, .inl (upd f j.toNatClampNeg x))) = E') (hp : pc + 1 = pc') (k : zruns zTB y pc' L st (mput c G v r (h ++ E')) q) : zruns zTB y pc L (.int x :: .int j :: .ref (h.length + i) :: st) (mput c G v r (h ++ E)) q := by
  refine zr_iast hI (by omega) (mE_at hc hh) hj hp ?_ k
  rw [mE_set hc, hE]
end ME
section MW
variable {c : Nat} {G : Nat → Nat → Int32} {v : Nat → Int32} {h : zH}
def mwF (c n : Nat) : Nat → Option Nat := va_up (va_up (va_up (va_up (fun _ => none) (nI 0).toNatClampNeg (some (mr c 0))) (nI 1).toNatClampNeg (some (mr c 1))) (nI 2).toNatClampNeg (some (mr c 2))) (nI 3).toNatClampNeg (some (n + 1))
def mwP (a b : Int32) : Nat → Int32 := upd (upd (fun _ => 0) (nI 0).toNatClampNeg a) (nI 1).toNatClampNeg b
def mwE (c n : Nat) (a b : Int32) : zH := [.inl (3, 4, .inr (.inr (.inr (.inr (mwF c n))))), .inl (0, 2, .inl (mwP a b)), .inl (0, 70, .inl fun _ => 0), .inl (0, 20, .inl fun _ => 0), .inl (0, 160, .inl fun _ => 0)]
def mwr (n : Nat) : Nat → Nat := fun k => n + 2 + k
theorem m_putBy (h1 : 1 ≤ c) (hc : c + 16 ≤ h.length) : zcalls zTB 58 [.ref c, .int 0] (mput c G v (mr c) h) (some (.ref (h.length + 0)), mput c G (upd (upd v 2 0) 3 0) (updG (updG (updG (mr c) 0 (h.length + 2)) 1 (h.length + 3)) 2 (h.length + 4)) (h ++ mwE c h.length (v 2) (v 3))) := by
  have e0 : mput c G v (mr c) h = mput c G v (mr c) (h ++ []) := by rw [List.append_nil]
  rw [e0]
  refine zcalls_of (Nat.le_of_ble_eq_true rfl) ?_
  show zruns zTB 58 0 [some (.ref c), some (.int 0), none] [] _ _
  refine zr_iconst (v := (nI 4)) (pc' := 1) zi_58_0 rfl rfl ?_
  refine me_anewa (n := 0) (E' := [.inl (3, 4, .inr (.inr (.inr (.inr (fun _ => none)))))]) (pc' := 4) zi_58_1 (by decide) rfl (Nat.le_of_ble_eq_true rfl) hc rfl rfl rfl ?_
  refine zr_dup (pc' := 5) zi_58_4 rfl rfl ?_
  refine zr_iconst (v := (nI 0)) (pc' := 6) zi_58_5 rfl rfl ?_
  refine zr_aload_n (pc' := 7) zi_58_6 rfl rfl ?_
  refine zr_get (pc' := 10) zi_58_7 (mput_at (mE_len hc) (k := 0) rfl) rfl rfl ?_
  refine me_aast (E' := [.inl (3, 4, .inr (.inr (.inr (.inr (va_up (fun _ => none) (nI 0).toNatClampNeg (some (mr c 0)))))))]) (pc' := 11) zi_58_10 h1 hc (i := 0) (by first | omega | (unfold mr; omega)) rfl (mput_at (mE_len hc) (k := 7) rfl) (by decide) rfl rfl ?_
  refine zr_dup (pc' := 12) zi_58_11 rfl rfl ?_
  refine zr_iconst (v := (nI 1)) (pc' := 13) zi_58_12 rfl rfl ?_
  refine zr_aload_n (pc' := 14) zi_58_13 rfl rfl ?_
  refine zr_get (pc' := 17) zi_58_14 (mput_at (mE_len hc) (k := 0) rfl) rfl rfl ?_
  refine me_aast (E' := [.inl (3, 4, .inr (.inr (.inr (.inr (va_up (va_up (fun _ => none) (nI 0).toNatClampNeg (some (mr c 0))) (nI 1).toNatClampNeg (some (mr c 1)))))))]) (pc' := 18) zi_58_17 h1 hc (i := 0) (by first | omega | (unfold mr; omega)) rfl (mput_at (mE_len hc) (k := 8) rfl) (by decide) rfl rfl ?_
  refine zr_dup (pc' := 19) zi_58_18 rfl rfl ?_
  refine zr_iconst (v := (nI 2)) (pc' := 20) zi_58_19 rfl rfl ?_
  refine zr_aload_n (pc' := 21) zi_58_20 rfl rfl ?_
  refine zr_get (pc' := 24) zi_58_21 (mput_at (mE_len hc) (k := 0) rfl) rfl rfl ?_
  refine me_aast (E' := [.inl (3, 4, .inr (.inr (.inr (.inr (va_up (va_up (va_up (fun _ => none) (nI 0).toNatClampNeg (some (mr c 0))) (nI 1).toNatClampNeg (some (mr c 1))) (nI 2).toNatClampNeg (some (mr c 2)))))))]) (pc' := 25) zi_58_24 h1 hc (i := 0) (by first | omega | (unfold mr; omega)) rfl (mput_at (mE_len hc) (k := 9) rfl) (by decide) rfl rfl ?_
  refine zr_dup (pc' := 26) zi_58_25 rfl rfl ?_
  refine zr_iconst (v := (nI 3)) (pc' := 27) zi_58_26 rfl rfl ?_
  refine zr_iconst (v := (nI 2)) (pc' := 28) zi_58_27 rfl rfl ?_
  refine me_newa (n := 1) (E' := [.inl (3, 4, .inr (.inr (.inr (.inr (va_up (va_up (va_up (fun _ => none) (nI 0).toNatClampNeg (some (mr c 0))) (nI 1).toNatClampNeg (some (mr c 1))) (nI 2).toNatClampNeg (some (mr c 2))))))), .inl (0, 2, .inl fun _ => 0)]) (pc' := 30) zi_58_28 (by decide) rfl (Nat.le_of_ble_eq_true rfl) hc rfl rfl rfl ?_
  refine zr_dup (pc' := 31) zi_58_30 rfl rfl ?_
  refine zr_iconst (v := (nI 0)) (pc' := 32) zi_58_31 rfl rfl ?_
  refine zr_aload_n (pc' := 33) zi_58_32 rfl rfl ?_
  refine zr_get (pc' := 36) zi_58_33 (mput_at (mE_len hc) (k := 0) rfl) rfl rfl ?_
  refine me_iast (E' := [.inl (3, 4, .inr (.inr (.inr (.inr (va_up (va_up (va_up (fun _ => none) (nI 0).toNatClampNeg (some (mr c 0))) (nI 1).toNatClampNeg (some (mr c 1))) (nI 2).toNatClampNeg (some (mr c 2))))))), .inl (0, 2, .inl (upd (fun _ => 0) (nI 0).toNatClampNeg (v 2)))]) (pc' := 37) zi_58_36 h1 hc (i := 1) rfl (by decide) rfl rfl ?_
  refine zr_dup (pc' := 38) zi_58_37 rfl rfl ?_
  refine zr_iconst (v := (nI 1)) (pc' := 39) zi_58_38 rfl rfl ?_
  refine zr_aload_n (pc' := 40) zi_58_39 rfl rfl ?_
  refine zr_get (pc' := 43) zi_58_40 (mput_at (mE_len hc) (k := 0) rfl) rfl rfl ?_
  refine me_iast (E' := [.inl (3, 4, .inr (.inr (.inr (.inr (va_up (va_up (va_up (fun _ => none) (nI 0).toNatClampNeg (some (mr c 0))) (nI 1).toNatClampNeg (some (mr c 1))) (nI 2).toNatClampNeg (some (mr c 2))))))), .inl (0, 2, .inl (upd (upd (fun _ => 0) (nI 0).toNatClampNeg (v 2)) (nI 1).toNatClampNeg (v 3)))]) (pc' := 44) zi_58_43 h1 hc (i := 1) rfl (by decide) rfl rfl ?_
  refine me_aast (E' := [.inl (3, 4, .inr (.inr (.inr (.inr (va_up (va_up (va_up (va_up (fun _ => none) (nI 0).toNatClampNeg (some (mr c 0))) (nI 1).toNatClampNeg (some (mr c 1))) (nI 2).toNatClampNeg (some (mr c 2))) (nI 3).toNatClampNeg (some (h.length + 1))))))), .inl (0, 2, .inl (upd (upd (fun _ => 0) (nI 0).toNatClampNeg (v 2)) (nI 1).toNatClampNeg (v 3)))]) (pc' := 45) zi_58_44 h1 hc (i := 0) (by first | omega | (unfold mr; omega)) rfl (mE_at hc (i := 1) rfl) (by decide) rfl rfl ?_
  refine zr_astore_n (pc' := 46) zi_58_45 (Nat.le_of_ble_eq_true rfl) rfl rfl ?_
  dsimp only [zst1, zst2, zkill, List.set, List.getElem?_cons_succ, List.getElem?_cons_zero]
  refine zr_aload_n (pc' := 47) zi_58_46 rfl rfl ?_
  refine zr_bipush (v := (nI 70)) (pc' := 49) zi_58_47 rfl rfl ?_
  refine me_newa (n := 2) (E' := [.inl (3, 4, .inr (.inr (.inr (.inr (va_up (va_up (va_up (va_up (fun _ => none) (nI 0).toNatClampNeg (some (mr c 0))) (nI 1).toNatClampNeg (some (mr c 1))) (nI 2).toNatClampNeg (some (mr c 2))) (nI 3).toNatClampNeg (some (h.length + 1))))))), .inl (0, 2, .inl (upd (upd (fun _ => 0) (nI 0).toNatClampNeg (v 2)) (nI 1).toNatClampNeg (v 3))), .inl (0, 70, .inl fun _ => 0)]) (pc' := 51) zi_58_49 (by decide) rfl (Nat.le_of_ble_eq_true rfl) hc rfl rfl rfl ?_
  refine zr_put (pc' := 54) zi_58_51 (by omega) (mput_at (mE_len hc) (k := 0) rfl) (Nat.le_of_ble_eq_true rfl) rfl rfl (mput_set (k := 0) (r' := (updG (mr c) 0 (h.length + 2))) (mE_len hc) (by decide) rfl) ?_
  refine zr_aload_n (pc' := 55) zi_58_54 rfl rfl ?_
  refine zr_bipush (v := (nI 20)) (pc' := 57) zi_58_55 rfl rfl ?_
  refine me_newa (n := 3) (E' := [.inl (3, 4, .inr (.inr (.inr (.inr (va_up (va_up (va_up (va_up (fun _ => none) (nI 0).toNatClampNeg (some (mr c 0))) (nI 1).toNatClampNeg (some (mr c 1))) (nI 2).toNatClampNeg (some (mr c 2))) (nI 3).toNatClampNeg (some (h.length + 1))))))), .inl (0, 2, .inl (upd (upd (fun _ => 0) (nI 0).toNatClampNeg (v 2)) (nI 1).toNatClampNeg (v 3))), .inl (0, 70, .inl fun _ => 0), .inl (0, 20, .inl fun _ => 0)]) (pc' := 59) zi_58_57 (by decide) rfl (Nat.le_of_ble_eq_true rfl) hc rfl rfl rfl ?_
  refine zr_put (pc' := 62) zi_58_59 (by omega) (mput_at (mE_len hc) (k := 0) rfl) (Nat.le_of_ble_eq_true rfl) rfl rfl (mput_set (k := 0) (r' := (updG (updG (mr c) 0 (h.length + 2)) 1 (h.length + 3))) (mE_len hc) (by decide) rfl) ?_
  refine zr_aload_n (pc' := 63) zi_58_62 rfl rfl ?_
  refine zr_sipush (v := (nI 160)) (pc' := 66) zi_58_63 rfl rfl ?_
  refine me_newa (n := 4) (E' := [.inl (3, 4, .inr (.inr (.inr (.inr (va_up (va_up (va_up (va_up (fun _ => none) (nI 0).toNatClampNeg (some (mr c 0))) (nI 1).toNatClampNeg (some (mr c 1))) (nI 2).toNatClampNeg (some (mr c 2))) (nI 3).toNatClampNeg (some (h.length + 1))))))), .inl (0, 2, .inl (upd (upd (fun _ => 0) (nI 0).toNatClampNeg (v 2)) (nI 1).toNatClampNeg (v 3))), .inl (0, 70, .inl fun _ => 0), .inl (0, 20, .inl fun _ => 0), .inl (0, 160, .inl fun _ => 0)]) (pc' := 68) zi_58_66 (by decide) rfl (Nat.le_of_ble_eq_true rfl) hc rfl rfl rfl ?_
  refine zr_put (pc' := 71) zi_58_68 (by omega) (mput_at (mE_len hc) (k := 0) rfl) (Nat.le_of_ble_eq_true rfl) rfl rfl (mput_set (k := 0) (r' := (updG (updG (updG (mr c) 0 (h.length + 2)) 1 (h.length + 3)) 2 (h.length + 4))) (mE_len hc) (by decide) rfl) ?_
  refine zr_iload_n (pc' := 72) zi_58_71 rfl rfl ?_
  refine zr_ift zi_58_72 rfl ?_
  refine zr_aload_n (pc' := 122) zi_58_121 rfl rfl ?_
  refine zr_iconst (v := (nI 0)) (pc' := 123) zi_58_122 rfl rfl ?_
  refine zr_put (pc' := 126) zi_58_123 (by omega) (mput_at (mE_len hc) (k := 0) rfl) (Nat.le_of_ble_eq_true rfl) rfl rfl (mput_set (k := 0) (v' := (upd v 2 0)) (mE_len hc) (by decide) rfl) ?_
  refine zr_aload_n (pc' := 127) zi_58_126 rfl rfl ?_
  refine zr_iconst (v := (nI 0)) (pc' := 128) zi_58_127 rfl rfl ?_
  refine zr_put (pc' := 131) zi_58_128 (by omega) (mput_at (mE_len hc) (k := 0) rfl) (Nat.le_of_ble_eq_true rfl) rfl rfl (mput_set (k := 0) (v' := (upd (upd v 2 0) 3 0)) (mE_len hc) (by decide) rfl) ?_
  refine zr_aload_n (pc' := 132) zi_58_131 rfl rfl ?_
  exact zr_areturn zi_58_132 rfl
theorem m_takeAgain (h1 : 1 ≤ c) (hc : c + 16 ≤ h.length) (v : Nat → Int32) (r : Nat → Nat) (a b : Int32) : ∃ v' r', v' 0 = v 0 ∧ zcalls zTB 59 [.ref c, .ref (h.length + 0)] (mput c G v r (h ++ mwE c h.length a b)) (none, mput c G v' r' (h ++ mwE c h.length a b)) := by
  refine ⟨upd (upd v 2 (mwP a b (nI 0).toNatClampNeg)) 3 (mwP a b (nI 1).toNatClampNeg), updG (updG (updG r 0 (mr c 0)) 1 (mr c 1)) 2 (mr c 2), rfl, ?_⟩
  refine zcalls_of (Nat.le_of_ble_eq_true rfl) ?_
  show zruns zTB 59 0 [some (.ref c), some (.ref (h.length + 0))] [] _ _
  refine zr_aload_n (pc' := 1) zi_59_0 rfl rfl ?_
  refine zr_aload_n (pc' := 2) zi_59_1 rfl rfl ?_
  refine zr_iconst (v := (nI 0)) (pc' := 3) zi_59_2 rfl rfl ?_
  refine zr_aald (pc' := 4) zi_59_3 (mE_at hc (i := 0) rfl) (by decide) (q := mr c 0) rfl rfl ?_
  refine zr_put (pc' := 7) zi_59_4 (by omega) (mput_at (mE_len hc) (k := 0) rfl) (Nat.le_of_ble_eq_true rfl) rfl rfl (mput_set (k := 0) (r' := (updG r 0 (mr c 0))) (mE_len hc) (by decide) rfl) ?_
  refine zr_aload_n (pc' := 8) zi_59_7 rfl rfl ?_
  refine zr_aload_n (pc' := 9) zi_59_8 rfl rfl ?_
  refine zr_iconst (v := (nI 1)) (pc' := 10) zi_59_9 rfl rfl ?_
  refine zr_aald (pc' := 11) zi_59_10 (mE_at hc (i := 0) rfl) (by decide) (q := mr c 1) rfl rfl ?_
  refine zr_put (pc' := 14) zi_59_11 (by omega) (mput_at (mE_len hc) (k := 0) rfl) (Nat.le_of_ble_eq_true rfl) rfl rfl (mput_set (k := 0) (r' := (updG (updG r 0 (mr c 0)) 1 (mr c 1))) (mE_len hc) (by decide) rfl) ?_
  refine zr_aload_n (pc' := 15) zi_59_14 rfl rfl ?_
  refine zr_aload_n (pc' := 16) zi_59_15 rfl rfl ?_
  refine zr_iconst (v := (nI 2)) (pc' := 17) zi_59_16 rfl rfl ?_
  refine zr_aald (pc' := 18) zi_59_17 (mE_at hc (i := 0) rfl) (by decide) (q := mr c 2) rfl rfl ?_
  refine zr_put (pc' := 21) zi_59_18 (by omega) (mput_at (mE_len hc) (k := 0) rfl) (Nat.le_of_ble_eq_true rfl) rfl rfl (mput_set (k := 0) (r' := (updG (updG (updG r 0 (mr c 0)) 1 (mr c 1)) 2 (mr c 2))) (mE_len hc) (by decide) rfl) ?_
  refine zr_aload_n (pc' := 22) zi_59_21 rfl rfl ?_
  refine zr_aload_n (pc' := 23) zi_59_22 rfl rfl ?_
  refine zr_iconst (v := (nI 3)) (pc' := 24) zi_59_23 rfl rfl ?_
  refine zr_aald (pc' := 25) zi_59_24 (mE_at hc (i := 0) rfl) (by decide) (q := h.length + 1) rfl rfl ?_
  refine zr_iconst (v := (nI 0)) (pc' := 26) zi_59_25 rfl rfl ?_
  refine zr_iald (pc' := 27) zi_59_26 (mE_at hc (i := 1) rfl) (by decide) rfl rfl ?_
  refine zr_put (pc' := 30) zi_59_27 (by omega) (mput_at (mE_len hc) (k := 0) rfl) (Nat.le_of_ble_eq_true rfl) rfl rfl (mput_set (k := 0) (v' := (upd v 2 (mwP a b (nI 0).toNatClampNeg))) (mE_len hc) (by decide) rfl) ?_
  refine zr_aload_n (pc' := 31) zi_59_30 rfl rfl ?_
  refine zr_aload_n (pc' := 32) zi_59_31 rfl rfl ?_
  refine zr_iconst (v := (nI 3)) (pc' := 33) zi_59_32 rfl rfl ?_
  refine zr_aald (pc' := 34) zi_59_33 (mE_at hc (i := 0) rfl) (by decide) (q := h.length + 1) rfl rfl ?_
  refine zr_iconst (v := (nI 1)) (pc' := 35) zi_59_34 rfl rfl ?_
  refine zr_iald (pc' := 36) zi_59_35 (mE_at hc (i := 1) rfl) (by decide) rfl rfl ?_
  refine zr_put (pc' := 39) zi_59_36 (by omega) (mput_at (mE_len hc) (k := 0) rfl) (Nat.le_of_ble_eq_true rfl) rfl rfl (mput_set (k := 0) (v' := (upd (upd v 2 (mwP a b (nI 0).toNatClampNeg)) 3 (mwP a b (nI 1).toNatClampNeg))) (mE_len hc) (by decide) rfl) ?_
  exact zr_return zi_59_39 rfl
theorem mo_templatesWith (h1 : 1 ≤ c) (hc : c + 16 ≤ h.length) (hl : v 1 = 0) (h2 : v 2 = 0) (h3 : v 3 = 0) (x : Int32) (q : (nI 0 ≤ x ∧ x ≤ nI 100)) : zMo c (mput c G v (mr c) h) 153 [.ref c, .int x] 0 (.int 0) := by
  refine zev_calls (Nat.le_of_ble_eq_true rfl) ?_
  show zev 153 0 [some (.ref c), some (.int x), none, none] [] _ _
  refine zev_of (fun _ kk => zr_aload_n (pc' := 1) zi_153_0 rfl rfl kk) ?_
  refine zev_of (fun _ kk => zr_iconst (v := (nI 0)) (pc' := 2) zi_153_1 rfl rfl kk) ?_
  refine zev_of (fun _ kk => zr_put (pc' := 5) zi_153_2 (by omega) (mput_at hc (k := 0) rfl) (Nat.le_of_ble_eq_true rfl) rfl rfl (mput_set (k := 0) (v' := upd _ 0 _) hc (by decide) rfl) kk) ?_
  refine zev_of (fun _ kk => zr_iload_n (pc' := 6) zi_153_5 rfl rfl kk) ?_
  refine zev_of (fun _ kk => zr_iconst (v := (nI 0)) (pc' := 7) zi_153_6 rfl rfl kk) ?_
  refine zev_of (fun _ kk => zr_bipush (v := (nI 100)) (pc' := 9) zi_153_7 rfl rfl kk) ?_
  refine zev_of (fun _ kk => zr_s3 (pc' := 12) zi_153_9 rfl (m_isIn1 q) rfl kk) ?_
  refine zev_of (fun _ kk => zr_ift zi_153_12 rfl kk) ?_
  refine zev_of (fun _ kk => zr_aload_n (pc' := 22) zi_153_21 rfl rfl kk) ?_
  refine zev_of (fun _ kk => zr_iconst (v := (nI 0)) (pc' := 23) zi_153_22 rfl rfl kk) ?_
  refine zev_of (fun _ kk => zr_v1 (pc' := 26) zi_153_23 (mput_at hc (k := 0) rfl) rfl (m_putBy h1 hc) rfl kk) ?_
  refine zev_of (fun _ kk => zr_astore_n (pc' := 27) zi_153_26 (Nat.le_of_ble_eq_true rfl) rfl rfl kk) ?_
  dsimp only [zst1, zst2, zkill, List.set, List.getElem?_cons_succ, List.getElem?_cons_zero]
  refine zev_of (fun _ kk => zr_iconst (v := (nI 0)) (pc' := 28) zi_153_27 rfl rfl kk) ?_
  refine zev_of (fun _ kk => zr_istore_n (pc' := 29) zi_153_28 (Nat.le_of_ble_eq_true rfl) rfl rfl kk) ?_
  dsimp only [zst1, zst2, zkill, List.set, List.getElem?_cons_succ, List.getElem?_cons_zero]
  have hc0 := hc
  replace hc := mE_len (E := mwE c h.length (upd v 0 (nI 0) 2) (upd v 0 (nI 0) 3)) hc
  refine zev_of (fun _ kk => zr_iload_n (pc' := 30) zi_153_29 rfl rfl kk) ?_
  refine zev_of (fun _ kk => zr_aload_n (pc' := 31) zi_153_30 rfl rfl kk) ?_
  refine zev_of (fun _ kk => zr_get (pc' := 34) zi_153_31 (mput_at hc (k := 0) rfl) rfl rfl kk) ?_
  refine zev_of (fun _ kk => zr_icmpt zi_153_34 (by show zcnd _ _ (v 1) = _; rw [hl]; rfl) kk) ?_
  refine zev_of (fun _ kk => zr_aload_n (pc' := 50) zi_153_49 rfl rfl kk) ?_
  refine zev_of (fun _ kk => zr_get (pc' := 53) zi_153_50 (mput_at hc (k := 0) rfl) rfl rfl kk) ?_
  refine zev_of (fun _ kk => zr_istore_n (pc' := 54) zi_153_53 (Nat.le_of_ble_eq_true rfl) rfl rfl kk) ?_
  dsimp only [zst1, zst2, zkill, List.set, List.getElem?_cons_succ, List.getElem?_cons_zero]
  obtain ⟨v', r', e0, ct⟩ := m_takeAgain (G := G) h1 hc0 (upd (upd (upd v 0 (nI 0)) 2 0) 3 0) (updG (updG (updG (mr c) 0 (h.length + 2)) 1 (h.length + 3)) 2 (h.length + 4)) (upd v 0 (nI 0) 2) (upd v 0 (nI 0) 3)
  refine zev_of (fun _ kk => zr_aload_n (pc' := 55) zi_153_54 rfl rfl kk) ?_
  refine zev_of (fun _ kk => zr_aload_n (pc' := 56) zi_153_55 rfl rfl kk) ?_
  refine zev_of (fun _ kk => zr_n1 (pc' := 59) zi_153_56 (mput_at hc (k := 0) rfl) rfl ct rfl kk) ?_
  refine zev_of (fun _ kk => zr_iload_n (pc' := 60) zi_153_59 rfl rfl kk) ?_
  refine zev_ret (zr_ireturn zi_153_60 rfl) ⟨congrArg some (congrArg Value.int rfl), ⟨_, by have := mput_at (c := c) (G := G) (v := v') (r := r') (k := 0) hc rfl; rw [e0] at this; exact this⟩, fun j hj hjl => ?_, ?_, ?_⟩
  · rw [mput_len hc0] at hjl
    rw [mput_out hc hj, mput_out hc0 hj, List.getElem?_append_left hjl]
  · rw [mput_len hc, mput_len hc0, List.length_append]
    show h.length + 5 ≤ h.length + 8
    omega
  · have e1 : zss (mput c G v' r' (h ++ mwE c h.length (upd v 0 (nI 0) 2) (upd v 0 (nI 0) 3))) = zss (mput c G v (mr c) h) + 256 := by
      rw [mput_zss (G' := G) (v' := v) (r' := mr c)]
      have e2 : mput c G v (mr c) (h ++ mwE c h.length (upd v 0 (nI 0) 2) (upd v 0 (nI 0) 3)) = mput c G v (mr c) h ++ mwE c h.length (upd v 0 (nI 0) 2) (upd v 0 (nI 0) 3) := by
        unfold mput
        rw [List.take_append_of_le_length (by omega), List.drop_append_of_le_length (by omega), List.append_assoc, List.append_assoc]
      rw [e2]
      have e3 : ((mwE c h.length (upd v 0 (nI 0) 2) (upd v 0 (nI 0) 3)).map zsz).sum = 256 := by simp [mwE, zsz]
      simp only [zss, List.map_append, List.sum_append]
      rw [e3]
    rw [e1]
    omega
end MW


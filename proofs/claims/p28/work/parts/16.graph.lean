/-! the cells of a Nightjar: rows F r, counters g i (printed by program) -/
def nlist (b : Nat) (F : Nat → Nat → Int32) (g : Nat → Nat) : zH := [.inr (6, [.ref (b + 1), .ref (b + 16), .ref (b + 21), .ref (b + 26), .ref (b + 43), .ref (b + 52), .ref (b + 69)]), .inr (0, [.ref (b + 2), .ref (b + 4), .ref (b + 6), .ref (b + 8), .ref (b + 10), .ref (b + 12), .ref (b + 14), .int (nI (g 0)), .int (nI (g 1))]), .inr (1, [.ref (b + 3)]), .inl (0, 70, .inl (F 0)), .inr (1, [.ref (b + 5)]), .inl (0, 70, .inl (F 1)), .inr (1, [.ref (b + 7)]), .inl (0, 70, .inl (F 2)), .inr (1, [.ref (b + 9)]), .inl (0, 70, .inl (F 3)), .inr (1, [.ref (b + 11)]), .inl (0, 560, .inl (F 4)), .inr (1, [.ref (b + 13)]), .inl (0, 70, .inl (F 5)), .inr (1, [.ref (b + 15)]), .inl (0, 70, .inl (F 6)), .inr (5, [.ref (b + 17), .ref (b + 19), .int (nI (g 2))]), .inr (1, [.ref (b + 18)]), .inl (0, 20, .inl (F 7)), .inr (1, [.ref (b + 20)]), .inl (0, 160, .inl (F 8)), .inr (5, [.ref (b + 22), .ref (b + 24), .int (nI (g 3))]), .inr (1, [.ref (b + 23)]), .inl (0, 20, .inl (F 9)), .inr (1, [.ref (b + 25)]), .inl (0, 160, .inl (F 10)), .inr (3, [.ref (b + 27), .ref (b + 29), .ref (b + 31), .ref (b + 33), .ref (b + 35), .ref (b + 37), .ref (b + 39), .ref (b + 41), .int (nI (g 4))]), .inr (1, [.ref (b + 28)]), .inl (0, 70, .inl (F 11)), .inr (1, [.ref (b + 30)]), .inl (0, 70, .inl (F 12)), .inr (1, [.ref (b + 32)]), .inl (0, 70, .inl (F 13)), .inr (1, [.ref (b + 34)]), .inl (0, 70, .inl (F 14)), .inr (1, [.ref (b + 36)]), .inl (0, 70, .inl (F 15)), .inr (1, [.ref (b + 38)]), .inl (0, 70, .inl (F 16)), .inr (1, [.ref (b + 40)]), .inl (0, 70, .inl (F 17)), .inr (1, [.ref (b + 42)]), .inl (0, 70, .inl (F 18)), .inr (4, [.ref (b + 44), .ref (b + 46), .ref (b + 48), .ref (b + 50), .int (nI (g 5))]), .inr (1, [.ref (b + 45)]), .inl (0, 23, .inl (F 19)), .inr (1, [.ref (b + 47)]), .inl (0, 23, .inl (F 20)), .inr (1, [.ref (b + 49)]), .inl (0, 23, .inl (F 21)), .inr (1, [.ref (b + 51)]), .inl (0, 20, .inl (F 22)), .inr (2, [.ref (b + 53), .ref (b + 55), .ref (b + 57), .ref (b + 59), .ref (b + 61), .ref (b + 63), .ref (b + 65), .ref (b + 67)]), .inr (1, [.ref (b + 54)]), .inl (0, 70, .inl (F 23)), .inr (1, [.ref (b + 56)]), .inl (0, 70, .inl (F 24)), .inr (1, [.ref (b + 58)]), .inl (0, 400, .inl (F 25)), .inr (1, [.ref (b + 60)]), .inl (0, 20, .inl (F 26)), .inr (1, [.ref (b + 62)]), .inl (0, 20, .inl (F 27)), .inr (1, [.ref (b + 64)]), .inl (0, 400, .inl (F 28)), .inr (1, [.ref (b + 66)]), .inl (0, 400, .inl (F 29)), .inr (1, [.ref (b + 68)]), .inl (0, 20, .inl (F 30)), .inr (1, [.ref (b + 70)]), .inl (0, 4, .inl (F 31))]
def nput (b : Nat) (F : Nat → Nat → Int32) (g : Nat → Nat) (h : zH) : zH := h.take b ++ (nlist b F g ++ h.drop (b + 71))
def updR (F : Nat → Nat → Int32) (r : Nat) (f : Nat → Int32) : Nat → Nat → Int32 := fun q => if q = r then f else F q
def updG (g : Nat → Nat) (k v : Nat) : Nat → Nat := fun q => if q = k then v else g q
def rat (n : Nat) (f : Nat → Int32) (x : Int32) : Int32 := if x < 0 ∨ n ≤ x.toNatClampNeg then -1 else f x.toNatClampNeg
def rput (n : Nat) (f : Nat → Int32) (x v : Int32) : Nat → Int32 := if x < 0 ∨ n ≤ x.toNatClampNeg then f else upd f x.toNatClampNeg v
section NPUT
variable {b : Nat} {F F' : Nat → Nat → Int32} {g g' : Nat → Nat} {h : zH}
theorem nlist_len : (nlist b F g).length = 71 := rfl
theorem nput_at {k : Nat} {e : zE} (hb : b + 71 ≤ h.length) (hk : (nlist b F g)[k]? = some e) : (nput b F g h)[b + k]? = some e := by
  have hl : k < 71 := (List.getElem?_eq_some_iff.mp hk).1
  have ht : (h.take b).length = b := by rw [List.length_take]; omega
  unfold nput
  rw [List.getElem?_append_right (by omega), ht, Nat.add_sub_cancel_left, List.getElem?_append_left (by rw [nlist_len]; exact hl)]
  exact hk
theorem nput_len (hb : b + 71 ≤ h.length) : (nput b F g h).length = h.length := by
  unfold nput
  rw [List.length_append, List.length_append, List.length_take, List.length_drop, nlist_len]
  omega
theorem nput_set {k : Nat} {e : zE} (hb : b + 71 ≤ h.length) (hk : k < 71) (he : (nlist b F g).set k e = nlist b F' g') : (nput b F g h).set (b + k) e = nput b F' g' h := by
  have ht : (h.take b).length = b := by rw [List.length_take]; omega
  unfold nput
  rw [List.set_append_right _ _ (by omega), ht, Nat.add_sub_cancel_left, List.set_append_left _ _ (by rw [nlist_len]; exact hk), he]
theorem nput_out {j : Nat} (hb : b + 71 ≤ h.length) (hj : j < b ∨ b + 71 ≤ j) : (nput b F g h)[j]? = h[j]? := by
  have ht : (h.take b).length = b := by rw [List.length_take]; omega
  unfold nput
  rcases hj with hj | hj
  · rw [List.getElem?_append_left (by omega), List.getElem?_take_of_lt hj]
  · rw [List.getElem?_append_right (by omega), ht, List.getElem?_append_right (by rw [nlist_len]; omega), nlist_len, List.getElem?_drop]
    congr 1
    omega
theorem nput_ext {h2 : zH} (hb : b + 71 ≤ h.length) (hl : h2.length = h.length) (h1 : ∀ k e, (nlist b F g)[k]? = some e → h2[b + k]? = some e) (ho : ∀ j, j < b ∨ b + 71 ≤ j → h2[j]? = h[j]?) : nput b F g h = h2 := by
  apply List.ext_getElem?
  intro j
  by_cases hj : j < b ∨ b + 71 ≤ j
  · rw [nput_out hb hj, ho j hj]
  · have hk : j - b < (nlist b F g).length := by rw [nlist_len]; omega
    have e := List.getElem?_eq_getElem hk
    have a1 := nput_at hb e
    have a2 := h1 _ _ e
    rw [show b + (j - b) = j by omega] at a1 a2
    rw [a1, a2]
theorem nput_nput (hb : b + 71 ≤ h.length) : nput b F' g' (nput b F g h) = nput b F' g' h := by
  refine nput_ext (by rw [nput_len hb]; exact hb) (by rw [nput_len hb, nput_len hb]) (fun k e he => nput_at hb he) (fun j hj => by rw [nput_out hb hj, nput_out hb hj])
theorem nput_zss (hb : b + 71 ≤ h.length) : zss (nput b F g h) = zss (nput b F' g' h) := by
  simp only [nput, zss, List.map_append, List.sum_append]
  rfl
end NPUT
/-! the methods of a row -/
theorem zi_0_0 : zI 0 0 = some (.iload_n 1, []) := by decide +kernel
theorem zi_0_1 : zI 0 1 = some (.ifCond .lt 21, [22]) := by decide +kernel
theorem zi_0_4 : zI 0 4 = some (.iload_n 1, []) := by decide +kernel
theorem zi_0_5 : zI 0 5 = some (.aload_n 0, []) := by decide +kernel
theorem zi_0_6 : zI 0 6 = some (.getfield 9, [1, 0, 0]) := by decide +kernel
theorem zi_0_9 : zI 0 9 = some (.arraylength, []) := by decide +kernel
theorem zi_0_10 : zI 0 10 = some (.if_icmp .ge 12, [22]) := by decide +kernel
theorem zi_0_13 : zI 0 13 = some (.aload_n 0, []) := by decide +kernel
theorem zi_0_14 : zI 0 14 = some (.getfield 9, [1, 0, 0]) := by decide +kernel
theorem zi_0_17 : zI 0 17 = some (.iload_n 1, []) := by decide +kernel
theorem zi_0_18 : zI 0 18 = some (.iaload, []) := by decide +kernel
theorem zi_0_19 : zI 0 19 = some (.goto 4, [23]) := by decide +kernel
theorem zi_0_22 : zI 0 22 = some (.iconst (-1), []) := by decide +kernel
theorem zi_0_23 : zI 0 23 = some (.ireturn, []) := by decide +kernel
theorem zi_1_0 : zI 1 0 = some (.iload_n 1, []) := by decide +kernel
theorem zi_1_1 : zI 1 1 = some (.ifCond .lt 19, [20]) := by decide +kernel
theorem zi_1_4 : zI 1 4 = some (.iload_n 1, []) := by decide +kernel
theorem zi_1_5 : zI 1 5 = some (.aload_n 0, []) := by decide +kernel
theorem zi_1_6 : zI 1 6 = some (.getfield 9, [1, 0, 0]) := by decide +kernel
theorem zi_1_9 : zI 1 9 = some (.arraylength, []) := by decide +kernel
theorem zi_1_10 : zI 1 10 = some (.if_icmp .ge 10, [20]) := by decide +kernel
theorem zi_1_13 : zI 1 13 = some (.aload_n 0, []) := by decide +kernel
theorem zi_1_14 : zI 1 14 = some (.getfield 9, [1, 0, 0]) := by decide +kernel
theorem zi_1_17 : zI 1 17 = some (.iload_n 1, []) := by decide +kernel
theorem zi_1_18 : zI 1 18 = some (.iload_n 2, []) := by decide +kernel
theorem zi_1_19 : zI 1 19 = some (.iastore, []) := by decide +kernel
theorem zi_1_20 : zI 1 20 = some (.return_, []) := by decide +kernel
theorem zi_9_0 : zI 9 0 = some (.iload_n 1, []) := by decide +kernel
theorem zi_9_1 : zI 9 1 = some (.ifCond .lt 22, [23]) := by decide +kernel
theorem zi_9_4 : zI 9 4 = some (.iload_n 1, []) := by decide +kernel
theorem zi_9_5 : zI 9 5 = some (.aload_n 0, []) := by decide +kernel
theorem zi_9_6 : zI 9 6 = some (.getfield 9, [1, 0, 0]) := by decide +kernel
theorem zi_9_9 : zI 9 9 = some (.arraylength, []) := by decide +kernel
theorem zi_9_10 : zI 9 10 = some (.if_icmp .ge 13, [23]) := by decide +kernel
theorem zi_9_13 : zI 9 13 = some (.aload_n 0, []) := by decide +kernel
theorem zi_9_14 : zI 9 14 = some (.getfield 9, [1, 0, 0]) := by decide +kernel
theorem zi_9_17 : zI 9 17 = some (.iload_n 1, []) := by decide +kernel
theorem zi_9_18 : zI 9 18 = some (.dup2, []) := by decide +kernel
theorem zi_9_19 : zI 9 19 = some (.iaload, []) := by decide +kernel
theorem zi_9_20 : zI 9 20 = some (.iconst 1, []) := by decide +kernel
theorem zi_9_21 : zI 9 21 = some (.iadd, []) := by decide +kernel
theorem zi_9_22 : zI 9 22 = some (.iastore, []) := by decide +kernel
theorem zi_9_23 : zI 9 23 = some (.return_, []) := by decide +kernel
theorem zi_18_0 : zI 18 0 = some (.iconst 0, []) := by decide +kernel
theorem zi_18_1 : zI 18 1 = some (.istore_n 1, []) := by decide +kernel
theorem zi_18_2 : zI 18 2 = some (.iload_n 1, []) := by decide +kernel
theorem zi_18_3 : zI 18 3 = some (.aload_n 0, []) := by decide +kernel
theorem zi_18_4 : zI 18 4 = some (.getfield 9, [1, 0, 0]) := by decide +kernel
theorem zi_18_7 : zI 18 7 = some (.arraylength, []) := by decide +kernel
theorem zi_18_8 : zI 18 8 = some (.if_icmp .ge 16, [24]) := by decide +kernel
theorem zi_18_11 : zI 18 11 = some (.aload_n 0, []) := by decide +kernel
theorem zi_18_12 : zI 18 12 = some (.getfield 9, [1, 0, 0]) := by decide +kernel
theorem zi_18_15 : zI 18 15 = some (.iload_n 1, []) := by decide +kernel
theorem zi_18_16 : zI 18 16 = some (.iconst 0, []) := by decide +kernel
theorem zi_18_17 : zI 18 17 = some (.iastore, []) := by decide +kernel
theorem zi_18_18 : zI 18 18 = some (.iinc 1 1, []) := by decide +kernel
theorem zi_18_21 : zI 18 21 = some (.goto (-19), [2]) := by decide +kernel
theorem zi_18_24 : zI 18 24 = some (.return_, []) := by decide +kernel
theorem n_le {x : Int32} (h : zcnd .lt x 0 = false) {n : Nat} (hn : n < 2 ^ 31) (h2 : zcnd .ge x (Int32.ofNat n) = false) : ¬ (x < 0 ∨ n ≤ x.toNatClampNeg) := by
  simp only [zcnd, decide_eq_false_iff_not] at h h2
  rintro (q | q)
  · exact h q
  · obtain ⟨j, hj, rfl⟩ := nI_of h
    rw [nI_clamp hj] at q
    exact h2 ((nI_leI hn hj).mpr q)
theorem n_out {x : Int32} (h : zcnd .lt x 0 = true) {n : Nat} : x < 0 ∨ n ≤ x.toNatClampNeg := by
  simp only [zcnd, decide_eq_true_eq] at h
  exact Or.inl h
theorem n_out2 {x : Int32} (h : zcnd .lt x 0 = false) {n : Nat} (hn : n < 2 ^ 31) (h2 : zcnd .ge x (Int32.ofNat n) = true) : x < 0 ∨ n ≤ x.toNatClampNeg := by
  simp only [zcnd, decide_eq_false_iff_not, decide_eq_true_eq] at h h2
  obtain ⟨j, hj, rfl⟩ := nI_of h
  rw [nI_clamp hj]
  exact Or.inr ((nI_leI hn hj).mp h2)
theorem c_at {h : zH} {o a n : Nat} {f : Nat → Int32} {x : Int32} (h1 : h[o]? = some (.inr (1, [.ref a]))) (h2 : h[a]? = some (.inl (0, n, .inl f))) (hn : n < 2 ^ 31) : zcalls zTB 0 [.ref o, .int x] h (some (.int (rat n f x)), h) := by
  refine zcalls_of (Nat.le_of_ble_eq_true rfl) ?_
  show zruns zTB 0 0 [some (.ref o), some (.int x)] [] h _
  refine zr_iload_n (pc' := 1) zi_0_0 rfl rfl ?_
  refine zr_if (pc' := 4) zi_0_1 rfl (fun hc => ?_) (fun hc => ?_)
  · rw [show rat n f x = -1 from if_pos (n_out hc)]
    refine zr_iconst (v := -1) (pc' := 23) zi_0_22 rfl rfl ?_
    exact zr_ireturn zi_0_23 rfl
  refine zr_iload_n (pc' := 5) zi_0_4 rfl rfl ?_
  refine zr_aload_n (pc' := 6) zi_0_5 rfl rfl ?_
  refine zr_get (pc' := 9) zi_0_6 h1 rfl rfl ?_
  refine zr_alen (pc' := 10) zi_0_9 h2 rfl rfl ?_
  refine zr_icmp (pc' := 13) zi_0_10 rfl (fun hc2 => ?_) (fun hc2 => ?_)
  · rw [show rat n f x = -1 from if_pos (n_out2 hc hn hc2)]
    refine zr_iconst (v := -1) (pc' := 23) zi_0_22 rfl rfl ?_
    exact zr_ireturn zi_0_23 rfl
  have hin := n_le hc hn hc2
  rw [show rat n f x = f x.toNatClampNeg from if_neg hin]
  refine zr_aload_n (pc' := 14) zi_0_13 rfl rfl ?_
  refine zr_get (pc' := 17) zi_0_14 h1 rfl rfl ?_
  refine zr_iload_n (pc' := 18) zi_0_17 rfl rfl ?_
  refine zr_iald (pc' := 19) zi_0_18 h2 hin rfl rfl ?_
  refine zr_goto zi_0_19 ?_
  exact zr_ireturn zi_0_23 rfl
theorem set_same {h : zH} {a : Nat} {e : zE} (h2 : h[a]? = some e) : h.set a e = h := by
  apply List.ext_getElem?
  intro j
  by_cases hj : a = j
  · subst hj
    rw [List.getElem?_set_self (List.getElem?_eq_some_iff.mp h2).1, h2]
  · rw [List.getElem?_set_ne hj]
theorem c_put {h : zH} {o a n : Nat} {f : Nat → Int32} {x v : Int32} (h1 : h[o]? = some (.inr (1, [.ref a]))) (h2 : h[a]? = some (.inl (0, n, .inl f))) (ha : 1 ≤ a) (hn : n < 2 ^ 31) : zcalls zTB 1 [.ref o, .int x, .int v] h (none, h.set a (.inl (0, n, .inl (rput n f x v)))) := by
  refine zcalls_of (Nat.le_of_ble_eq_true rfl) ?_
  show zruns zTB 1 0 [some (.ref o), some (.int x), some (.int v)] [] h _
  refine zr_iload_n (pc' := 1) zi_1_0 rfl rfl ?_
  refine zr_if (pc' := 4) zi_1_1 rfl (fun hc => ?_) (fun hc => ?_)
  · rw [show rput n f x v = f from if_pos (n_out hc), set_same h2]
    exact zr_return zi_1_20 rfl
  refine zr_iload_n (pc' := 5) zi_1_4 rfl rfl ?_
  refine zr_aload_n (pc' := 6) zi_1_5 rfl rfl ?_
  refine zr_get (pc' := 9) zi_1_6 h1 rfl rfl ?_
  refine zr_alen (pc' := 10) zi_1_9 h2 rfl rfl ?_
  refine zr_icmp (pc' := 13) zi_1_10 rfl (fun hc2 => ?_) (fun hc2 => ?_)
  · rw [show rput n f x v = f from if_pos (n_out2 hc hn hc2), set_same h2]
    exact zr_return zi_1_20 rfl
  have hin := n_le hc hn hc2
  rw [show rput n f x v = upd f x.toNatClampNeg v from if_neg hin]
  refine zr_aload_n (pc' := 14) zi_1_13 rfl rfl ?_
  refine zr_get (pc' := 17) zi_1_14 h1 rfl rfl ?_
  refine zr_iload_n (pc' := 18) zi_1_17 rfl rfl ?_
  refine zr_iload_n (pc' := 19) zi_1_18 rfl rfl ?_
  refine zr_iast (pc' := 20) zi_1_19 ha h2 hin rfl rfl ?_
  exact zr_return zi_1_20 rfl
theorem c_increase {h : zH} {o a n : Nat} {f : Nat → Int32} {x : Int32} (h1 : h[o]? = some (.inr (1, [.ref a]))) (h2 : h[a]? = some (.inl (0, n, .inl f))) (ha : 1 ≤ a) (hn : n < 2 ^ 31) : zcalls zTB 9 [.ref o, .int x] h (none, h.set a (.inl (0, n, .inl (rput n f x (f x.toNatClampNeg + 1))))) := by
  refine zcalls_of (Nat.le_of_ble_eq_true rfl) ?_
  show zruns zTB 9 0 [some (.ref o), some (.int x)] [] h _
  refine zr_iload_n (pc' := 1) zi_9_0 rfl rfl ?_
  refine zr_if (pc' := 4) zi_9_1 rfl (fun hc => ?_) (fun hc => ?_)
  · rw [show rput n f x (f x.toNatClampNeg + 1) = f from if_pos (n_out hc), set_same h2]
    exact zr_return zi_9_23 rfl
  refine zr_iload_n (pc' := 5) zi_9_4 rfl rfl ?_
  refine zr_aload_n (pc' := 6) zi_9_5 rfl rfl ?_
  refine zr_get (pc' := 9) zi_9_6 h1 rfl rfl ?_
  refine zr_alen (pc' := 10) zi_9_9 h2 rfl rfl ?_
  refine zr_icmp (pc' := 13) zi_9_10 rfl (fun hc2 => ?_) (fun hc2 => ?_)
  · rw [show rput n f x (f x.toNatClampNeg + 1) = f from if_pos (n_out2 hc hn hc2), set_same h2]
    exact zr_return zi_9_23 rfl
  have hin := n_le hc hn hc2
  rw [show rput n f x (f x.toNatClampNeg + 1) = upd f x.toNatClampNeg (f x.toNatClampNeg + 1) from if_neg hin]
  refine zr_aload_n (pc' := 14) zi_9_13 rfl rfl ?_
  refine zr_get (pc' := 17) zi_9_14 h1 rfl rfl ?_
  refine zr_iload_n (pc' := 18) zi_9_17 rfl rfl ?_
  refine zr_dup2 (pc' := 19) zi_9_18 ⟨rfl, rfl⟩ rfl ?_
  refine zr_iald (pc' := 20) zi_9_19 h2 hin rfl rfl ?_
  refine zr_iconst (v := 1) (pc' := 21) zi_9_20 rfl rfl ?_
  refine zr_iadd (pc' := 22) zi_9_21 rfl rfl ?_
  refine zr_iast (pc' := 23) zi_9_22 ha h2 hin rfl rfl ?_
  exact zr_return zi_9_23 rfl
theorem c_clear_loop {o a n : Nat} (ha : 1 ≤ a) (hao : a ≠ o) (hn : n < 2 ^ 31) : ∀ (k i : Nat) (h : zH) (f : Nat → Int32), i + k = n → h[o]? = some (.inr (1, [.ref a])) → h[a]? = some (.inl (0, n, .inl f)) → (∀ j, j < i → f j = 0) → ∃ f', (∀ j, j < n → f' j = 0) ∧ zruns zTB 18 2 [some (.ref o), some (.int (nI i))] [] h (none, h.set a (.inl (0, n, .inl f')))
  | 0, i, h, f, hk, h1, h2, hf => by
    refine ⟨f, fun j hj => hf j (by omega), ?_⟩
    rw [set_same h2]
    refine zr_iload_n (pc' := 3) zi_18_2 rfl rfl ?_
    refine zr_aload_n (pc' := 4) zi_18_3 rfl rfl ?_
    refine zr_get (pc' := 7) zi_18_4 h1 rfl rfl ?_
    refine zr_alen (pc' := 8) zi_18_7 h2 rfl rfl ?_
    refine zr_icmp (pc' := 11) zi_18_8 rfl (fun hc => ?_) (fun hc => ?_)
    · exact zr_return zi_18_24 rfl
    · simp only [zcnd, decide_eq_false_iff_not] at hc
      exact absurd ((nI_leI hn (show i < 2 ^ 31 by omega)).mpr (by omega)) hc
  | k + 1, i, h, f, hk, h1, h2, hf => by
    have hl := (List.getElem?_eq_some_iff.mp h2).1
    obtain ⟨f', hf', hr⟩ := c_clear_loop ha hao hn k (i + 1) (h.set a (.inl (0, n, .inl (upd f i 0)))) (upd f i 0) (by omega) (by rw [List.getElem?_set_ne hao]; exact h1) (List.getElem?_set_self hl) (fun j hj => by
      by_cases q : j = i
      · subst q; simp [upd]
      · simp only [upd, if_neg q]; exact hf j (by omega))
    refine ⟨f', hf', ?_⟩
    refine zr_iload_n (pc' := 3) zi_18_2 rfl rfl ?_
    refine zr_aload_n (pc' := 4) zi_18_3 rfl rfl ?_
    refine zr_get (pc' := 7) zi_18_4 h1 rfl rfl ?_
    refine zr_alen (pc' := 8) zi_18_7 h2 rfl rfl ?_
    refine zr_icmp (pc' := 11) zi_18_8 rfl (fun hc => ?_) (fun hc => ?_)
    · simp only [zcnd, decide_eq_true_eq] at hc
      exact absurd hc (nI_ge (show i < n by omega) hn)
    refine zr_aload_n (pc' := 12) zi_18_11 rfl rfl ?_
    refine zr_get (pc' := 15) zi_18_12 h1 rfl rfl ?_
    refine zr_iload_n (pc' := 16) zi_18_15 rfl rfl ?_
    refine zr_iconst (v := 0) (pc' := 17) zi_18_16 rfl rfl ?_
    refine zr_iast (pc' := 18) (h' := h.set a (.inl (0, n, .inl (upd f i 0)))) zi_18_17 ha h2 (nI_in (show i < n by omega) hn) rfl (by rw [nI_clamp (show i < 2 ^ 31 by omega)]) ?_
    refine zr_iinc (pc' := 21) (v := nI (i + 1)) zi_18_18 rfl (nI_1 i) rfl rfl ?_
    refine zr_goto zi_18_21 ?_
    have e : h.set a (.inl (0, n, .inl f')) = (h.set a (.inl (0, n, .inl (upd f i 0)))).set a (.inl (0, n, .inl f')) := by rw [List.set_set]
    rw [e]
    exact hr
theorem c_clear {h : zH} {o a n : Nat} {f : Nat → Int32} (h1 : h[o]? = some (.inr (1, [.ref a]))) (h2 : h[a]? = some (.inl (0, n, .inl f))) (ha : 1 ≤ a) (hao : a ≠ o) (hn : n < 2 ^ 31) : ∃ f', (∀ j, j < n → f' j = 0) ∧ zcalls zTB 18 [.ref o] h (none, h.set a (.inl (0, n, .inl f'))) := by
  obtain ⟨f', hf, hr⟩ := c_clear_loop ha hao hn n 0 h f (by omega) h1 h2 (fun j hj => by omega)
  refine ⟨f', hf, zcalls_of (Nat.le_of_ble_eq_true rfl) ?_⟩
  show zruns zTB 18 0 [some (.ref o), none] [] h _
  refine zr_iconst (v := nI 0) (pc' := 1) zi_18_0 rfl rfl ?_
  refine zr_istore_n (pc' := 2) zi_18_1 (Nat.le_of_ble_eq_true rfl) rfl rfl ?_
  exact hr
section NROW
variable {b : Nat} {F : Nat → Nat → Int32} {g : Nat → Nat} {h : zH} {y pc pc' : Nat} {L : zL} {st : List Value} {r : zR} {ax : List Nat}
/-- row k1's object at k -/
theorem zr_at {ix k k1 n : Nat} {f : Nat → Int32} {x : Int32} (hI : zI y pc = some (.invokevirtual ix, 0 :: 0 :: 1 :: 1 :: ax)) (hb : b + 71 ≤ h.length) (e1 : (nlist b F g)[k]? = some (.inr (1, [.ref (b + k1)]))) (e2 : (nlist b F g)[k1]? = some (.inl (0, n, .inl f))) (hn : n < 2 ^ 31) (hs : zcat8 (.ref (b + k) :: st) = true) (hp : pc + 3 = pc') (kk : zruns zTB y pc' L (.int (rat n f x) :: st) (nput b F g h) r) : zruns zTB y pc L (.int x :: .ref (b + k) :: st) (nput b F g h) r :=
  zr_v1 hI (nput_at hb e1) hs (c_at (nput_at hb e1) (nput_at hb e2) hn) hp kk
theorem rat_n {n i : Nat} {f : Nat → Int32} (hi : i < n) (hn : n < 2 ^ 31) : rat n f (nI i) = f i := by
  unfold rat
  rw [if_neg (nI_in hi hn), nI_clamp (by omega)]
theorem rput_n {n i : Nat} {f : Nat → Int32} {v : Int32} (hi : i < n) (hn : n < 2 ^ 31) : rput n f (nI i) v = upd f i v := by
  unfold rput
  rw [if_neg (nI_in hi hn), nI_clamp (by omega)]
theorem zr_atN {ix k k1 n i : Nat} {f : Nat → Int32} (hi : i < n) (hI : zI y pc = some (.invokevirtual ix, 0 :: 0 :: 1 :: 1 :: ax)) (hb : b + 71 ≤ h.length) (e1 : (nlist b F g)[k]? = some (.inr (1, [.ref (b + k1)]))) (e2 : (nlist b F g)[k1]? = some (.inl (0, n, .inl f))) (hn : n < 2 ^ 31) (hs : zcat8 (.ref (b + k) :: st) = true) (hp : pc + 3 = pc') (kk : zruns zTB y pc' L (.int (f i) :: st) (nput b F g h) r) : zruns zTB y pc L (.int (nI i) :: .ref (b + k) :: st) (nput b F g h) r :=
  zr_at hI hb e1 e2 hn hs hp (by rw [rat_n hi hn]; exact kk)
theorem zr_rput {ix k k1 n rr : Nat} {f : Nat → Int32} {x v : Int32} (hI : zI y pc = some (.invokevirtual ix, 1 :: 0 :: 2 :: 1 :: ax)) (hb : b + 71 ≤ h.length) (e1 : (nlist b F g)[k]? = some (.inr (1, [.ref (b + k1)]))) (e2 : (nlist b F g)[k1]? = some (.inl (0, n, .inl f))) (e3 : ∀ f', (nlist b F g).set k1 (.inl (0, n, .inl f')) = nlist b (updR F rr f') g) (hk : 1 ≤ k1) (hn : n < 2 ^ 31) (hs : zcat8 (.ref (b + k) :: st) = true) (hp : pc + 3 = pc') (kk : zruns zTB y pc' L st (nput b (updR F rr (rput n f x v)) g h) r) : zruns zTB y pc L (.int v :: .int x :: .ref (b + k) :: st) (nput b F g h) r := by
  have hl : k1 < 71 := (List.getElem?_eq_some_iff.mp e2).1
  refine zr_n2 hI (nput_at hb e1) hs (c_put (nput_at hb e1) (nput_at hb e2) (by omega) hn) hp ?_
  rw [nput_set hb hl (e3 _)]
  exact kk
theorem zr_rputN {ix k k1 n rr i : Nat} {f : Nat → Int32} {v : Int32} (hi : i < n) (hI : zI y pc = some (.invokevirtual ix, 1 :: 0 :: 2 :: 1 :: ax)) (hb : b + 71 ≤ h.length) (e1 : (nlist b F g)[k]? = some (.inr (1, [.ref (b + k1)]))) (e2 : (nlist b F g)[k1]? = some (.inl (0, n, .inl f))) (e3 : ∀ f', (nlist b F g).set k1 (.inl (0, n, .inl f')) = nlist b (updR F rr f') g) (hk : 1 ≤ k1) (hn : n < 2 ^ 31) (hs : zcat8 (.ref (b + k) :: st) = true) (hp : pc + 3 = pc') (kk : zruns zTB y pc' L st (nput b (updR F rr (upd f i v)) g h) r) : zruns zTB y pc L (.int v :: .int (nI i) :: .ref (b + k) :: st) (nput b F g h) r :=
  zr_rput hI hb e1 e2 e3 hk hn hs hp (by rw [rput_n hi hn]; exact kk)
theorem zr_rinc {ix k k1 n rr : Nat} {f : Nat → Int32} {x : Int32} (hI : zI y pc = some (.invokevirtual ix, 9 :: 0 :: 1 :: 1 :: ax)) (hb : b + 71 ≤ h.length) (e1 : (nlist b F g)[k]? = some (.inr (1, [.ref (b + k1)]))) (e2 : (nlist b F g)[k1]? = some (.inl (0, n, .inl f))) (e3 : ∀ f', (nlist b F g).set k1 (.inl (0, n, .inl f')) = nlist b (updR F rr f') g) (hk : 1 ≤ k1) (hn : n < 2 ^ 31) (hs : zcat8 (.ref (b + k) :: st) = true) (hp : pc + 3 = pc') (kk : zruns zTB y pc' L st (nput b (updR F rr (rput n f x (f x.toNatClampNeg + 1))) g h) r) : zruns zTB y pc L (.int x :: .ref (b + k) :: st) (nput b F g h) r := by
  have hl : k1 < 71 := (List.getElem?_eq_some_iff.mp e2).1
  refine zr_n1 hI (nput_at hb e1) hs (c_increase (nput_at hb e1) (nput_at hb e2) (by omega) hn) hp ?_
  rw [nput_set hb hl (e3 _)]
  exact kk
theorem zr_rclear {ix k k1 n rr : Nat} {f : Nat → Int32} (hI : zI y pc = some (.invokevirtual ix, 18 :: 0 :: 0 :: 1 :: ax)) (hb : b + 71 ≤ h.length) (e1 : (nlist b F g)[k]? = some (.inr (1, [.ref (b + k1)]))) (e2 : (nlist b F g)[k1]? = some (.inl (0, n, .inl f))) (e3 : ∀ f', (nlist b F g).set k1 (.inl (0, n, .inl f')) = nlist b (updR F rr f') g) (hk : 1 ≤ k1) (hkk : k1 ≠ k) (hn : n < 2 ^ 31) (hs : zcat8 (.ref (b + k) :: st) = true) (hp : pc + 3 = pc') (kk : ∀ f', (∀ j, j < n → f' j = 0) → zruns zTB y pc' L st (nput b (updR F rr f') g h) r) : zruns zTB y pc L (.ref (b + k) :: st) (nput b F g h) r := by
  have hl : k1 < 71 := (List.getElem?_eq_some_iff.mp e2).1
  obtain ⟨f', hf, hc⟩ := c_clear (nput_at hb e1) (nput_at hb e2) (by omega) (by omega) hn
  refine zr_n0 hI (nput_at hb e1) hs hc hp ?_
  rw [nput_set hb hl (e3 _)]
  exact kk f' hf
end NROW

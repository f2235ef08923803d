theorem zi_130_0 : zI 130 0 = some (.aload_n 0, []) := by decide +kernel
theorem zi_130_1 : zI 130 1 = some (.invokespecial 1, [0, 5, 561, 3, 4]) := by decide +kernel
theorem zi_130_4 : zI 130 4 = some (.aload_n 0, []) := by decide +kernel
theorem zi_130_5 : zI 130 5 = some (.bipush 70, []) := by decide +kernel
theorem zi_130_7 : zI 130 7 = some (.newarray .int, [0, 5]) := by decide +kernel
theorem zi_130_9 : zI 130 9 = some (.putfield 9, [7, 2, 1, 109]) := by decide +kernel
theorem zi_130_12 : zI 130 12 = some (.aload_n 0, []) := by decide +kernel
theorem zi_130_13 : zI 130 13 = some (.bipush 70, []) := by decide +kernel
theorem zi_130_15 : zI 130 15 = some (.newarray .int, [0, 5]) := by decide +kernel
theorem zi_130_17 : zI 130 17 = some (.putfield 13, [7, 3, 1, 189]) := by decide +kernel
theorem zi_130_20 : zI 130 20 = some (.aload_n 0, []) := by decide +kernel
theorem zi_130_21 : zI 130 21 = some (.bipush 70, []) := by decide +kernel
theorem zi_130_23 : zI 130 23 = some (.newarray .int, [0, 5]) := by decide +kernel
theorem zi_130_25 : zI 130 25 = some (.putfield 16, [7, 4, 1, 195]) := by decide +kernel
theorem zi_130_28 : zI 130 28 = some (.aload_n 0, []) := by decide +kernel
theorem zi_130_29 : zI 130 29 = some (.bipush 70, []) := by decide +kernel
theorem zi_130_31 : zI 130 31 = some (.newarray .int, [0, 5]) := by decide +kernel
theorem zi_130_33 : zI 130 33 = some (.putfield 19, [7, 5, 1, 86]) := by decide +kernel
theorem zi_130_36 : zI 130 36 = some (.aload_n 0, []) := by decide +kernel
theorem zi_130_37 : zI 130 37 = some (.sipush 560, []) := by decide +kernel
theorem zi_130_40 : zI 130 40 = some (.newarray .int, [0, 5]) := by decide +kernel
theorem zi_130_42 : zI 130 42 = some (.putfield 22, [7, 6, 1, 26]) := by decide +kernel
theorem zi_130_45 : zI 130 45 = some (.aload_n 0, []) := by decide +kernel
theorem zi_130_46 : zI 130 46 = some (.iconst 4, []) := by decide +kernel
theorem zi_130_47 : zI 130 47 = some (.newarray .int, [0, 5]) := by decide +kernel
theorem zi_130_49 : zI 130 49 = some (.dup, []) := by decide +kernel
theorem zi_130_50 : zI 130 50 = some (.iconst 0, []) := by decide +kernel
theorem zi_130_51 : zI 130 51 = some (.bipush 50, []) := by decide +kernel
theorem zi_130_53 : zI 130 53 = some (.iastore, []) := by decide +kernel
theorem zi_130_54 : zI 130 54 = some (.dup, []) := by decide +kernel
theorem zi_130_55 : zI 130 55 = some (.iconst 1, []) := by decide +kernel
theorem zi_130_56 : zI 130 56 = some (.bipush 30, []) := by decide +kernel
theorem zi_130_58 : zI 130 58 = some (.iastore, []) := by decide +kernel
theorem zi_130_59 : zI 130 59 = some (.dup, []) := by decide +kernel
theorem zi_130_60 : zI 130 60 = some (.iconst 2, []) := by decide +kernel
theorem zi_130_61 : zI 130 61 = some (.bipush 10, []) := by decide +kernel
theorem zi_130_63 : zI 130 63 = some (.iastore, []) := by decide +kernel
theorem zi_130_64 : zI 130 64 = some (.dup, []) := by decide +kernel
theorem zi_130_65 : zI 130 65 = some (.iconst 3, []) := by decide +kernel
theorem zi_130_66 : zI 130 66 = some (.bipush 20, []) := by decide +kernel
theorem zi_130_68 : zI 130 68 = some (.iastore, []) := by decide +kernel
theorem zi_130_69 : zI 130 69 = some (.putfield 25, [7, 7, 1, 27]) := by decide +kernel
theorem zi_130_72 : zI 130 72 = some (.aload_n 0, []) := by decide +kernel
theorem zi_130_73 : zI 130 73 = some (.bipush 70, []) := by decide +kernel
theorem zi_130_75 : zI 130 75 = some (.newarray .int, [0, 5]) := by decide +kernel
theorem zi_130_77 : zI 130 77 = some (.putfield 28, [7, 9, 1, 38]) := by decide +kernel
theorem zi_130_80 : zI 130 80 = some (.aload_n 0, []) := by decide +kernel
theorem zi_130_81 : zI 130 81 = some (.bipush 20, []) := by decide +kernel
theorem zi_130_83 : zI 130 83 = some (.newarray .int, [0, 5]) := by decide +kernel
theorem zi_130_85 : zI 130 85 = some (.putfield 31, [7, 11, 1, 24]) := by decide +kernel
theorem zi_130_88 : zI 130 88 = some (.aload_n 0, []) := by decide +kernel
theorem zi_130_89 : zI 130 89 = some (.sipush 160, []) := by decide +kernel
theorem zi_130_92 : zI 130 92 = some (.newarray .int, [0, 5]) := by decide +kernel
theorem zi_130_94 : zI 130 94 = some (.putfield 34, [7, 12, 1, 25]) := by decide +kernel
theorem zi_130_97 : zI 130 97 = some (.aload_n 0, []) := by decide +kernel
theorem zi_130_98 : zI 130 98 = some (.bipush 70, []) := by decide +kernel
theorem zi_130_100 : zI 130 100 = some (.newarray .int, [0, 5]) := by decide +kernel
theorem zi_130_102 : zI 130 102 = some (.putfield 37, [7, 14, 1, 96]) := by decide +kernel
theorem zi_130_105 : zI 130 105 = some (.aload_n 0, []) := by decide +kernel
theorem zi_130_106 : zI 130 106 = some (.bipush 70, []) := by decide +kernel
theorem zi_130_108 : zI 130 108 = some (.newarray .int, [0, 5]) := by decide +kernel
theorem zi_130_110 : zI 130 110 = some (.putfield 40, [7, 15, 1, 168]) := by decide +kernel
theorem zi_130_113 : zI 130 113 = some (.aload_n 0, []) := by decide +kernel
theorem zi_130_114 : zI 130 114 = some (.bipush 70, []) := by decide +kernel
theorem zi_130_116 : zI 130 116 = some (.newarray .int, [0, 5]) := by decide +kernel
theorem zi_130_118 : zI 130 118 = some (.putfield 43, [7, 16, 1, 169]) := by decide +kernel
theorem zi_130_121 : zI 130 121 = some (.aload_n 0, []) := by decide +kernel
theorem zi_130_122 : zI 130 122 = some (.bipush 70, []) := by decide +kernel
theorem zi_130_124 : zI 130 124 = some (.newarray .int, [0, 5]) := by decide +kernel
theorem zi_130_126 : zI 130 126 = some (.putfield 46, [7, 18, 1, 175]) := by decide +kernel
theorem zi_130_129 : zI 130 129 = some (.aload_n 0, []) := by decide +kernel
theorem zi_130_130 : zI 130 130 = some (.bipush 70, []) := by decide +kernel
theorem zi_130_132 : zI 130 132 = some (.newarray .int, [0, 5]) := by decide +kernel
theorem zi_130_134 : zI 130 134 = some (.putfield 49, [7, 19, 1, 176]) := by decide +kernel
theorem zi_130_137 : zI 130 137 = some (.aload_n 0, []) := by decide +kernel
theorem zi_130_138 : zI 130 138 = some (.bipush 80, []) := by decide +kernel
theorem zi_130_140 : zI 130 140 = some (.newarray .int, [0, 5]) := by decide +kernel
theorem zi_130_142 : zI 130 142 = some (.putfield 52, [7, 21, 1, 194]) := by decide +kernel
theorem zi_130_145 : zI 130 145 = some (.return_, []) := by decide +kernel
/-! THE REFERENCE'S CELLS: rows G r, counters v k (thrown, lines, learned, templates, sessions, spikes, causes), where of, places, slot stand: r -/
def mlist (c : Nat) (G : Nat → Nat → Int32) (v : Nat → Int32) (r : Nat → Nat) : zH := [.inr (7, [.int (v 0), .int (v 1), .ref (c + 1), .ref (c + 2), .ref (c + 3), .ref (c + 4), .ref (c + 5), .ref (c + 6), .int (v 2), .ref (r 0), .int (v 3), .ref (r 1), .ref (r 2), .int (v 4), .ref (c + 10), .ref (c + 11), .ref (c + 12), .int (v 5), .ref (c + 13), .ref (c + 14), .int (v 6), .ref (c + 15)]), .inl (0, 70, .inl (G 0)), .inl (0, 70, .inl (G 1)), .inl (0, 70, .inl (G 2)), .inl (0, 70, .inl (G 3)), .inl (0, 560, .inl (G 4)), .inl (0, 4, .inl (G 5)), .inl (0, 70, .inl (G 6)), .inl (0, 20, .inl (G 7)), .inl (0, 160, .inl (G 8)), .inl (0, 70, .inl (G 9)), .inl (0, 70, .inl (G 10)), .inl (0, 70, .inl (G 11)), .inl (0, 70, .inl (G 12)), .inl (0, 70, .inl (G 13)), .inl (0, 80, .inl (G 14))]
def mput (c : Nat) (G : Nat → Nat → Int32) (v : Nat → Int32) (r : Nat → Nat) (h : zH) : zH := h.take c ++ (mlist c G v r ++ h.drop (c + 16))
section MPUT
variable {c : Nat} {G G' : Nat → Nat → Int32} {v v' : Nat → Int32} {r r' : Nat → Nat} {h : zH}
theorem mlist_len : (mlist c G v r).length = 16 := rfl
theorem mput_at {k : Nat} {e : zE} (hb : c + 16 ≤ h.length) (hk : (mlist c G v r)[k]? = some e) : (mput c G v r h)[c + k]? = some e := by
  have hl : k < 16 := (List.getElem?_eq_some_iff.mp hk).1
  have ht : (h.take c).length = c := by rw [List.length_take]; omega
  unfold mput
  rw [List.getElem?_append_right (by omega), ht, Nat.add_sub_cancel_left, List.getElem?_append_left (by rw [mlist_len]; exact hl)]
  exact hk
theorem mput_len (hb : c + 16 ≤ h.length) : (mput c G v r h).length = h.length := by
  unfold mput
  rw [List.length_append, List.length_append, List.length_take, List.length_drop, mlist_len]
  omega
theorem mput_set {k : Nat} {e : zE} (hb : c + 16 ≤ h.length) (hk : k < 16) (he : (mlist c G v r).set k e = mlist c G' v' r') : (mput c G v r h).set (c + k) e = mput c G' v' r' h := by
  have ht : (h.take c).length = c := by rw [List.length_take]; omega
  unfold mput
  rw [List.set_append_right _ _ (by omega), ht, Nat.add_sub_cancel_left, List.set_append_left _ _ (by rw [mlist_len]; exact hk), he]
theorem mput_out {j : Nat} (hb : c + 16 ≤ h.length) (hj : j < c ∨ c + 16 ≤ j) : (mput c G v r h)[j]? = h[j]? := by
  have ht : (h.take c).length = c := by rw [List.length_take]; omega
  unfold mput
  rcases hj with hj | hj
  · rw [List.getElem?_append_left (by omega), List.getElem?_take_of_lt hj]
  · rw [List.getElem?_append_right (by omega), ht, List.getElem?_append_right (by rw [mlist_len]; omega), mlist_len, List.getElem?_drop]
    congr 1
    omega
theorem mput_zss : zss (mput c G v r h) = zss (mput c G' v' r' h) := by
  simp only [mput, zss, List.map_append, List.sum_append]
  rfl
theorem mput_new {h0 : zH} : mput h0.length G v r (h0 ++ mlist h0.length G' v' r') = h0 ++ mlist h0.length G v r := by
  unfold mput
  rw [List.take_left' rfl, List.drop_of_length_le (by rw [List.length_append, mlist_len]; omega), List.append_nil]
theorem mput_app {e : zE} (hb : c + 16 ≤ h.length) : mput c G v r h ++ [e] = mput c G v r (h ++ [e]) := by
  unfold mput
  rw [List.take_append_of_le_length (by omega), List.drop_append_of_le_length (by omega), List.append_assoc, List.append_assoc]
end MPUT
/-- what a call of the reference's leaves behind: its answer, what it has thrown, nothing outside its own cells changed, few new cells -/
def zMq (c : Nat) (h : zH) (k : Int32) (x : Value) : zR → Prop := fun q => q.1 = some x ∧ (∃ fs, q.2[c]? = some (.inr (7, .int k :: fs))) ∧ (∀ j, (j < c ∨ c + 16 ≤ j) → j < h.length → q.2[j]? = h[j]?) ∧ q.2.length ≤ h.length + 8 ∧ zss q.2 ≤ zss h + 600
def zMo (c : Nat) (h : zH) (y : Nat) (a : List Value) (k : Int32) (x : Value) : Prop := ∃ q, zMq c h k x q ∧ zcalls zTB y a h q
theorem mq_of {c : Nat} {G G' : Nat → Nat → Int32} {v v' : Nat → Int32} {r r' : Nat → Nat} {h : zH} {x y : Value} {k : Int32} (hc : c + 16 ≤ h.length) (hx : y = x) (hk : v' 0 = k) : zMq c (mput c G v r h) k x (some y, mput c G' v' r' h) := by
  refine ⟨by rw [hx], ⟨_, by have := mput_at (c := c) (G := G') (v := v') (r := r') (h := h) (k := 0) hc rfl; rw [hk] at this; exact this⟩, fun j hj _ => by rw [mput_out hc hj, mput_out hc hj], by rw [mput_len hc, mput_len hc]; omega, by show zss (mput c G' v' r' h) ≤ zss (mput c G v r h) + 600; rw [mput_zss (G' := G) (v' := v) (r' := r)]; omega⟩
section MI
variable {y pc pc' : Nat} {Lc : zL} {st : List Value} {h0 L L' : zH} {q : zR} {ax : List Nat}
theorem ai_newa {a : ArrayType} {t n N : Nat} {x : Int32} (hI : zI y pc = some (.newarray a, t :: ax)) (hx : ¬ x < 0) (hN : x.toNatClampNeg = N) (hb : N ≤ 10000) (hn : L.length = n) (hL : L ++ [.inl (t, zdefA t N)] = L') (hp : pc + 2 = pc') (k : zruns zTB y pc' Lc (.ref (h0.length + n) :: st) (h0 ++ L') q) : zruns zTB y pc Lc (.int x :: st) (h0 ++ L) q := by
  refine zr_newa hI hx hN hb (n := h0.length + n) (by rw [List.length_append, hn]) hp ?_
  rw [List.append_assoc, hL]
  exact k
theorem ai_iast {i n : Nat} {f : Nat → Int32} {j x : Int32} (hI : zI y pc = some (.iastore, ax)) (hi : 1 ≤ h0.length) (hh : L[i]? = some (.inl (0, n, .inl f))) (hj : ¬ (j < 0 ∨ n ≤ j.toNatClampNeg)) (hL : L.set i (.inl (0, n, .inl (upd f j.toNatClampNeg x))) = L') (hp : pc + 1 = pc') (k : zruns zTB y pc' Lc st (h0 ++ L') q) : zruns zTB y pc Lc (.int x :: .int j :: .ref (h0.length + i) :: st) (h0 ++ L) q := by
  refine zr_iast hI (by omega) (n := n) (f := f) (by rw [List.getElem?_append_right (by omega), Nat.add_sub_cancel_left]; exact hh) hj hp (h' := h0 ++ L') ?_ k
  rw [List.set_append_right _ _ (by omega), Nat.add_sub_cancel_left, hL]
end MI
/-- the settings of a new one -/
def mset : Nat → Int32 := upd (upd (upd (upd (fun _ => 0) (nI 0).toNatClampNeg (nI 50)) (nI 1).toNatClampNeg (nI 30)) (nI 2).toNatClampNeg (nI 10)) (nI 3).toNatClampNeg (nI 20)
def mG : Nat → Nat → Int32 := fun q => if q = 5 then mset else fun _ => 0
def mr (c : Nat) : Nat → Nat := fun k => c + 7 + k
theorem m_init (h0 : zH) (hi : 1 ≤ h0.length) : zcalls zTB 130 [.ref h0.length] (h0 ++ [.inr (7, [.int 0, .int 0, .null, .null, .null, .null, .null, .null, .int 0, .null, .int 0, .null, .null, .int 0, .null, .null, .null, .int 0, .null, .null, .int 0, .null])]) (none, h0 ++ mlist h0.length mG (fun _ => 0) (mr h0.length)) := by
  refine zcalls_of (Nat.le_of_ble_eq_true rfl) ?_
  show zruns zTB 130 0 [some (.ref (h0.length + 0))] [] _ _
  refine zr_aload_n (pc' := 1) zi_130_0 rfl rfl ?_
  refine zr_objinit (pc' := 4) zi_130_1 rfl rfl ?_
  refine zr_aload_n (pc' := 5) zi_130_4 rfl rfl ?_
  refine zr_bipush (v := (nI 70)) (pc' := 7) zi_130_5 rfl rfl ?_
  refine ai_newa (L' := [.inr (7, [.int 0, .int 0, .null, .null, .null, .null, .null, .null, .int 0, .null, .int 0, .null, .null, .int 0, .null, .null, .null, .int 0, .null, .null, .int 0, .null]), .inl (0, 70, .inl fun _ => 0)]) (pc' := 9) zi_130_7 (by decide) rfl (Nat.le_of_ble_eq_true rfl) rfl rfl rfl ?_
  refine ai_put (L' := [.inr (7, [.int 0, .int 0, .ref (h0.length + 1), .null, .null, .null, .null, .null, .int 0, .null, .int 0, .null, .null, .int 0, .null, .null, .null, .int 0, .null, .null, .int 0, .null]), .inl (0, 70, .inl fun _ => 0)]) (pc' := 12) zi_130_9 hi rfl (Nat.le_of_ble_eq_true rfl) rfl rfl rfl ?_
  refine zr_aload_n (pc' := 13) zi_130_12 rfl rfl ?_
  refine zr_bipush (v := (nI 70)) (pc' := 15) zi_130_13 rfl rfl ?_
  refine ai_newa (L' := [.inr (7, [.int 0, .int 0, .ref (h0.length + 1), .null, .null, .null, .null, .null, .int 0, .null, .int 0, .null, .null, .int 0, .null, .null, .null, .int 0, .null, .null, .int 0, .null]), .inl (0, 70, .inl fun _ => 0), .inl (0, 70, .inl fun _ => 0)]) (pc' := 17) zi_130_15 (by decide) rfl (Nat.le_of_ble_eq_true rfl) rfl rfl rfl ?_
  refine ai_put (L' := [.inr (7, [.int 0, .int 0, .ref (h0.length + 1), .ref (h0.length + 2), .null, .null, .null, .null, .int 0, .null, .int 0, .null, .null, .int 0, .null, .null, .null, .int 0, .null, .null, .int 0, .null]), .inl (0, 70, .inl fun _ => 0), .inl (0, 70, .inl fun _ => 0)]) (pc' := 20) zi_130_17 hi rfl (Nat.le_of_ble_eq_true rfl) rfl rfl rfl ?_
  refine zr_aload_n (pc' := 21) zi_130_20 rfl rfl ?_
  refine zr_bipush (v := (nI 70)) (pc' := 23) zi_130_21 rfl rfl ?_
  refine ai_newa (L' := [.inr (7, [.int 0, .int 0, .ref (h0.length + 1), .ref (h0.length + 2), .null, .null, .null, .null, .int 0, .null, .int 0, .null, .null, .int 0, .null, .null, .null, .int 0, .null, .null, .int 0, .null]), .inl (0, 70, .inl fun _ => 0), .inl (0, 70, .inl fun _ => 0), .inl (0, 70, .inl fun _ => 0)]) (pc' := 25) zi_130_23 (by decide) rfl (Nat.le_of_ble_eq_true rfl) rfl rfl rfl ?_
  refine ai_put (L' := [.inr (7, [.int 0, .int 0, .ref (h0.length + 1), .ref (h0.length + 2), .ref (h0.length + 3), .null, .null, .null, .int 0, .null, .int 0, .null, .null, .int 0, .null, .null, .null, .int 0, .null, .null, .int 0, .null]), .inl (0, 70, .inl fun _ => 0), .inl (0, 70, .inl fun _ => 0), .inl (0, 70, .inl fun _ => 0)]) (pc' := 28) zi_130_25 hi rfl (Nat.le_of_ble_eq_true rfl) rfl rfl rfl ?_
  refine zr_aload_n (pc' := 29) zi_130_28 rfl rfl ?_
  refine zr_bipush (v := (nI 70)) (pc' := 31) zi_130_29 rfl rfl ?_
  refine ai_newa (L' := [.inr (7, [.int 0, .int 0, .ref (h0.length + 1), .ref (h0.length + 2), .ref (h0.length + 3), .null, .null, .null, .int 0, .null, .int 0, .null, .null, .int 0, .null, .null, .null, .int 0, .null, .null, .int 0, .null]), .inl (0, 70, .inl fun _ => 0), .inl (0, 70, .inl fun _ => 0), .inl (0, 70, .inl fun _ => 0), .inl (0, 70, .inl fun _ => 0)]) (pc' := 33) zi_130_31 (by decide) rfl (Nat.le_of_ble_eq_true rfl) rfl rfl rfl ?_
  refine ai_put (L' := [.inr (7, [.int 0, .int 0, .ref (h0.length + 1), .ref (h0.length + 2), .ref (h0.length + 3), .ref (h0.length + 4), .null, .null, .int 0, .null, .int 0, .null, .null, .int 0, .null, .null, .null, .int 0, .null, .null, .int 0, .null]), .inl (0, 70, .inl fun _ => 0), .inl (0, 70, .inl fun _ => 0), .inl (0, 70, .inl fun _ => 0), .inl (0, 70, .inl fun _ => 0)]) (pc' := 36) zi_130_33 hi rfl (Nat.le_of_ble_eq_true rfl) rfl rfl rfl ?_
  refine zr_aload_n (pc' := 37) zi_130_36 rfl rfl ?_
  refine zr_sipush (v := (nI 560)) (pc' := 40) zi_130_37 rfl rfl ?_
  refine ai_newa (L' := [.inr (7, [.int 0, .int 0, .ref (h0.length + 1), .ref (h0.length + 2), .ref (h0.length + 3), .ref (h0.length + 4), .null, .null, .int 0, .null, .int 0, .null, .null, .int 0, .null, .null, .null, .int 0, .null, .null, .int 0, .null]), .inl (0, 70, .inl fun _ => 0), .inl (0, 70, .inl fun _ => 0), .inl (0, 70, .inl fun _ => 0), .inl (0, 70, .inl fun _ => 0), .inl (0, 560, .inl fun _ => 0)]) (pc' := 42) zi_130_40 (by decide) rfl (Nat.le_of_ble_eq_true rfl) rfl rfl rfl ?_
  refine ai_put (L' := [.inr (7, [.int 0, .int 0, .ref (h0.length + 1), .ref (h0.length + 2), .ref (h0.length + 3), .ref (h0.length + 4), .ref (h0.length + 5), .null, .int 0, .null, .int 0, .null, .null, .int 0, .null, .null, .null, .int 0, .null, .null, .int 0, .null]), .inl (0, 70, .inl fun _ => 0), .inl (0, 70, .inl fun _ => 0), .inl (0, 70, .inl fun _ => 0), .inl (0, 70, .inl fun _ => 0), .inl (0, 560, .inl fun _ => 0)]) (pc' := 45) zi_130_42 hi rfl (Nat.le_of_ble_eq_true rfl) rfl rfl rfl ?_
  refine zr_aload_n (pc' := 46) zi_130_45 rfl rfl ?_
  refine zr_iconst (v := (nI 4)) (pc' := 47) zi_130_46 rfl rfl ?_
  refine ai_newa (L' := [.inr (7, [.int 0, .int 0, .ref (h0.length + 1), .ref (h0.length + 2), .ref (h0.length + 3), .ref (h0.length + 4), .ref (h0.length + 5), .null, .int 0, .null, .int 0, .null, .null, .int 0, .null, .null, .null, .int 0, .null, .null, .int 0, .null]), .inl (0, 70, .inl fun _ => 0), .inl (0, 70, .inl fun _ => 0), .inl (0, 70, .inl fun _ => 0), .inl (0, 70, .inl fun _ => 0), .inl (0, 560, .inl fun _ => 0), .inl (0, 4, .inl fun _ => 0)]) (pc' := 49) zi_130_47 (by decide) rfl (Nat.le_of_ble_eq_true rfl) rfl rfl rfl ?_
  refine zr_dup (pc' := 50) zi_130_49 rfl rfl ?_
  refine zr_iconst (v := (nI 0)) (pc' := 51) zi_130_50 rfl rfl ?_
  refine zr_bipush (v := (nI 50)) (pc' := 53) zi_130_51 rfl rfl ?_
  refine ai_iast (L' := [.inr (7, [.int 0, .int 0, .ref (h0.length + 1), .ref (h0.length + 2), .ref (h0.length + 3), .ref (h0.length + 4), .ref (h0.length + 5), .null, .int 0, .null, .int 0, .null, .null, .int 0, .null, .null, .null, .int 0, .null, .null, .int 0, .null]), .inl (0, 70, .inl fun _ => 0), .inl (0, 70, .inl fun _ => 0), .inl (0, 70, .inl fun _ => 0), .inl (0, 70, .inl fun _ => 0), .inl (0, 560, .inl fun _ => 0), .inl (0, 4, .inl (upd (fun _ => 0) (nI 0).toNatClampNeg (nI 50)))]) (pc' := 54) zi_130_53 hi rfl (by decide) rfl rfl ?_
  refine zr_dup (pc' := 55) zi_130_54 rfl rfl ?_
  refine zr_iconst (v := (nI 1)) (pc' := 56) zi_130_55 rfl rfl ?_
  refine zr_bipush (v := (nI 30)) (pc' := 58) zi_130_56 rfl rfl ?_
  refine ai_iast (L' := [.inr (7, [.int 0, .int 0, .ref (h0.length + 1), .ref (h0.length + 2), .ref (h0.length + 3), .ref (h0.length + 4), .ref (h0.length + 5), .null, .int 0, .null, .int 0, .null, .null, .int 0, .null, .null, .null, .int 0, .null, .null, .int 0, .null]), .inl (0, 70, .inl fun _ => 0), .inl (0, 70, .inl fun _ => 0), .inl (0, 70, .inl fun _ => 0), .inl (0, 70, .inl fun _ => 0), .inl (0, 560, .inl fun _ => 0), .inl (0, 4, .inl (upd (upd (fun _ => 0) (nI 0).toNatClampNeg (nI 50)) (nI 1).toNatClampNeg (nI 30)))]) (pc' := 59) zi_130_58 hi rfl (by decide) rfl rfl ?_
  refine zr_dup (pc' := 60) zi_130_59 rfl rfl ?_
  refine zr_iconst (v := (nI 2)) (pc' := 61) zi_130_60 rfl rfl ?_
  refine zr_bipush (v := (nI 10)) (pc' := 63) zi_130_61 rfl rfl ?_
  refine ai_iast (L' := [.inr (7, [.int 0, .int 0, .ref (h0.length + 1), .ref (h0.length + 2), .ref (h0.length + 3), .ref (h0.length + 4), .ref (h0.length + 5), .null, .int 0, .null, .int 0, .null, .null, .int 0, .null, .null, .null, .int 0, .null, .null, .int 0, .null]), .inl (0, 70, .inl fun _ => 0), .inl (0, 70, .inl fun _ => 0), .inl (0, 70, .inl fun _ => 0), .inl (0, 70, .inl fun _ => 0), .inl (0, 560, .inl fun _ => 0), .inl (0, 4, .inl (upd (upd (upd (fun _ => 0) (nI 0).toNatClampNeg (nI 50)) (nI 1).toNatClampNeg (nI 30)) (nI 2).toNatClampNeg (nI 10)))]) (pc' := 64) zi_130_63 hi rfl (by decide) rfl rfl ?_
  refine zr_dup (pc' := 65) zi_130_64 rfl rfl ?_
  refine zr_iconst (v := (nI 3)) (pc' := 66) zi_130_65 rfl rfl ?_
  refine zr_bipush (v := (nI 20)) (pc' := 68) zi_130_66 rfl rfl ?_
  refine ai_iast (L' := [.inr (7, [.int 0, .int 0, .ref (h0.length + 1), .ref (h0.length + 2), .ref (h0.length + 3), .ref (h0.length + 4), .ref (h0.length + 5), .null, .int 0, .null, .int 0, .null, .null, .int 0, .null, .null, .null, .int 0, .null, .null, .int 0, .null]), .inl (0, 70, .inl fun _ => 0), .inl (0, 70, .inl fun _ => 0), .inl (0, 70, .inl fun _ => 0), .inl (0, 70, .inl fun _ => 0), .inl (0, 560, .inl fun _ => 0), .inl (0, 4, .inl (upd (upd (upd (upd (fun _ => 0) (nI 0).toNatClampNeg (nI 50)) (nI 1).toNatClampNeg (nI 30)) (nI 2).toNatClampNeg (nI 10)) (nI 3).toNatClampNeg (nI 20)))]) (pc' := 69) zi_130_68 hi rfl (by decide) rfl rfl ?_
  refine ai_put (L' := [.inr (7, [.int 0, .int 0, .ref (h0.length + 1), .ref (h0.length + 2), .ref (h0.length + 3), .ref (h0.length + 4), .ref (h0.length + 5), .ref (h0.length + 6), .int 0, .null, .int 0, .null, .null, .int 0, .null, .null, .null, .int 0, .null, .null, .int 0, .null]), .inl (0, 70, .inl fun _ => 0), .inl (0, 70, .inl fun _ => 0), .inl (0, 70, .inl fun _ => 0), .inl (0, 70, .inl fun _ => 0), .inl (0, 560, .inl fun _ => 0), .inl (0, 4, .inl (upd (upd (upd (upd (fun _ => 0) (nI 0).toNatClampNeg (nI 50)) (nI 1).toNatClampNeg (nI 30)) (nI 2).toNatClampNeg (nI 10)) (nI 3).toNatClampNeg (nI 20)))]) (pc' := 72) zi_130_69 hi rfl (Nat.le_of_ble_eq_true rfl) rfl rfl rfl ?_
  refine zr_aload_n (pc' := 73) zi_130_72 rfl rfl ?_
  refine zr_bipush (v := (nI 70)) (pc' := 75) zi_130_73 rfl rfl ?_
  refine ai_newa (L' := [.inr (7, [.int 0, .int 0, .ref (h0.length + 1), .ref (h0.length + 2), .ref (h0.length + 3), .ref (h0.length + 4), .ref (h0.length + 5), .ref (h0.length + 6), .int 0, .null, .int 0, .null, .null, .int 0, .null, .null, .null, .int 0, .null, .null, .int 0, .null]), .inl (0, 70, .inl fun _ => 0), .inl (0, 70, .inl fun _ => 0), .inl (0, 70, .inl fun _ => 0), .inl (0, 70, .inl fun _ => 0), .inl (0, 560, .inl fun _ => 0), .inl (0, 4, .inl (upd (upd (upd (upd (fun _ => 0) (nI 0).toNatClampNeg (nI 50)) (nI 1).toNatClampNeg (nI 30)) (nI 2).toNatClampNeg (nI 10)) (nI 3).toNatClampNeg (nI 20))), .inl (0, 70, .inl fun _ => 0)]) (pc' := 77) zi_130_75 (by decide) rfl (Nat.le_of_ble_eq_true rfl) rfl rfl rfl ?_
  refine ai_put (L' := [.inr (7, [.int 0, .int 0, .ref (h0.length + 1), .ref (h0.length + 2), .ref (h0.length + 3), .ref (h0.length + 4), .ref (h0.length + 5), .ref (h0.length + 6), .int 0, .ref (h0.length + 7), .int 0, .null, .null, .int 0, .null, .null, .null, .int 0, .null, .null, .int 0, .null]), .inl (0, 70, .inl fun _ => 0), .inl (0, 70, .inl fun _ => 0), .inl (0, 70, .inl fun _ => 0), .inl (0, 70, .inl fun _ => 0), .inl (0, 560, .inl fun _ => 0), .inl (0, 4, .inl (upd (upd (upd (upd (fun _ => 0) (nI 0).toNatClampNeg (nI 50)) (nI 1).toNatClampNeg (nI 30)) (nI 2).toNatClampNeg (nI 10)) (nI 3).toNatClampNeg (nI 20))), .inl (0, 70, .inl fun _ => 0)]) (pc' := 80) zi_130_77 hi rfl (Nat.le_of_ble_eq_true rfl) rfl rfl rfl ?_
  refine zr_aload_n (pc' := 81) zi_130_80 rfl rfl ?_
  refine zr_bipush (v := (nI 20)) (pc' := 83) zi_130_81 rfl rfl ?_
  refine ai_newa (L' := [.inr (7, [.int 0, .int 0, .ref (h0.length + 1), .ref (h0.length + 2), .ref (h0.length + 3), .ref (h0.length + 4), .ref (h0.length + 5), .ref (h0.length + 6), .int 0, .ref (h0.length + 7), .int 0, .null, .null, .int 0, .null, .null, .null, .int 0, .null, .null, .int 0, .null]), .inl (0, 70, .inl fun _ => 0), .inl (0, 70, .inl fun _ => 0), .inl (0, 70, .inl fun _ => 0), .inl (0, 70, .inl fun _ => 0), .inl (0, 560, .inl fun _ => 0), .inl (0, 4, .inl (upd (upd (upd (upd (fun _ => 0) (nI 0).toNatClampNeg (nI 50)) (nI 1).toNatClampNeg (nI 30)) (nI 2).toNatClampNeg (nI 10)) (nI 3).toNatClampNeg (nI 20))), .inl (0, 70, .inl fun _ => 0), .inl (0, 20, .inl fun _ => 0)]) (pc' := 85) zi_130_83 (by decide) rfl (Nat.le_of_ble_eq_true rfl) rfl rfl rfl ?_
  refine ai_put (L' := [.inr (7, [.int 0, .int 0, .ref (h0.length + 1), .ref (h0.length + 2), .ref (h0.length + 3), .ref (h0.length + 4), .ref (h0.length + 5), .ref (h0.length + 6), .int 0, .ref (h0.length + 7), .int 0, .ref (h0.length + 8), .null, .int 0, .null, .null, .null, .int 0, .null, .null, .int 0, .null]), .inl (0, 70, .inl fun _ => 0), .inl (0, 70, .inl fun _ => 0), .inl (0, 70, .inl fun _ => 0), .inl (0, 70, .inl fun _ => 0), .inl (0, 560, .inl fun _ => 0), .inl (0, 4, .inl (upd (upd (upd (upd (fun _ => 0) (nI 0).toNatClampNeg (nI 50)) (nI 1).toNatClampNeg (nI 30)) (nI 2).toNatClampNeg (nI 10)) (nI 3).toNatClampNeg (nI 20))), .inl (0, 70, .inl fun _ => 0), .inl (0, 20, .inl fun _ => 0)]) (pc' := 88) zi_130_85 hi rfl (Nat.le_of_ble_eq_true rfl) rfl rfl rfl ?_
  refine zr_aload_n (pc' := 89) zi_130_88 rfl rfl ?_
  refine zr_sipush (v := (nI 160)) (pc' := 92) zi_130_89 rfl rfl ?_
  refine ai_newa (L' := [.inr (7, [.int 0, .int 0, .ref (h0.length + 1), .ref (h0.length + 2), .ref (h0.length + 3), .ref (h0.length + 4), .ref (h0.length + 5), .ref (h0.length + 6), .int 0, .ref (h0.length + 7), .int 0, .ref (h0.length + 8), .null, .int 0, .null, .null, .null, .int 0, .null, .null, .int 0, .null]), .inl (0, 70, .inl fun _ => 0), .inl (0, 70, .inl fun _ => 0), .inl (0, 70, .inl fun _ => 0), .inl (0, 70, .inl fun _ => 0), .inl (0, 560, .inl fun _ => 0), .inl (0, 4, .inl (upd (upd (upd (upd (fun _ => 0) (nI 0).toNatClampNeg (nI 50)) (nI 1).toNatClampNeg (nI 30)) (nI 2).toNatClampNeg (nI 10)) (nI 3).toNatClampNeg (nI 20))), .inl (0, 70, .inl fun _ => 0), .inl (0, 20, .inl fun _ => 0), .inl (0, 160, .inl fun _ => 0)]) (pc' := 94) zi_130_92 (by decide) rfl (Nat.le_of_ble_eq_true rfl) rfl rfl rfl ?_
  refine ai_put (L' := [.inr (7, [.int 0, .int 0, .ref (h0.length + 1), .ref (h0.length + 2), .ref (h0.length + 3), .ref (h0.length + 4), .ref (h0.length + 5), .ref (h0.length + 6), .int 0, .ref (h0.length + 7), .int 0, .ref (h0.length + 8), .ref (h0.length + 9), .int 0, .null, .null, .null, .int 0, .null, .null, .int 0, .null]), .inl (0, 70, .inl fun _ => 0), .inl (0, 70, .inl fun _ => 0), .inl (0, 70, .inl fun _ => 0), .inl (0, 70, .inl fun _ => 0), .inl (0, 560, .inl fun _ => 0), .inl (0, 4, .inl (upd (upd (upd (upd (fun _ => 0) (nI 0).toNatClampNeg (nI 50)) (nI 1).toNatClampNeg (nI 30)) (nI 2).toNatClampNeg (nI 10)) (nI 3).toNatClampNeg (nI 20))), .inl (0, 70, .inl fun _ => 0), .inl (0, 20, .inl fun _ => 0), .inl (0, 160, .inl fun _ => 0)]) (pc' := 97) zi_130_94 hi rfl (Nat.le_of_ble_eq_true rfl) rfl rfl rfl ?_
  refine zr_aload_n (pc' := 98) zi_130_97 rfl rfl ?_
  refine zr_bipush (v := (nI 70)) (pc' := 100) zi_130_98 rfl rfl ?_
  refine ai_newa (L' := [.inr (7, [.int 0, .int 0, .ref (h0.length + 1), .ref (h0.length + 2), .ref (h0.length + 3), .ref (h0.length + 4), .ref (h0.length + 5), .ref (h0.length + 6), .int 0, .ref (h0.length + 7), .int 0, .ref (h0.length + 8), .ref (h0.length + 9), .int 0, .null, .null, .null, .int 0, .null, .null, .int 0, .null]), .inl (0, 70, .inl fun _ => 0), .inl (0, 70, .inl fun _ => 0), .inl (0, 70, .inl fun _ => 0), .inl (0, 70, .inl fun _ => 0), .inl (0, 560, .inl fun _ => 0), .inl (0, 4, .inl (upd (upd (upd (upd (fun _ => 0) (nI 0).toNatClampNeg (nI 50)) (nI 1).toNatClampNeg (nI 30)) (nI 2).toNatClampNeg (nI 10)) (nI 3).toNatClampNeg (nI 20))), .inl (0, 70, .inl fun _ => 0), .inl (0, 20, .inl fun _ => 0), .inl (0, 160, .inl fun _ => 0), .inl (0, 70, .inl fun _ => 0)]) (pc' := 102) zi_130_100 (by decide) rfl (Nat.le_of_ble_eq_true rfl) rfl rfl rfl ?_
  refine ai_put (L' := [.inr (7, [.int 0, .int 0, .ref (h0.length + 1), .ref (h0.length + 2), .ref (h0.length + 3), .ref (h0.length + 4), .ref (h0.length + 5), .ref (h0.length + 6), .int 0, .ref (h0.length + 7), .int 0, .ref (h0.length + 8), .ref (h0.length + 9), .int 0, .ref (h0.length + 10), .null, .null, .int 0, .null, .null, .int 0, .null]), .inl (0, 70, .inl fun _ => 0), .inl (0, 70, .inl fun _ => 0), .inl (0, 70, .inl fun _ => 0), .inl (0, 70, .inl fun _ => 0), .inl (0, 560, .inl fun _ => 0), .inl (0, 4, .inl (upd (upd (upd (upd (fun _ => 0) (nI 0).toNatClampNeg (nI 50)) (nI 1).toNatClampNeg (nI 30)) (nI 2).toNatClampNeg (nI 10)) (nI 3).toNatClampNeg (nI 20))), .inl (0, 70, .inl fun _ => 0), .inl (0, 20, .inl fun _ => 0), .inl (0, 160, .inl fun _ => 0), .inl (0, 70, .inl fun _ => 0)]) (pc' := 105) zi_130_102 hi rfl (Nat.le_of_ble_eq_true rfl) rfl rfl rfl ?_
  refine zr_aload_n (pc' := 106) zi_130_105 rfl rfl ?_
  refine zr_bipush (v := (nI 70)) (pc' := 108) zi_130_106 rfl rfl ?_
  refine ai_newa (L' := [.inr (7, [.int 0, .int 0, .ref (h0.length + 1), .ref (h0.length + 2), .ref (h0.length + 3), .ref (h0.length + 4), .ref (h0.length + 5), .ref (h0.length + 6), .int 0, .ref (h0.length + 7), .int 0, .ref (h0.length + 8), .ref (h0.length + 9), .int 0, .ref (h0.length + 10), .null, .null, .int 0, .null, .null, .int 0, .null]), .inl (0, 70, .inl fun _ => 0), .inl (0, 70, .inl fun _ => 0), .inl (0, 70, .inl fun _ => 0), .inl (0, 70, .inl fun _ => 0), .inl (0, 560, .inl fun _ => 0), .inl (0, 4, .inl (upd (upd (upd (upd (fun _ => 0) (nI 0).toNatClampNeg (nI 50)) (nI 1).toNatClampNeg (nI 30)) (nI 2).toNatClampNeg (nI 10)) (nI 3).toNatClampNeg (nI 20))), .inl (0, 70, .inl fun _ => 0), .inl (0, 20, .inl fun _ => 0), .inl (0, 160, .inl fun _ => 0), .inl (0, 70, .inl fun _ => 0), .inl (0, 70, .inl fun _ => 0)]) (pc' := 110) zi_130_108 (by decide) rfl (Nat.le_of_ble_eq_true rfl) rfl rfl rfl ?_
  refine ai_put (L' := [.inr (7, [.int 0, .int 0, .ref (h0.length + 1), .ref (h0.length + 2), .ref (h0.length + 3), .ref (h0.length + 4), .ref (h0.length + 5), .ref (h0.length + 6), .int 0, .ref (h0.length + 7), .int 0, .ref (h0.length + 8), .ref (h0.length + 9), .int 0, .ref (h0.length + 10), .ref (h0.length + 11), .null, .int 0, .null, .null, .int 0, .null]), .inl (0, 70, .inl fun _ => 0), .inl (0, 70, .inl fun _ => 0), .inl (0, 70, .inl fun _ => 0), .inl (0, 70, .inl fun _ => 0), .inl (0, 560, .inl fun _ => 0), .inl (0, 4, .inl (upd (upd (upd (upd (fun _ => 0) (nI 0).toNatClampNeg (nI 50)) (nI 1).toNatClampNeg (nI 30)) (nI 2).toNatClampNeg (nI 10)) (nI 3).toNatClampNeg (nI 20))), .inl (0, 70, .inl fun _ => 0), .inl (0, 20, .inl fun _ => 0), .inl (0, 160, .inl fun _ => 0), .inl (0, 70, .inl fun _ => 0), .inl (0, 70, .inl fun _ => 0)]) (pc' := 113) zi_130_110 hi rfl (Nat.le_of_ble_eq_true rfl) rfl rfl rfl ?_
  refine zr_aload_n (pc' := 114) zi_130_113 rfl rfl ?_
  refine zr_bipush (v := (nI 70)) (pc' := 116) zi_130_114 rfl rfl ?_
  refine ai_newa (L' := [.inr (7, [.int 0, .int 0, .ref (h0.length + 1), .ref (h0.length + 2), .ref (h0.length + 3), .ref (h0.length + 4), .ref (h0.length + 5), .ref (h0.length + 6), .int 0, .ref (h0.length + 7), .int 0, .ref (h0.length + 8), .ref (h0.length + 9), .int 0, .ref (h0.length + 10), .ref (h0.length + 11), .null, .int 0, .null, .null, .int 0, .null]), .inl (0, 70, .inl fun _ => 0), .inl (0, 70, .inl fun _ => 0), .inl (0, 70, .inl fun _ => 0), .inl (0, 70, .inl fun _ => 0), .inl (0, 560, .inl fun _ => 0), .inl (0, 4, .inl (upd (upd (upd (upd (fun _ => 0) (nI 0).toNatClampNeg (nI 50)) (nI 1).toNatClampNeg (nI 30)) (nI 2).toNatClampNeg (nI 10)) (nI 3).toNatClampNeg (nI 20))), .inl (0, 70, .inl fun _ => 0), .inl (0, 20, .inl fun _ => 0), .inl (0, 160, .inl fun _ => 0), .inl (0, 70, .inl fun _ => 0), .inl (0, 70, .inl fun _ => 0), .inl (0, 70, .inl fun _ => 0)]) (pc' := 118) zi_130_116 (by decide) rfl (Nat.le_of_ble_eq_true rfl) rfl rfl rfl ?_
  refine ai_put (L' := [.inr (7, [.int 0, .int 0, .ref (h0.length + 1), .ref (h0.length + 2), .ref (h0.length + 3), .ref (h0.length + 4), .ref (h0.length + 5), .ref (h0.length + 6), .int 0, .ref (h0.length + 7), .int 0, .ref (h0.length + 8), .ref (h0.length + 9), .int 0, .ref (h0.length + 10), .ref (h0.length + 11), .ref (h0.length + 12), .int 0, .null, .null, .int 0, .null]), .inl (0, 70, .inl fun _ => 0), .inl (0, 70, .inl fun _ => 0), .inl (0, 70, .inl fun _ => 0), .inl (0, 70, .inl fun _ => 0), .inl (0, 560, .inl fun _ => 0), .inl (0, 4, .inl (upd (upd (upd (upd (fun _ => 0) (nI 0).toNatClampNeg (nI 50)) (nI 1).toNatClampNeg (nI 30)) (nI 2).toNatClampNeg (nI 10)) (nI 3).toNatClampNeg (nI 20))), .inl (0, 70, .inl fun _ => 0), .inl (0, 20, .inl fun _ => 0), .inl (0, 160, .inl fun _ => 0), .inl (0, 70, .inl fun _ => 0), .inl (0, 70, .inl fun _ => 0), .inl (0, 70, .inl fun _ => 0)]) (pc' := 121) zi_130_118 hi rfl (Nat.le_of_ble_eq_true rfl) rfl rfl rfl ?_
  refine zr_aload_n (pc' := 122) zi_130_121 rfl rfl ?_
  refine zr_bipush (v := (nI 70)) (pc' := 124) zi_130_122 rfl rfl ?_
  refine ai_newa (L' := [.inr (7, [.int 0, .int 0, .ref (h0.length + 1), .ref (h0.length + 2), .ref (h0.length + 3), .ref (h0.length + 4), .ref (h0.length + 5), .ref (h0.length + 6), .int 0, .ref (h0.length + 7), .int 0, .ref (h0.length + 8), .ref (h0.length + 9), .int 0, .ref (h0.length + 10), .ref (h0.length + 11), .ref (h0.length + 12), .int 0, .null, .null, .int 0, .null]), .inl (0, 70, .inl fun _ => 0), .inl (0, 70, .inl fun _ => 0), .inl (0, 70, .inl fun _ => 0), .inl (0, 70, .inl fun _ => 0), .inl (0, 560, .inl fun _ => 0), .inl (0, 4, .inl (upd (upd (upd (upd (fun _ => 0) (nI 0).toNatClampNeg (nI 50)) (nI 1).toNatClampNeg (nI 30)) (nI 2).toNatClampNeg (nI 10)) (nI 3).toNatClampNeg (nI 20))), .inl (0, 70, .inl fun _ => 0), .inl (0, 20, .inl fun _ => 0), .inl (0, 160, .inl fun _ => 0), .inl (0, 70, .inl fun _ => 0), .inl (0, 70, .inl fun _ => 0), .inl (0, 70, .inl fun _ => 0), .inl (0, 70, .inl fun _ => 0)]) (pc' := 126) zi_130_124 (by decide) rfl (Nat.le_of_ble_eq_true rfl) rfl rfl rfl ?_
  refine ai_put (L' := [.inr (7, [.int 0, .int 0, .ref (h0.length + 1), .ref (h0.length + 2), .ref (h0.length + 3), .ref (h0.length + 4), .ref (h0.length + 5), .ref (h0.length + 6), .int 0, .ref (h0.length + 7), .int 0, .ref (h0.length + 8), .ref (h0.length + 9), .int 0, .ref (h0.length + 10), .ref (h0.length + 11), .ref (h0.length + 12), .int 0, .ref (h0.length + 13), .null, .int 0, .null]), .inl (0, 70, .inl fun _ => 0), .inl (0, 70, .inl fun _ => 0), .inl (0, 70, .inl fun _ => 0), .inl (0, 70, .inl fun _ => 0), .inl (0, 560, .inl fun _ => 0), .inl (0, 4, .inl (upd (upd (upd (upd (fun _ => 0) (nI 0).toNatClampNeg (nI 50)) (nI 1).toNatClampNeg (nI 30)) (nI 2).toNatClampNeg (nI 10)) (nI 3).toNatClampNeg (nI 20))), .inl (0, 70, .inl fun _ => 0), .inl (0, 20, .inl fun _ => 0), .inl (0, 160, .inl fun _ => 0), .inl (0, 70, .inl fun _ => 0), .inl (0, 70, .inl fun _ => 0), .inl (0, 70, .inl fun _ => 0), .inl (0, 70, .inl fun _ => 0)]) (pc' := 129) zi_130_126 hi rfl (Nat.le_of_ble_eq_true rfl) rfl rfl rfl ?_
  refine zr_aload_n (pc' := 130) zi_130_129 rfl rfl ?_
  refine zr_bipush (v := (nI 70)) (pc' := 132) zi_130_130 rfl rfl ?_
  refine ai_newa (L' := [.inr (7, [.int 0, .int 0, .ref (h0.length + 1), .ref (h0.length + 2), .ref (h0.length + 3), .ref (h0.length + 4), .ref (h0.length + 5), .ref (h0.length + 6), .int 0, .ref (h0.length + 7), .int 0, .ref (h0.length + 8), .ref (h0.length + 9), .int 0, .ref (h0.length + 10), .ref (h0.length + 11), .ref (h0.length + 12), .int 0, .ref (h0.length + 13), .null, .int 0, .null]), .inl (0, 70, .inl fun _ => 0), .inl (0, 70, .inl fun _ => 0), .inl (0, 70, .inl fun _ => 0), .inl (0, 70, .inl fun _ => 0), .inl (0, 560, .inl fun _ => 0), .inl (0, 4, .inl (upd (upd (upd (upd (fun _ => 0) (nI 0).toNatClampNeg (nI 50)) (nI 1).toNatClampNeg (nI 30)) (nI 2).toNatClampNeg (nI 10)) (nI 3).toNatClampNeg (nI 20))), .inl (0, 70, .inl fun _ => 0), .inl (0, 20, .inl fun _ => 0), .inl (0, 160, .inl fun _ => 0), .inl (0, 70, .inl fun _ => 0), .inl (0, 70, .inl fun _ => 0), .inl (0, 70, .inl fun _ => 0), .inl (0, 70, .inl fun _ => 0), .inl (0, 70, .inl fun _ => 0)]) (pc' := 134) zi_130_132 (by decide) rfl (Nat.le_of_ble_eq_true rfl) rfl rfl rfl ?_
  refine ai_put (L' := [.inr (7, [.int 0, .int 0, .ref (h0.length + 1), .ref (h0.length + 2), .ref (h0.length + 3), .ref (h0.length + 4), .ref (h0.length + 5), .ref (h0.length + 6), .int 0, .ref (h0.length + 7), .int 0, .ref (h0.length + 8), .ref (h0.length + 9), .int 0, .ref (h0.length + 10), .ref (h0.length + 11), .ref (h0.length + 12), .int 0, .ref (h0.length + 13), .ref (h0.length + 14), .int 0, .null]), .inl (0, 70, .inl fun _ => 0), .inl (0, 70, .inl fun _ => 0), .inl (0, 70, .inl fun _ => 0), .inl (0, 70, .inl fun _ => 0), .inl (0, 560, .inl fun _ => 0), .inl (0, 4, .inl (upd (upd (upd (upd (fun _ => 0) (nI 0).toNatClampNeg (nI 50)) (nI 1).toNatClampNeg (nI 30)) (nI 2).toNatClampNeg (nI 10)) (nI 3).toNatClampNeg (nI 20))), .inl (0, 70, .inl fun _ => 0), .inl (0, 20, .inl fun _ => 0), .inl (0, 160, .inl fun _ => 0), .inl (0, 70, .inl fun _ => 0), .inl (0, 70, .inl fun _ => 0), .inl (0, 70, .inl fun _ => 0), .inl (0, 70, .inl fun _ => 0), .inl (0, 70, .inl fun _ => 0)]) (pc' := 137) zi_130_134 hi rfl (Nat.le_of_ble_eq_true rfl) rfl rfl rfl ?_
  refine zr_aload_n (pc' := 138) zi_130_137 rfl rfl ?_
  refine zr_bipush (v := (nI 80)) (pc' := 140) zi_130_138 rfl rfl ?_
  refine ai_newa (L' := [.inr (7, [.int 0, .int 0, .ref (h0.length + 1), .ref (h0.length + 2), .ref (h0.length + 3), .ref (h0.length + 4), .ref (h0.length + 5), .ref (h0.length + 6), .int 0, .ref (h0.length + 7), .int 0, .ref (h0.length + 8), .ref (h0.length + 9), .int 0, .ref (h0.length + 10), .ref (h0.length + 11), .ref (h0.length + 12), .int 0, .ref (h0.length + 13), .ref (h0.length + 14), .int 0, .null]), .inl (0, 70, .inl fun _ => 0), .inl (0, 70, .inl fun _ => 0), .inl (0, 70, .inl fun _ => 0), .inl (0, 70, .inl fun _ => 0), .inl (0, 560, .inl fun _ => 0), .inl (0, 4, .inl (upd (upd (upd (upd (fun _ => 0) (nI 0).toNatClampNeg (nI 50)) (nI 1).toNatClampNeg (nI 30)) (nI 2).toNatClampNeg (nI 10)) (nI 3).toNatClampNeg (nI 20))), .inl (0, 70, .inl fun _ => 0), .inl (0, 20, .inl fun _ => 0), .inl (0, 160, .inl fun _ => 0), .inl (0, 70, .inl fun _ => 0), .inl (0, 70, .inl fun _ => 0), .inl (0, 70, .inl fun _ => 0), .inl (0, 70, .inl fun _ => 0), .inl (0, 70, .inl fun _ => 0), .inl (0, 80, .inl fun _ => 0)]) (pc' := 142) zi_130_140 (by decide) rfl (Nat.le_of_ble_eq_true rfl) rfl rfl rfl ?_
  refine ai_put (L' := [.inr (7, [.int 0, .int 0, .ref (h0.length + 1), .ref (h0.length + 2), .ref (h0.length + 3), .ref (h0.length + 4), .ref (h0.length + 5), .ref (h0.length + 6), .int 0, .ref (h0.length + 7), .int 0, .ref (h0.length + 8), .ref (h0.length + 9), .int 0, .ref (h0.length + 10), .ref (h0.length + 11), .ref (h0.length + 12), .int 0, .ref (h0.length + 13), .ref (h0.length + 14), .int 0, .ref (h0.length + 15)]), .inl (0, 70, .inl fun _ => 0), .inl (0, 70, .inl fun _ => 0), .inl (0, 70, .inl fun _ => 0), .inl (0, 70, .inl fun _ => 0), .inl (0, 560, .inl fun _ => 0), .inl (0, 4, .inl (upd (upd (upd (upd (fun _ => 0) (nI 0).toNatClampNeg (nI 50)) (nI 1).toNatClampNeg (nI 30)) (nI 2).toNatClampNeg (nI 10)) (nI 3).toNatClampNeg (nI 20))), .inl (0, 70, .inl fun _ => 0), .inl (0, 20, .inl fun _ => 0), .inl (0, 160, .inl fun _ => 0), .inl (0, 70, .inl fun _ => 0), .inl (0, 70, .inl fun _ => 0), .inl (0, 70, .inl fun _ => 0), .inl (0, 70, .inl fun _ => 0), .inl (0, 70, .inl fun _ => 0), .inl (0, 80, .inl fun _ => 0)]) (pc' := 145) zi_130_142 hi rfl (Nat.le_of_ble_eq_true rfl) rfl rfl rfl ?_
  exact zr_return zi_130_145 rfl


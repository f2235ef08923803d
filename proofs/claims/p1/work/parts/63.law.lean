theorem zi_178_0 : zI 178 0 = some (.new 8, [6, 678, 679, 118, 1, 1, 1, 1, 1, 1, 1]) := by decide +kernel
theorem zi_178_3 : zI 178 3 = some (.dup, []) := by decide +kernel
theorem zi_178_4 : zI 178 4 = some (.invokespecial 81, [115, 2, 0, 0, 682, 0, 118, 681, 0, 680]) := by decide +kernel
theorem zi_178_7 : zI 178 7 = some (.astore_n 1, []) := by decide +kernel
theorem zi_178_8 : zI 178 8 = some (.new 82, [7, 683, 684, 19, 0, 0, 1, 1, 1, 1, 1, 1, 0, 1, 0, 1, 1, 0, 1, 1, 1, 0, 1, 1, 0, 1]) := by decide +kernel
theorem zi_178_11 : zI 178 11 = some (.dup, []) := by decide +kernel
theorem zi_178_12 : zI 178 12 = some (.invokespecial 84, [130, 2, 0, 0, 687, 0, 19, 686, 0, 685]) := by decide +kernel
theorem zi_178_15 : zI 178 15 = some (.astore_n 2, []) := by decide +kernel
theorem zi_178_16 : zI 178 16 = some (.iconst 1, []) := by decide +kernel
theorem zi_178_17 : zI 178 17 = some (.newarray .long, [1, 688]) := by decide +kernel
theorem zi_178_19 : zI 178 19 = some (.astore_n 3, []) := by decide +kernel
theorem zi_178_20 : zI 178 20 = some (.iconst 0, []) := by decide +kernel
theorem zi_178_21 : zI 178 21 = some (.istore 4, []) := by decide +kernel
/-! THE LAW OVER FRESH OBJECTS, call by call -/
def lhn (n : Nat) (f : Nat → Int32) (F : Nat → Nat → Int32) (g : Nat → Nat) (G : Nat → Nat → Int32) (v : Nat → Int32) (ob : Nat → Int64) : zH := .inl (0, n, .inl f) :: (nlist 1 F g ++ (mlist 72 G v (mr 72) ++ [.inl (1, 1, .inr (.inl ob))]))
abbrev lh := lhn 4
def lF (F : Nat → Nat → Int32) : Prop := (∀ r, r ≠ 31 → F r = fun _ => 0) ∧ F 31 0 = nI 50 ∧ F 31 1 = nI 30 ∧ F 31 2 = nI 10 ∧ F 31 3 = nI 20
section LC
variable {n : Nat} {f : Nat → Int32} {F F' : Nat → Nat → Int32} {g g' : Nat → Nat} {G G' : Nat → Nat → Int32} {v v' : Nat → Int32} {ob ob' : Nat → Int64}
theorem lh_n : nput 1 F' g' (lhn n f F g G v ob) = lhn n f F' g' G v ob := rfl
theorem lh_m : mput 72 G' v' (mr 72) (lhn n f F g G v ob) = lhn n f F g G' v' ob := rfl
theorem lh_o : (lhn n f F g G v ob).set 88 (.inl (1, 1, .inr (.inl ob'))) = lhn n f F g G v ob' := rfl
theorem lh_len : (lhn n f F g G v ob).length = 89 := rfl
theorem zss_apps (a b : zH) : zss (a ++ b) = zss a + zss b := by simp only [zss, List.map_append, List.sum_append]
theorem zss_n : zss (nlist 1 F g) ≤ 4000 := by simp [nlist, zss, zsz]
theorem zss_m : zss (mlist 72 G v (mr 72)) ≤ 4000 := by simp [mlist, zss, zsz]
theorem lhn_zss (hn : n ≤ 4) : zss (lhn n f F g G v ob) ≤ 20000 := by
  have e : lhn n f F g G v ob = [.inl (0, n, .inl f)] ++ (nlist 1 F g ++ (mlist 72 G v (mr 72) ++ [.inl (1, 1, .inr (.inl ob))])) := rfl
  have h1 := zss_n (F := F) (g := g)
  have h2 := zss_m (G := G) (v := v)
  rw [e, zss_apps, zss_apps, zss_apps]
  have h3 : zss [(.inl (0, n, .inl f) : zE)] = n := by simp [zss, zsz]
  have h4 : zss [(.inl (1, 1, .inr (.inl ob)) : zE)] = 1 := by simp [zss, zsz]
  omega
theorem lh_zss : zss (lh f F g G v ob) ≤ 20000 := lhn_zss (Nat.le_refl 4)
theorem lh_zclH : zclH (lhn n f F g G v ob).length (lhn n f F g G v ob) = true := rfl
theorem lp_pre (n : Nat) (f : Nat → Int32) : ∃ F, lF F ∧ zgt 178 0 (zentry 9 [.ref 0]) [] [.inl (0, n, .inl f)] (23, lLs none none none none, [], lhn n f F (fun _ => 0) mG (fun _ => 0) (fun _ => 0)) := by
  obtain ⟨F, hF, hc⟩ := c_init [.inl (0, n, .inl f)] (Nat.le_refl 1)
  refine ⟨F, hF, ?_⟩
  have hm := m_init ([.inl (0, n, .inl f)] ++ nlist 1 F (fun _ => 0)) (by simp)
  show zgt 178 0 [some (.ref 0), none, none, none, none, none, none, none, none] [] _ _
  refine zg_new (n := 1) (pc' := 3) zi_178_0 rfl rfl rfl ?_
  refine zg_dup (pc' := 4) zi_178_3 rfl rfl ?_
  refine zg_i0 (pc' := 7) zi_178_4 rfl hc rfl ?_
  refine zg_astore_n (pc' := 8) zi_178_7 (Nat.le_of_ble_eq_true rfl) rfl rfl ?_
  dsimp only [zst1, zst2, zkill, List.set, List.getElem?_cons_succ, List.getElem?_cons_zero]
  refine zg_new (n := 72) (pc' := 11) zi_178_8 rfl rfl rfl ?_
  refine zg_dup (pc' := 12) zi_178_11 rfl rfl ?_
  refine zg_i0 (pc' := 15) zi_178_12 rfl hm rfl ?_
  refine zg_astore_n (pc' := 16) zi_178_15 (Nat.le_of_ble_eq_true rfl) rfl rfl ?_
  dsimp only [zst1, zst2, zkill, List.set, List.getElem?_cons_succ, List.getElem?_cons_zero]
  refine zg_iconst (v := (nI 1)) (pc' := 17) zi_178_16 rfl rfl ?_
  refine zg_newa (n := 88) (N := 1) (pc' := 19) zi_178_17 (by decide) rfl (Nat.le_of_ble_eq_true rfl) rfl rfl ?_
  refine zg_astore_n (pc' := 20) zi_178_19 (Nat.le_of_ble_eq_true rfl) rfl rfl ?_
  dsimp only [zst1, zst2, zkill, List.set, List.getElem?_cons_succ, List.getElem?_cons_zero]
  refine zg_iconst (v := (nI 0)) (pc' := 21) zi_178_20 rfl rfl ?_
  refine zg_istore (pc' := 23) zi_178_21 (Nat.le_of_ble_eq_true rfl) rfl rfl ?_
  dsimp only [zst1, zst2, zkill, List.set, List.getElem?_cons_succ, List.getElem?_cons_zero]
  exact zgt_here _ _ _ _ _
theorem l_vp (x : Int64) (ob : Nat → Int64) : vp_updL ob (nI 0).toNatClampNeg x 0 = x := rfl
theorem l_room (h3 : zH) (h : zH) (h1 : h3.length ≤ 97) (h2 : zss h3 ≤ zss h + 600) (hz : zss h ≤ 20000) (hl : h.length = 89) (x : Nat) (hx : x ≤ 1) : h3.length + h.length + x ≤ 600002 ∧ zss h3 + zss h + 6 * x ≤ 7302232 := by omega
theorem lx_ofLine {l : Launch} (hl : l.stackTraces = false) (x : Int32) (w : Int32) : zMetX l 95 [.ref 1, .int x, .int w] (lh f F (fun _ => 0) G v ob) "java/lang/IndexOutOfBoundsException" := by
  obtain ⟨L, k⟩ := x_ofLine (b := 1) (F := F) (h := lh f F (fun _ => 0) G v ob) (by rw [lh_len]; decide) x w
  rw [lh_n] at k
  exact zmetX (is := 141) (wide := false) (text := "no such line") hl (by decide) (Nat.le_of_ble_eq_true rfl) rfl k zEx_IOB (by decide +kernel) (List.mem_of_getElem? (i := 1) rfl)
theorem lx_wordAt {l : Launch} (hl : l.stackTraces = false) (x : Int32) (w : Int32) : zMetX l 121 [.ref 1, .int x, .int w] (lh f F (fun _ => 0) G v ob) "java/lang/IndexOutOfBoundsException" := by
  obtain ⟨L, k⟩ := x_wordAt (b := 1) (F := F) (h := lh f F (fun _ => 0) G v ob) (by rw [lh_len]; decide) x w
  rw [lh_n] at k
  exact zmetX (is := 141) (wide := false) (text := "no such line") hl (by decide) (Nat.le_of_ble_eq_true rfl) rfl k zEx_IOB (by decide +kernel) (List.mem_of_getElem? (i := 1) rfl)
theorem lx_ofTemplate {l : Launch} (hl : l.stackTraces = false) (x : Int32) (w : Int32) : zMetX l 96 [.ref 1, .int x, .int w] (lh f F (fun _ => 0) G v ob) "java/lang/IndexOutOfBoundsException" := by
  obtain ⟨L, k⟩ := x_ofTemplate (b := 1) (F := F) (h := lh f F (fun _ => 0) G v ob) (by rw [lh_len]; decide) x w
  rw [lh_n] at k
  exact zmetX (is := 170) (wide := false) (text := "no such template") hl (by decide) (Nat.le_of_ble_eq_true rfl) rfl k zEx_IOB (by decide +kernel) (List.mem_of_getElem? (i := 3) rfl)
theorem lx_slot {l : Launch} (hl : l.stackTraces = false) (x : Int32) (w : Int32) : zMetX l 97 [.ref 1, .int x, .int w] (lh f F (fun _ => 0) G v ob) "java/lang/IndexOutOfBoundsException" := by
  obtain ⟨L, k⟩ := x_slot (b := 1) (F := F) (h := lh f F (fun _ => 0) G v ob) (by rw [lh_len]; decide) x w
  rw [lh_n] at k
  exact zmetX (is := 170) (wide := false) (text := "no such template") hl (by decide) (Nat.le_of_ble_eq_true rfl) rfl k zEx_IOB (by decide +kernel) (List.mem_of_getElem? (i := 3) rfl)
theorem lx_values {l : Launch} (hl : l.stackTraces = false) (x : Int32) (w : Int32) : zMetX l 98 [.ref 1, .int x, .int w] (lh f F (fun _ => 0) G v ob) "java/lang/IndexOutOfBoundsException" := by
  obtain ⟨L, k⟩ := x_values (b := 1) (F := F) (h := lh f F (fun _ => 0) G v ob) (by rw [lh_len]; decide) x w
  rw [lh_n] at k
  exact zmetX (is := 170) (wide := false) (text := "no such template") hl (by decide) (Nat.le_of_ble_eq_true rfl) rfl k zEx_IOB (by decide +kernel) (List.mem_of_getElem? (i := 3) rfl)
theorem lx_alike {l : Launch} (hl : l.stackTraces = false) (x : Int32) (w : Int32) : zMetX l 122 [.ref 1, .int x, .int w] (lh f F (fun _ => 0) G v ob) "java/lang/IndexOutOfBoundsException" := by
  obtain ⟨L, k⟩ := x_alike (b := 1) (F := F) (h := lh f F (fun _ => 0) G v ob) (by rw [lh_len]; decide) x w
  rw [lh_n] at k
  exact zmetX (is := 141) (wide := false) (text := "no such line") hl (by decide) (Nat.le_of_ble_eq_true rfl) rfl k zEx_IOB (by decide +kernel) (List.mem_of_getElem? (i := 1) rfl)
theorem lx_ofSession {l : Launch} (hl : l.stackTraces = false) (x : Int32) (w : Int32) : zMetX l 99 [.ref 1, .int x, .int w] (lh f F (fun _ => 0) G v ob) "java/lang/IndexOutOfBoundsException" := by
  obtain ⟨L, k⟩ := x_ofSession (b := 1) (F := F) (h := lh f F (fun _ => 0) G v ob) (by rw [lh_len]; decide) x w
  rw [lh_n] at k
  exact zmetX (is := 206) (wide := false) (text := "no such session") hl (by decide) (Nat.le_of_ble_eq_true rfl) rfl k zEx_IOB (by decide +kernel) (List.mem_of_getElem? (i := 9) rfl)
theorem lx_inSession {l : Launch} (hl : l.stackTraces = false) (x : Int32) (w : Int32) : zMetX l 123 [.ref 1, .int x, .int w] (lh f F (fun _ => 0) G v ob) "java/lang/IndexOutOfBoundsException" := by
  obtain ⟨L, k⟩ := x_inSession (b := 1) (F := F) (h := lh f F (fun _ => 0) G v ob) (by rw [lh_len]; decide) x w
  rw [lh_n] at k
  exact zmetX (is := 206) (wide := false) (text := "no such session") hl (by decide) (Nat.le_of_ble_eq_true rfl) rfl k zEx_IOB (by decide +kernel) (List.mem_of_getElem? (i := 9) rfl)
theorem lx_count {l : Launch} (hl : l.stackTraces = false) (x : Int32) (w : Int32) : zMetX l 125 [.ref 1, .int x, .int w] (lh f F (fun _ => 0) G v ob) "java/lang/IndexOutOfBoundsException" := by
  obtain ⟨L, k⟩ := x_count (b := 1) (F := F) (h := lh f F (fun _ => 0) G v ob) (by rw [lh_len]; decide) x w
  rw [lh_n] at k
  exact zmetX (is := 170) (wide := false) (text := "no such template") hl (by decide) (Nat.le_of_ble_eq_true rfl) rfl k zEx_IOB (by decide +kernel) (List.mem_of_getElem? (i := 3) rfl)
theorem lx_spike {l : Launch} (hl : l.stackTraces = false) (x : Int32) (w : Int32) : zMetX l 101 [.ref 1, .int x, .int w] (lh f F (fun _ => 0) G v ob) "java/lang/IndexOutOfBoundsException" := by
  obtain ⟨L, k⟩ := x_spike (b := 1) (F := F) (h := lh f F (fun _ => 0) G v ob) (by rw [lh_len]; decide) x w
  rw [lh_n] at k
  exact zmetX (is := 244) (wide := false) (text := "no such spike") hl (by decide) (Nat.le_of_ble_eq_true rfl) rfl k zEx_IOB (by decide +kernel) (List.mem_of_getElem? (i := 11) rfl)
theorem lx_causes {l : Launch} (hl : l.stackTraces = false) (x : Int32) : zMetX l 102 [.ref 1, .int x] (lh f F (fun _ => 0) G v ob) "java/lang/IndexOutOfBoundsException" := by
  obtain ⟨L, k⟩ := x_causes (b := 1) (F := F) (h := lh f F (fun _ => 0) G v ob) (by rw [lh_len]; decide) x
  rw [lh_n] at k
  exact zmetX (is := 170) (wide := false) (text := "no such template") hl (by decide) (Nat.le_of_ble_eq_true rfl) rfl k zEx_IOB (by decide +kernel) (List.mem_of_getElem? (i := 3) rfl)
theorem lx_cause {l : Launch} (hl : l.stackTraces = false) (x : Int32) (w : Int32) (z : Int32) : zMetX l 103 [.ref 1, .int x, .int w, .int z] (lh f F (fun _ => 0) G v ob) "java/lang/IndexOutOfBoundsException" := by
  obtain ⟨L, k⟩ := x_cause (b := 1) (F := F) (h := lh f F (fun _ => 0) G v ob) (by rw [lh_len]; decide) x w z
  rw [lh_n] at k
  exact zmetX (is := 170) (wide := false) (text := "no such template") hl (by decide) (Nat.le_of_ble_eq_true rfl) rfl k zEx_IOB (by decide +kernel) (List.mem_of_getElem? (i := 3) rfl)
theorem lx_because {l : Launch} (hl : l.stackTraces = false) (x : Int32) : zMetX l 104 [.ref 1, .int x] (lh f F (fun _ => 0) G v ob) "java/lang/IndexOutOfBoundsException" := by
  obtain ⟨L, k⟩ := x_because (b := 1) (F := F) (h := lh f F (fun _ => 0) G v ob) (by rw [lh_len]; decide) x
  rw [lh_n] at k
  exact zmetX (is := 141) (wide := false) (text := "no such line") hl (by decide) (Nat.le_of_ble_eq_true rfl) rfl k zEx_IOB (by decide +kernel) (List.mem_of_getElem? (i := 1) rfl)
theorem lx_wouldBe {l : Launch} (hl : l.stackTraces = false) (x : Int32) : zMetX l 128 [.ref 1, .int x] (lh f F (fun _ => 0) G v ob) "java/lang/IndexOutOfBoundsException" := by
  obtain ⟨L, k⟩ := x_wouldBe (b := 1) (F := F) (h := lh f F (fun _ => 0) G v ob) (by rw [lh_len]; decide) x
  rw [lh_n] at k
  exact zmetX (is := 141) (wide := false) (text := "no such line") hl (by decide) (Nat.le_of_ble_eq_true rfl) rfl k zEx_IOB (by decide +kernel) (List.mem_of_getElem? (i := 1) rfl)
theorem lx_line_a {l : Launch} (hl : l.stackTraces = false) (t : Int32) (y : Int32) (z : Int32) (q : ¬ (nI 0 ≤ t ∧ t ≤ nI 9999)) : zMetX l 116 [.ref 1, .int t, .int y, .int z] (lh f F (fun _ => 0) G v ob) "java/lang/IllegalArgumentException" := by
  obtain ⟨L, k⟩ := x_line_a (b := 1) (F := F) (h := lh f F (fun _ => 0) G v ob) (by rw [lh_len]; decide) t y z q
  rw [lh_n] at k
  exact zmetX (is := 66) (wide := false) (text := "no such time, source or level") hl (by decide) (Nat.le_of_ble_eq_true rfl) rfl k zEx_IAE (by decide +kernel) (List.mem_of_getElem? (i := 13) rfl)
theorem lx_line_b {l : Launch} (hl : l.stackTraces = false) (t : Int32) (y : Int32) (z : Int32) (p : (nI 0 ≤ t ∧ t ≤ nI 9999)) (q : ¬ (nI 0 ≤ y ∧ y ≤ nI 7)) : zMetX l 116 [.ref 1, .int t, .int y, .int z] (lh f F (fun _ => 0) G v ob) "java/lang/IllegalArgumentException" := by
  obtain ⟨L, k⟩ := x_line_b (b := 1) (F := F) (h := lh f F (fun _ => 0) G v ob) (by rw [lh_len]; decide) t y z p q
  rw [lh_n] at k
  exact zmetX (is := 66) (wide := false) (text := "no such time, source or level") hl (by decide) (Nat.le_of_ble_eq_true rfl) rfl k zEx_IAE (by decide +kernel) (List.mem_of_getElem? (i := 13) rfl)
theorem lx_line_c {l : Launch} (hl : l.stackTraces = false) (t : Int32) (y : Int32) (z : Int32) (p : (nI 0 ≤ t ∧ t ≤ nI 9999)) (p2 : (nI 0 ≤ y ∧ y ≤ nI 7)) (q : ¬ (nI 0 ≤ z ∧ z ≤ nI 3)) : zMetX l 116 [.ref 1, .int t, .int y, .int z] (lh f F (fun _ => 0) G v ob) "java/lang/IllegalArgumentException" := by
  obtain ⟨L, k⟩ := x_line_c (b := 1) (F := F) (h := lh f F (fun _ => 0) G v ob) (by rw [lh_len]; decide) t y z p p2 q
  rw [lh_n] at k
  exact zmetX (is := 66) (wide := false) (text := "no such time, source or level") hl (by decide) (Nat.le_of_ble_eq_true rfl) rfl k zEx_IAE (by decide +kernel) (List.mem_of_getElem? (i := 13) rfl)
theorem lx_word_a {l : Launch} (hl : l.stackTraces = false) (x : Int32) (q : ¬ (nI 0 ≤ x ∧ x ≤ nI 999)) : zMetX l 117 [.ref 1, .int x] (lh f F (fun _ => 0) G v ob) "java/lang/IllegalArgumentException" := by
  obtain ⟨L, k⟩ := x_word_a (b := 1) (F := F) (h := lh f F (fun _ => 0) G v ob) (by rw [lh_len]; decide) x q
  rw [lh_n] at k
  exact zmetX (is := 96) (wide := false) (text := "no such word") hl (by decide) (Nat.le_of_ble_eq_true rfl) rfl k zEx_IAE (by decide +kernel) (List.mem_of_getElem? (i := 16) rfl)
theorem lx_word {l : Launch} (hl : l.stackTraces = false) (x : Int32) (q : (nI 0 ≤ x ∧ x ≤ nI 999)) : zMetX l 117 [.ref 1, .int x] (lh f F (fun _ => 0) G v ob) "java/lang/IllegalStateException" := by
  obtain ⟨L, k⟩ := x_word (b := 1) (F := F) (h := lh f F (fun _ => 0) G v ob) (by rw [lh_len]; decide) x q
  rw [lh_n] at k
  exact zmetX (is := 104) (wide := false) (text := "no line takes a word now") hl (by decide) (Nat.le_of_ble_eq_true rfl) rfl k zEx_ISE (by decide +kernel) (List.mem_of_getElem? (i := 17) rfl)
theorem lx_learn_a {l : Launch} (hl : l.stackTraces = false) (x : Int32) (q : ¬ (nI 1 ≤ x ∧ x ≤ nI 70)) : zMetX l 118 [.ref 1, .int x] (lh f F (fun _ => 0) G v ob) "java/lang/IllegalArgumentException" := by
  obtain ⟨L, k⟩ := x_learn_a (b := 1) (F := F) (h := lh f F (fun _ => 0) G v ob) (by rw [lh_len]; decide) x q
  rw [lh_n] at k
  exact zmetX (is := 110) (wide := false) (text := "most is not 1 to 70") hl (by decide) (Nat.le_of_ble_eq_true rfl) rfl k zEx_IAE (by decide +kernel) (List.mem_of_getElem? (i := 18) rfl)
theorem lx_set_a {l : Launch} (hl : l.stackTraces = false) (x : Int32) (w : Int32) (q : ¬ (nI 0 ≤ x ∧ x ≤ nI 3)) : zMetX l 119 [.ref 1, .int x, .int w] (lh f F (fun _ => 0) G v ob) "java/lang/IllegalArgumentException" := by
  obtain ⟨L, k⟩ := x_set_a (b := 1) (F := F) (h := lh f F (fun _ => 0) G v ob) (by rw [lh_len]; decide) x w q
  rw [lh_n] at k
  exact zmetX (is := 119) (wide := false) (text := "no such setting") hl (by decide) (Nat.le_of_ble_eq_true rfl) rfl k zEx_IAE (by decide +kernel) (List.mem_of_getElem? (i := 19) rfl)
theorem lx_set_b0 {l : Launch} (hl : l.stackTraces = false) (w : Int32) (q : ¬ (nI 0 ≤ w ∧ w ≤ nI 100)) : zMetX l 119 [.ref 1, .int (nI 0), .int w] (lh f F (fun _ => 0) G v ob) "java/lang/IllegalArgumentException" := by
  obtain ⟨L, k⟩ := x_set_b0 (b := 1) (F := F) (h := lh f F (fun _ => 0) G v ob) (by rw [lh_len]; decide) w q
  rw [lh_n] at k
  exact zmetX (is := 121) (wide := false) (text := "the setting is out of its range") hl (by decide) (Nat.le_of_ble_eq_true rfl) rfl k zEx_IAE (by decide +kernel) (List.mem_of_getElem? (i := 20) rfl)
theorem lx_set_b1 {l : Launch} (hl : l.stackTraces = false) (w : Int32) (q : ¬ (nI 0 ≤ w ∧ w ≤ nI 1000)) : zMetX l 119 [.ref 1, .int (nI 1), .int w] (lh f F (fun _ => 0) G v ob) "java/lang/IllegalArgumentException" := by
  obtain ⟨L, k⟩ := x_set_b1 (b := 1) (F := F) (h := lh f F (fun _ => 0) G v ob) (by rw [lh_len]; decide) w q
  rw [lh_n] at k
  exact zmetX (is := 121) (wide := false) (text := "the setting is out of its range") hl (by decide) (Nat.le_of_ble_eq_true rfl) rfl k zEx_IAE (by decide +kernel) (List.mem_of_getElem? (i := 20) rfl)
theorem lx_set_b2 {l : Launch} (hl : l.stackTraces = false) (w : Int32) (q : ¬ (nI 1 ≤ w ∧ w ≤ nI 1000)) : zMetX l 119 [.ref 1, .int (nI 2), .int w] (lh f F (fun _ => 0) G v ob) "java/lang/IllegalArgumentException" := by
  obtain ⟨L, k⟩ := x_set_b2 (b := 1) (F := F) (h := lh f F (fun _ => 0) G v ob) (by rw [lh_len]; decide) w q
  rw [lh_n] at k
  exact zmetX (is := 121) (wide := false) (text := "the setting is out of its range") hl (by decide) (Nat.le_of_ble_eq_true rfl) rfl k zEx_IAE (by decide +kernel) (List.mem_of_getElem? (i := 20) rfl)
theorem lx_set_b3 {l : Launch} (hl : l.stackTraces = false) (w : Int32) (q : ¬ (nI 0 ≤ w ∧ w ≤ nI 1000)) : zMetX l 119 [.ref 1, .int (nI 3), .int w] (lh f F (fun _ => 0) G v ob) "java/lang/IllegalArgumentException" := by
  obtain ⟨L, k⟩ := x_set_b3 (b := 1) (F := F) (h := lh f F (fun _ => 0) G v ob) (by rw [lh_len]; decide) w q
  rw [lh_n] at k
  exact zmetX (is := 121) (wide := false) (text := "the setting is out of its range") hl (by decide) (Nat.le_of_ble_eq_true rfl) rfl k zEx_IAE (by decide +kernel) (List.mem_of_getElem? (i := 20) rfl)
theorem lx_many_a {l : Launch} (hl : l.stackTraces = false) (x : Int32) (q : ¬ (nI 0 ≤ x ∧ x ≤ nI 5)) : zMetX l 94 [.ref 1, .int x] (lh f F (fun _ => 0) G v ob) "java/lang/IllegalArgumentException" := by
  obtain ⟨L, k⟩ := x_many_a (b := 1) (F := F) (h := lh f F (fun _ => 0) G v ob) (by rw [lh_len]; decide) x q
  rw [lh_n] at k
  exact zmetX (is := 127) (wide := false) (text := "what is not 0 to 5") hl (by decide) (Nat.le_of_ble_eq_true rfl) rfl k zEx_IAE (by decide +kernel) (List.mem_of_getElem? (i := 0) rfl)
theorem lx_templatesWith_a {l : Launch} (hl : l.stackTraces = false) (x : Int32) (q : ¬ (nI 0 ≤ x ∧ x ≤ nI 100)) : zMetX l 126 [.ref 1, .int x] (lh f F (fun _ => 0) G v ob) "java/lang/IllegalArgumentException" := by
  obtain ⟨L, k⟩ := x_templatesWith_a (b := 1) (F := F) (h := lh f F (fun _ => 0) G v ob) (by rw [lh_len]; decide) x q
  rw [lh_n] at k
  exact zmetX (is := 278) (wide := true) (text := "the share is not 0 to 100") hl (by decide) (Nat.le_of_ble_eq_true rfl) rfl k zEx_IAE (by decide +kernel) (List.mem_of_getElem? (i := 24) rfl)
theorem lx_sessionsWith_a {l : Launch} (hl : l.stackTraces = false) (x : Int32) (q : ¬ (nI 0 ≤ x ∧ x ≤ nI 1000)) : zMetX l 127 [.ref 1, .int x] (lh f F (fun _ => 0) G v ob) "java/lang/IllegalArgumentException" := by
  obtain ⟨L, k⟩ := x_sessionsWith_a (b := 1) (F := F) (h := lh f F (fun _ => 0) G v ob) (by rw [lh_len]; decide) x q
  rw [lh_n] at k
  exact zmetX (is := 280) (wide := true) (text := "the gap is not 0 to 1000") hl (by decide) (Nat.le_of_ble_eq_true rfl) rfl k zEx_IAE (by decide +kernel) (List.mem_of_getElem? (i := 25) rfl)
theorem lc_ofLine (hF : lF F) (hx0 : f 0 &&& nI 31 = nI 6) : zLw 0 23 (lLs none none none none) [] (lh f F (fun _ => 0) mG (fun _ => 0) (fun _ => 0)) := by
  refine zLw_gt (lp_ofLine (by rfl) hx0) (by have := lh_zss (f := f) (F := F) (g := fun _ => 0) (G := mG) (v := fun _ => 0) (ob := fun _ => 0); show 89 + 0 ≤ 600002 ∧ _ ≤ 7302232; exact ⟨by decide, by show zss (lh f F (fun _ => 0) mG (fun _ => 0) (fun _ => 0)) + 6 * 0 ≤ 7302232; omega⟩) ?_
  show zLw 0 495 (lLs none none none none) ([.ref 1, .int (f 1), .int (f 2), .ref 88] : List Value).reverse (lh f F (fun _ => 0) mG (fun _ => 0) (fun _ => 0))
  refine zLw_catch wk_ofLine rfl (fun l hl => wx_ofLine (fs := _) (by rfl) (f 1) (f 2) (lx_ofLine hl (f 1) (f 2))) lh_zclH rfl (Nat.le_of_ble_eq_true rfl) (by have := lh_zss (f := f) (F := F) (g := fun _ => 0) (G := mG) (v := fun _ => 0) (ob := fun _ => 0); rw [lh_len]; omega) ?_
  have mo := mo_ofLine (h := lh f F (fun _ => 0) mG (fun _ => 0) (fun _ => 0)) (c := 72) (G := mG) (v := fun _ => 0) (r := mr 72) (by decide) (by rw [lh_len]; decide) rfl rfl rfl (f 1) (f 2)
  rw [lh_m] at mo
  obtain ⟨h3, ⟨r1, r2⟩, kr⟩ := tl_ofLine (h := lh f F (fun _ => 0) mG (fun _ => 0) (fun _ => 0)) (f := f) (ob := fun _ => 0) (k := nI 1) (by rfl) (by rfl) (by rfl) rfl mo (fun e => absurd e (by decide))
  refine zLw_pure kr ?_
  exact l_room _ _ r1 r2 lh_zss rfl 1 (Nat.le_refl 1)
theorem lc_wordAt (hF : lF F) (hx0 : f 0 &&& nI 31 = nI 7) : zLw 0 23 (lLs none none none none) [] (lh f F (fun _ => 0) mG (fun _ => 0) (fun _ => 0)) := by
  refine zLw_gt (lp_wordAt (by rfl) hx0) (by have := lh_zss (f := f) (F := F) (g := fun _ => 0) (G := mG) (v := fun _ => 0) (ob := fun _ => 0); show 89 + 0 ≤ 600002 ∧ _ ≤ 7302232; exact ⟨by decide, by show zss (lh f F (fun _ => 0) mG (fun _ => 0) (fun _ => 0)) + 6 * 0 ≤ 7302232; omega⟩) ?_
  show zLw 0 563 (lLs none none none none) ([.ref 1, .int (f 1), .int (f 2), .ref 88] : List Value).reverse (lh f F (fun _ => 0) mG (fun _ => 0) (fun _ => 0))
  refine zLw_catch wk_wordAt rfl (fun l hl => wx_wordAt (fs := _) (by rfl) (f 1) (f 2) (lx_wordAt hl (f 1) (f 2))) lh_zclH rfl (Nat.le_of_ble_eq_true rfl) (by have := lh_zss (f := f) (F := F) (g := fun _ => 0) (G := mG) (v := fun _ => 0) (ob := fun _ => 0); rw [lh_len]; omega) ?_
  have mo := mo_wordAt (h := lh f F (fun _ => 0) mG (fun _ => 0) (fun _ => 0)) (c := 72) (G := mG) (v := fun _ => 0) (r := mr 72) (by decide) (by rw [lh_len]; decide) rfl rfl rfl (f 1) (f 2)
  rw [lh_m] at mo
  obtain ⟨h3, ⟨r1, r2⟩, kr⟩ := tl_wordAt (h := lh f F (fun _ => 0) mG (fun _ => 0) (fun _ => 0)) (f := f) (ob := fun _ => 0) (k := nI 1) (by rfl) (by rfl) (by rfl) rfl mo (fun e => absurd e (by decide))
  refine zLw_pure kr ?_
  exact l_room _ _ r1 r2 lh_zss rfl 1 (Nat.le_refl 1)
theorem lc_ofTemplate (hF : lF F) (hx0 : f 0 &&& nI 31 = nI 8) : zLw 0 23 (lLs none none none none) [] (lh f F (fun _ => 0) mG (fun _ => 0) (fun _ => 0)) := by
  refine zLw_gt (lp_ofTemplate (by rfl) hx0) (by have := lh_zss (f := f) (F := F) (g := fun _ => 0) (G := mG) (v := fun _ => 0) (ob := fun _ => 0); show 89 + 0 ≤ 600002 ∧ _ ≤ 7302232; exact ⟨by decide, by show zss (lh f F (fun _ => 0) mG (fun _ => 0) (fun _ => 0)) + 6 * 0 ≤ 7302232; omega⟩) ?_
  show zLw 0 631 (lLs none none none none) ([.ref 1, .int (f 1), .int (f 2), .ref 88] : List Value).reverse (lh f F (fun _ => 0) mG (fun _ => 0) (fun _ => 0))
  refine zLw_catch wk_ofTemplate rfl (fun l hl => wx_ofTemplate (fs := _) (by rfl) (f 1) (f 2) (lx_ofTemplate hl (f 1) (f 2))) lh_zclH rfl (Nat.le_of_ble_eq_true rfl) (by have := lh_zss (f := f) (F := F) (g := fun _ => 0) (G := mG) (v := fun _ => 0) (ob := fun _ => 0); rw [lh_len]; omega) ?_
  have mo := mo_ofTemplate (h := lh f F (fun _ => 0) mG (fun _ => 0) (fun _ => 0)) (c := 72) (G := mG) (v := fun _ => 0) (r := mr 72) (by decide) (by rw [lh_len]; decide) rfl rfl rfl (f 1) (f 2)
  rw [lh_m] at mo
  obtain ⟨h3, ⟨r1, r2⟩, kr⟩ := tl_ofTemplate (h := lh f F (fun _ => 0) mG (fun _ => 0) (fun _ => 0)) (f := f) (ob := fun _ => 0) (k := nI 1) (by rfl) (by rfl) (by rfl) rfl mo (fun e => absurd e (by decide))
  refine zLw_pure kr ?_
  exact l_room _ _ r1 r2 lh_zss rfl 1 (Nat.le_refl 1)
theorem lc_slot (hF : lF F) (hx0 : f 0 &&& nI 31 = nI 9) : zLw 0 23 (lLs none none none none) [] (lh f F (fun _ => 0) mG (fun _ => 0) (fun _ => 0)) := by
  refine zLw_gt (lp_slot (by rfl) hx0) (by have := lh_zss (f := f) (F := F) (g := fun _ => 0) (G := mG) (v := fun _ => 0) (ob := fun _ => 0); show 89 + 0 ≤ 600002 ∧ _ ≤ 7302232; exact ⟨by decide, by show zss (lh f F (fun _ => 0) mG (fun _ => 0) (fun _ => 0)) + 6 * 0 ≤ 7302232; omega⟩) ?_
  show zLw 0 699 (lLs none none none none) ([.ref 1, .int (f 1), .int (f 2), .ref 88] : List Value).reverse (lh f F (fun _ => 0) mG (fun _ => 0) (fun _ => 0))
  refine zLw_catch wk_slot rfl (fun l hl => wx_slot (fs := _) (by rfl) (f 1) (f 2) (lx_slot hl (f 1) (f 2))) lh_zclH rfl (Nat.le_of_ble_eq_true rfl) (by have := lh_zss (f := f) (F := F) (g := fun _ => 0) (G := mG) (v := fun _ => 0) (ob := fun _ => 0); rw [lh_len]; omega) ?_
  have mo := mo_slot (h := lh f F (fun _ => 0) mG (fun _ => 0) (fun _ => 0)) (c := 72) (G := mG) (v := fun _ => 0) (r := mr 72) (by decide) (by rw [lh_len]; decide) rfl rfl rfl (f 1) (f 2)
  rw [lh_m] at mo
  obtain ⟨h3, ⟨r1, r2⟩, kr⟩ := tl_slot (h := lh f F (fun _ => 0) mG (fun _ => 0) (fun _ => 0)) (f := f) (ob := fun _ => 0) (k := nI 1) (by rfl) (by rfl) (by rfl) rfl mo (fun e => absurd e (by decide))
  refine zLw_pure kr ?_
  exact l_room _ _ r1 r2 lh_zss rfl 1 (Nat.le_refl 1)
theorem lc_values (hF : lF F) (hx0 : f 0 &&& nI 31 = nI 10) : zLw 0 23 (lLs none none none none) [] (lh f F (fun _ => 0) mG (fun _ => 0) (fun _ => 0)) := by
  refine zLw_gt (lp_values (by rfl) hx0) (by have := lh_zss (f := f) (F := F) (g := fun _ => 0) (G := mG) (v := fun _ => 0) (ob := fun _ => 0); show 89 + 0 ≤ 600002 ∧ _ ≤ 7302232; exact ⟨by decide, by show zss (lh f F (fun _ => 0) mG (fun _ => 0) (fun _ => 0)) + 6 * 0 ≤ 7302232; omega⟩) ?_
  show zLw 0 767 (lLs none none none none) ([.ref 1, .int (f 1), .int (f 2), .ref 88] : List Value).reverse (lh f F (fun _ => 0) mG (fun _ => 0) (fun _ => 0))
  refine zLw_catch wk_values rfl (fun l hl => wx_values (fs := _) (by rfl) (f 1) (f 2) (lx_values hl (f 1) (f 2))) lh_zclH rfl (Nat.le_of_ble_eq_true rfl) (by have := lh_zss (f := f) (F := F) (g := fun _ => 0) (G := mG) (v := fun _ => 0) (ob := fun _ => 0); rw [lh_len]; omega) ?_
  have mo := mo_values (h := lh f F (fun _ => 0) mG (fun _ => 0) (fun _ => 0)) (c := 72) (G := mG) (v := fun _ => 0) (r := mr 72) (by decide) (by rw [lh_len]; decide) rfl rfl rfl (f 1) (f 2)
  rw [lh_m] at mo
  obtain ⟨h3, ⟨r1, r2⟩, kr⟩ := tl_values (h := lh f F (fun _ => 0) mG (fun _ => 0) (fun _ => 0)) (f := f) (ob := fun _ => 0) (k := nI 1) (by rfl) (by rfl) (by rfl) rfl mo (fun e => absurd e (by decide))
  refine zLw_pure kr ?_
  exact l_room _ _ r1 r2 lh_zss rfl 1 (Nat.le_refl 1)
theorem lc_alike (hF : lF F) (hx0 : f 0 &&& nI 31 = nI 11) : zLw 0 23 (lLs none none none none) [] (lh f F (fun _ => 0) mG (fun _ => 0) (fun _ => 0)) := by
  refine zLw_gt (lp_alike (by rfl) hx0) (by have := lh_zss (f := f) (F := F) (g := fun _ => 0) (G := mG) (v := fun _ => 0) (ob := fun _ => 0); show 89 + 0 ≤ 600002 ∧ _ ≤ 7302232; exact ⟨by decide, by show zss (lh f F (fun _ => 0) mG (fun _ => 0) (fun _ => 0)) + 6 * 0 ≤ 7302232; omega⟩) ?_
  show zLw 0 835 (lLs none none none none) ([.ref 1, .int (f 1), .int (f 2), .ref 88] : List Value).reverse (lh f F (fun _ => 0) mG (fun _ => 0) (fun _ => 0))
  refine zLw_catch wk_alike rfl (fun l hl => wx_alike (fs := _) (by rfl) (f 1) (f 2) (lx_alike hl (f 1) (f 2))) lh_zclH rfl (Nat.le_of_ble_eq_true rfl) (by have := lh_zss (f := f) (F := F) (g := fun _ => 0) (G := mG) (v := fun _ => 0) (ob := fun _ => 0); rw [lh_len]; omega) ?_
  have mo := mo_alike (h := lh f F (fun _ => 0) mG (fun _ => 0) (fun _ => 0)) (c := 72) (G := mG) (v := fun _ => 0) (r := mr 72) (by decide) (by rw [lh_len]; decide) rfl rfl rfl (f 1) (f 2)
  rw [lh_m] at mo
  obtain ⟨h3, ⟨r1, r2⟩, kr⟩ := tl_alike (h := lh f F (fun _ => 0) mG (fun _ => 0) (fun _ => 0)) (f := f) (ob := fun _ => 0) (k := nI 1) (by rfl) (by rfl) (by rfl) rfl mo (fun e => absurd e (by decide))
  refine zLw_pure kr ?_
  exact l_room _ _ r1 r2 lh_zss rfl 1 (Nat.le_refl 1)
theorem lc_ofSession (hF : lF F) (hx0 : f 0 &&& nI 31 = nI 12) : zLw 0 23 (lLs none none none none) [] (lh f F (fun _ => 0) mG (fun _ => 0) (fun _ => 0)) := by
  refine zLw_gt (lp_ofSession (by rfl) hx0) (by have := lh_zss (f := f) (F := F) (g := fun _ => 0) (G := mG) (v := fun _ => 0) (ob := fun _ => 0); show 89 + 0 ≤ 600002 ∧ _ ≤ 7302232; exact ⟨by decide, by show zss (lh f F (fun _ => 0) mG (fun _ => 0) (fun _ => 0)) + 6 * 0 ≤ 7302232; omega⟩) ?_
  show zLw 0 903 (lLs none none none none) ([.ref 1, .int (f 1), .int (f 2), .ref 88] : List Value).reverse (lh f F (fun _ => 0) mG (fun _ => 0) (fun _ => 0))
  refine zLw_catch wk_ofSession rfl (fun l hl => wx_ofSession (fs := _) (by rfl) (f 1) (f 2) (lx_ofSession hl (f 1) (f 2))) lh_zclH rfl (Nat.le_of_ble_eq_true rfl) (by have := lh_zss (f := f) (F := F) (g := fun _ => 0) (G := mG) (v := fun _ => 0) (ob := fun _ => 0); rw [lh_len]; omega) ?_
  have mo := mo_ofSession (h := lh f F (fun _ => 0) mG (fun _ => 0) (fun _ => 0)) (c := 72) (G := mG) (v := fun _ => 0) (r := mr 72) (by decide) (by rw [lh_len]; decide) rfl rfl rfl (f 1) (f 2)
  rw [lh_m] at mo
  obtain ⟨h3, ⟨r1, r2⟩, kr⟩ := tl_ofSession (h := lh f F (fun _ => 0) mG (fun _ => 0) (fun _ => 0)) (f := f) (ob := fun _ => 0) (k := nI 1) (by rfl) (by rfl) (by rfl) rfl mo (fun e => absurd e (by decide))
  refine zLw_pure kr ?_
  exact l_room _ _ r1 r2 lh_zss rfl 1 (Nat.le_refl 1)
theorem lc_inSession (hF : lF F) (hx0 : f 0 &&& nI 31 = nI 13) : zLw 0 23 (lLs none none none none) [] (lh f F (fun _ => 0) mG (fun _ => 0) (fun _ => 0)) := by
  refine zLw_gt (lp_inSession (by rfl) hx0) (by have := lh_zss (f := f) (F := F) (g := fun _ => 0) (G := mG) (v := fun _ => 0) (ob := fun _ => 0); show 89 + 0 ≤ 600002 ∧ _ ≤ 7302232; exact ⟨by decide, by show zss (lh f F (fun _ => 0) mG (fun _ => 0) (fun _ => 0)) + 6 * 0 ≤ 7302232; omega⟩) ?_
  show zLw 0 971 (lLs none none none none) ([.ref 1, .int (f 1), .int (f 2), .ref 88] : List Value).reverse (lh f F (fun _ => 0) mG (fun _ => 0) (fun _ => 0))
  refine zLw_catch wk_inSession rfl (fun l hl => wx_inSession (fs := _) (by rfl) (f 1) (f 2) (lx_inSession hl (f 1) (f 2))) lh_zclH rfl (Nat.le_of_ble_eq_true rfl) (by have := lh_zss (f := f) (F := F) (g := fun _ => 0) (G := mG) (v := fun _ => 0) (ob := fun _ => 0); rw [lh_len]; omega) ?_
  have mo := mo_inSession (h := lh f F (fun _ => 0) mG (fun _ => 0) (fun _ => 0)) (c := 72) (G := mG) (v := fun _ => 0) (r := mr 72) (by decide) (by rw [lh_len]; decide) rfl rfl rfl (f 1) (f 2)
  rw [lh_m] at mo
  obtain ⟨h3, ⟨r1, r2⟩, kr⟩ := tl_inSession (h := lh f F (fun _ => 0) mG (fun _ => 0) (fun _ => 0)) (f := f) (ob := fun _ => 0) (k := nI 1) (by rfl) (by rfl) (by rfl) rfl mo (fun e => absurd e (by decide))
  refine zLw_pure kr ?_
  exact l_room _ _ r1 r2 lh_zss rfl 1 (Nat.le_refl 1)
theorem lc_count (hF : lF F) (hx0 : f 0 &&& nI 31 = nI 16) : zLw 0 23 (lLs none none none none) [] (lh f F (fun _ => 0) mG (fun _ => 0) (fun _ => 0)) := by
  refine zLw_gt (lp_count (by rfl) hx0) (by have := lh_zss (f := f) (F := F) (g := fun _ => 0) (G := mG) (v := fun _ => 0) (ob := fun _ => 0); show 89 + 0 ≤ 600002 ∧ _ ≤ 7302232; exact ⟨by decide, by show zss (lh f F (fun _ => 0) mG (fun _ => 0) (fun _ => 0)) + 6 * 0 ≤ 7302232; omega⟩) ?_
  show zLw 0 1093 (lLs none none none none) ([.ref 1, .int (f 1), .int (f 2), .ref 88] : List Value).reverse (lh f F (fun _ => 0) mG (fun _ => 0) (fun _ => 0))
  refine zLw_catch wk_count rfl (fun l hl => wx_count (fs := _) (by rfl) (f 1) (f 2) (lx_count hl (f 1) (f 2))) lh_zclH rfl (Nat.le_of_ble_eq_true rfl) (by have := lh_zss (f := f) (F := F) (g := fun _ => 0) (G := mG) (v := fun _ => 0) (ob := fun _ => 0); rw [lh_len]; omega) ?_
  have mo := mo_count (h := lh f F (fun _ => 0) mG (fun _ => 0) (fun _ => 0)) (c := 72) (G := mG) (v := fun _ => 0) (r := mr 72) (by decide) (by rw [lh_len]; decide) rfl rfl rfl (f 1) (f 2)
  rw [lh_m] at mo
  obtain ⟨h3, ⟨r1, r2⟩, kr⟩ := tl_count (h := lh f F (fun _ => 0) mG (fun _ => 0) (fun _ => 0)) (f := f) (ob := fun _ => 0) (k := nI 1) (by rfl) (by rfl) (by rfl) rfl mo (fun e => absurd e (by decide))
  refine zLw_pure kr ?_
  exact l_room _ _ r1 r2 lh_zss rfl 1 (Nat.le_refl 1)
theorem lc_spike (hF : lF F) (hx0 : f 0 &&& nI 31 = nI 17) : zLw 0 23 (lLs none none none none) [] (lh f F (fun _ => 0) mG (fun _ => 0) (fun _ => 0)) := by
  refine zLw_gt (lp_spike (by rfl) hx0) (by have := lh_zss (f := f) (F := F) (g := fun _ => 0) (G := mG) (v := fun _ => 0) (ob := fun _ => 0); show 89 + 0 ≤ 600002 ∧ _ ≤ 7302232; exact ⟨by decide, by show zss (lh f F (fun _ => 0) mG (fun _ => 0) (fun _ => 0)) + 6 * 0 ≤ 7302232; omega⟩) ?_
  show zLw 0 1161 (lLs none none none none) ([.ref 1, .int (f 1), .int (f 2), .ref 88] : List Value).reverse (lh f F (fun _ => 0) mG (fun _ => 0) (fun _ => 0))
  refine zLw_catch wk_spike rfl (fun l hl => wx_spike (fs := _) (by rfl) (f 1) (f 2) (lx_spike hl (f 1) (f 2))) lh_zclH rfl (Nat.le_of_ble_eq_true rfl) (by have := lh_zss (f := f) (F := F) (g := fun _ => 0) (G := mG) (v := fun _ => 0) (ob := fun _ => 0); rw [lh_len]; omega) ?_
  have mo := mo_spike (h := lh f F (fun _ => 0) mG (fun _ => 0) (fun _ => 0)) (c := 72) (G := mG) (v := fun _ => 0) (r := mr 72) (by decide) (by rw [lh_len]; decide) rfl rfl rfl (f 1) (f 2)
  rw [lh_m] at mo
  obtain ⟨h3, ⟨r1, r2⟩, kr⟩ := tl_spike (h := lh f F (fun _ => 0) mG (fun _ => 0) (fun _ => 0)) (f := f) (ob := fun _ => 0) (k := nI 1) (by rfl) (by rfl) (by rfl) rfl mo (fun e => absurd e (by decide))
  refine zLw_pure kr ?_
  exact l_room _ _ r1 r2 lh_zss rfl 1 (Nat.le_refl 1)
theorem lc_causes (hF : lF F) (hx0 : f 0 &&& nI 31 = nI 18) : zLw 0 23 (lLs none none none none) [] (lh f F (fun _ => 0) mG (fun _ => 0) (fun _ => 0)) := by
  refine zLw_gt (lp_causes (by rfl) hx0) (by have := lh_zss (f := f) (F := F) (g := fun _ => 0) (G := mG) (v := fun _ => 0) (ob := fun _ => 0); show 89 + 0 ≤ 600002 ∧ _ ≤ 7302232; exact ⟨by decide, by show zss (lh f F (fun _ => 0) mG (fun _ => 0) (fun _ => 0)) + 6 * 0 ≤ 7302232; omega⟩) ?_
  show zLw 0 1223 (lLs none none none none) ([.ref 1, .int (f 1), .ref 88] : List Value).reverse (lh f F (fun _ => 0) mG (fun _ => 0) (fun _ => 0))
  refine zLw_catch wk_causes rfl (fun l hl => wx_causes (fs := _) (by rfl) (f 1) (lx_causes hl (f 1))) lh_zclH rfl (Nat.le_of_ble_eq_true rfl) (by have := lh_zss (f := f) (F := F) (g := fun _ => 0) (G := mG) (v := fun _ => 0) (ob := fun _ => 0); rw [lh_len]; omega) ?_
  have mo := mo_causes (h := lh f F (fun _ => 0) mG (fun _ => 0) (fun _ => 0)) (c := 72) (G := mG) (v := fun _ => 0) (r := mr 72) (by decide) (by rw [lh_len]; decide) rfl rfl rfl (f 1)
  rw [lh_m] at mo
  obtain ⟨h3, ⟨r1, r2⟩, kr⟩ := tl_causes (h := lh f F (fun _ => 0) mG (fun _ => 0) (fun _ => 0)) (f := f) (ob := fun _ => 0) (k := nI 1) (by rfl) (by rfl) (by rfl) rfl mo (fun e => absurd e (by decide))
  refine zLw_pure kr ?_
  exact l_room _ _ r1 r2 lh_zss rfl 1 (Nat.le_refl 1)
theorem lc_cause (hF : lF F) (hx0 : f 0 &&& nI 31 = nI 19) : zLw 0 23 (lLs none none none none) [] (lh f F (fun _ => 0) mG (fun _ => 0) (fun _ => 0)) := by
  refine zLw_gt (lp_cause (by rfl) hx0) (by have := lh_zss (f := f) (F := F) (g := fun _ => 0) (G := mG) (v := fun _ => 0) (ob := fun _ => 0); show 89 + 0 ≤ 600002 ∧ _ ≤ 7302232; exact ⟨by decide, by show zss (lh f F (fun _ => 0) mG (fun _ => 0) (fun _ => 0)) + 6 * 0 ≤ 7302232; omega⟩) ?_
  show zLw 0 1291 (lLs none none none none) ([.ref 1, .int (f 1), .int (f 2), .int (f 3), .ref 88] : List Value).reverse (lh f F (fun _ => 0) mG (fun _ => 0) (fun _ => 0))
  refine zLw_catch wk_cause rfl (fun l hl => wx_cause (fs := _) (by rfl) (f 1) (f 2) (f 3) (lx_cause hl (f 1) (f 2) (f 3))) lh_zclH rfl (Nat.le_of_ble_eq_true rfl) (by have := lh_zss (f := f) (F := F) (g := fun _ => 0) (G := mG) (v := fun _ => 0) (ob := fun _ => 0); rw [lh_len]; omega) ?_
  have mo := mo_cause (h := lh f F (fun _ => 0) mG (fun _ => 0) (fun _ => 0)) (c := 72) (G := mG) (v := fun _ => 0) (r := mr 72) (by decide) (by rw [lh_len]; decide) rfl rfl rfl (f 1) (f 2) (f 3)
  rw [lh_m] at mo
  obtain ⟨h3, ⟨r1, r2⟩, kr⟩ := tl_cause (h := lh f F (fun _ => 0) mG (fun _ => 0) (fun _ => 0)) (f := f) (ob := fun _ => 0) (k := nI 1) (by rfl) (by rfl) (by rfl) rfl mo (fun e => absurd e (by decide))
  refine zLw_pure kr ?_
  exact l_room _ _ r1 r2 lh_zss rfl 1 (Nat.le_refl 1)
theorem lc_because (hF : lF F) (hx0 : f 0 &&& nI 31 = nI 20) : zLw 0 23 (lLs none none none none) [] (lh f F (fun _ => 0) mG (fun _ => 0) (fun _ => 0)) := by
  refine zLw_gt (lp_because (by rfl) hx0) (by have := lh_zss (f := f) (F := F) (g := fun _ => 0) (G := mG) (v := fun _ => 0) (ob := fun _ => 0); show 89 + 0 ≤ 600002 ∧ _ ≤ 7302232; exact ⟨by decide, by show zss (lh f F (fun _ => 0) mG (fun _ => 0) (fun _ => 0)) + 6 * 0 ≤ 7302232; omega⟩) ?_
  show zLw 0 1359 (lLs none none none none) ([.ref 1, .int (f 1), .ref 88] : List Value).reverse (lh f F (fun _ => 0) mG (fun _ => 0) (fun _ => 0))
  refine zLw_catch wk_because rfl (fun l hl => wx_because (fs := _) (by rfl) (f 1) (lx_because hl (f 1))) lh_zclH rfl (Nat.le_of_ble_eq_true rfl) (by have := lh_zss (f := f) (F := F) (g := fun _ => 0) (G := mG) (v := fun _ => 0) (ob := fun _ => 0); rw [lh_len]; omega) ?_
  have mo := mo_because (h := lh f F (fun _ => 0) mG (fun _ => 0) (fun _ => 0)) (c := 72) (G := mG) (v := fun _ => 0) (r := mr 72) (by decide) (by rw [lh_len]; decide) rfl rfl rfl (f 1)
  rw [lh_m] at mo
  obtain ⟨h3, ⟨r1, r2⟩, kr⟩ := tl_because (h := lh f F (fun _ => 0) mG (fun _ => 0) (fun _ => 0)) (f := f) (ob := fun _ => 0) (k := nI 1) (by rfl) (by rfl) (by rfl) rfl mo (fun e => absurd e (by decide))
  refine zLw_pure kr ?_
  exact l_room _ _ r1 r2 lh_zss rfl 1 (Nat.le_refl 1)
theorem lc_wouldBe (hF : lF F) (hx0 : f 0 &&& nI 31 = nI 23) : zLw 0 23 (lLs none none none none) [] (lh f F (fun _ => 0) mG (fun _ => 0) (fun _ => 0)) := by
  refine zLw_gt (lp_wouldBe (by rfl) hx0) (by have := lh_zss (f := f) (F := F) (g := fun _ => 0) (G := mG) (v := fun _ => 0) (ob := fun _ => 0); show 89 + 0 ≤ 600002 ∧ _ ≤ 7302232; exact ⟨by decide, by show zss (lh f F (fun _ => 0) mG (fun _ => 0) (fun _ => 0)) + 6 * 0 ≤ 7302232; omega⟩) ?_
  show zLw 0 1527 (lLs none none none none) ([.ref 1, .int (f 1), .ref 88] : List Value).reverse (lh f F (fun _ => 0) mG (fun _ => 0) (fun _ => 0))
  refine zLw_catch wk_wouldBe rfl (fun l hl => wx_wouldBe (fs := _) (by rfl) (f 1) (lx_wouldBe hl (f 1))) lh_zclH rfl (Nat.le_of_ble_eq_true rfl) (by have := lh_zss (f := f) (F := F) (g := fun _ => 0) (G := mG) (v := fun _ => 0) (ob := fun _ => 0); rw [lh_len]; omega) ?_
  have mo := mo_wouldBe (h := lh f F (fun _ => 0) mG (fun _ => 0) (fun _ => 0)) (c := 72) (G := mG) (v := fun _ => 0) (r := mr 72) (by decide) (by rw [lh_len]; decide) rfl rfl rfl (f 1)
  rw [lh_m] at mo
  obtain ⟨h3, ⟨r1, r2⟩, kr⟩ := tl_wouldBe (h := lh f F (fun _ => 0) mG (fun _ => 0) (fun _ => 0)) (f := f) (ob := fun _ => 0) (k := nI 1) (by rfl) (by rfl) (by rfl) rfl mo (fun e => absurd e (by decide))
  refine zLw_pure kr ?_
  exact l_room _ _ r1 r2 lh_zss rfl 1 (Nat.le_refl 1)
theorem lc_line (hF : lF F) (hx0 : f 0 &&& nI 31 = nI 0) : zLw 0 23 (lLs none none none none) [] (lh f F (fun _ => 0) mG (fun _ => 0) (fun _ => 0)) := by
  refine zLw_gt (lp_line (by rfl) hx0) (by have := lh_zss (f := f) (F := F) (g := fun _ => 0) (G := mG) (v := fun _ => 0) (ob := fun _ => 0); show 89 + 0 ≤ 600002 ∧ _ ≤ 7302232; exact ⟨by decide, by show zss (lh f F (fun _ => 0) mG (fun _ => 0) (fun _ => 0)) + 6 * 0 ≤ 7302232; omega⟩) ?_
  show zLw 0 172 (lLs none none none none) ([.ref 1, .int (f 1), .int (f 2), .int (f 3), .ref 88] : List Value).reverse (lh f F (fun _ => 0) mG (fun _ => 0) (fun _ => 0))
  by_cases p1 : nI 0 ≤ f 1 ∧ f 1 ≤ nI 9999
  · by_cases p2 : nI 0 ≤ f 2 ∧ f 2 ≤ nI 7
    · by_cases p3 : nI 0 ≤ f 3 ∧ f 3 ≤ nI 3
      · obtain ⟨F2, g2, hc⟩ := r_line (h := lh f F (fun _ => 0) mG (fun _ => 0) (fun _ => 0)) (b := 1) (F := F) (by rw [lh_len]; decide) (zOk_new hF) (f 1) (f 2) (f 3) p1 p2 p3
        rw [lh_n, lh_n] at hc
        have hw := wr_line (fs := _) (H := lh f F (fun _ => 0) mG (fun _ => 0) (fun _ => 0)) (by rfl) (f 1) (f 2) (f 3) hc (by rfl)
        rw [lh_o] at hw
        refine zLw_ret wk_line rfl rfl hw (by have := lhn_zss (n := 4) (f := f) (F := F2) (g := g2) (G := mG) (v := fun _ => 0) (ob := vp_updL (fun _ => 0) (nI 0).toNatClampNeg (Int32.toInt64 (0))) (Nat.le_refl 4); exact ⟨by rw [lh_len]; decide, by omega⟩) ?_
        have mo := mo_line (h := lh f F2 g2 mG (fun _ => 0) (vp_updL (fun _ => 0) (nI 0).toNatClampNeg (Int32.toInt64 (0)))) (c := 72) (G := mG) (v := fun _ => 0) (r := mr 72) (by decide) (by rw [lh_len]; decide) rfl rfl rfl (f 1) (f 2) (f 3) p1 p2 p3
        rw [lh_m] at mo
        obtain ⟨h3, ⟨r1, r2⟩, kr⟩ := tl_line (h := lh f F2 g2 mG (fun _ => 0) (vp_updL (fun _ => 0) (nI 0).toNatClampNeg (Int32.toInt64 (0)))) (f := f) (ob := vp_updL (fun _ => 0) (nI 0).toNatClampNeg (Int32.toInt64 (0))) (k := 0) (by rfl) (by rfl) (by rfl) rfl mo (fun _ => l_vp _ _)
        refine zLw_pure kr ?_
        exact l_room _ _ r1 r2 lh_zss rfl 0 (Nat.zero_le 1)
      · refine zLw_catch wk_line rfl (fun l hl => wx_line (fs := _) (by rfl) (f 1) (f 2) (f 3) (lx_line_c hl (f 1) (f 2) (f 3) p1 p2 p3)) lh_zclH rfl (Nat.le_of_ble_eq_true rfl) (by have := lh_zss (f := f) (F := F) (g := fun _ => 0) (G := mG) (v := fun _ => 0) (ob := fun _ => 0); rw [lh_len]; omega) ?_
        have mo := mo_line_c (h := lh f F (fun _ => 0) mG (fun _ => 0) (fun _ => 0)) (c := 72) (G := mG) (v := fun _ => 0) (r := mr 72) (by decide) (by rw [lh_len]; decide) rfl rfl rfl (f 1) (f 2) (f 3) p1 p2 p3
        rw [lh_m] at mo
        obtain ⟨h3, ⟨r1, r2⟩, kr⟩ := tl_line (h := lh f F (fun _ => 0) mG (fun _ => 0) (fun _ => 0)) (f := f) (ob := fun _ => 0) (k := nI 1) (by rfl) (by rfl) (by rfl) rfl mo (fun e => absurd e (by decide))
        refine zLw_pure kr ?_
        exact l_room _ _ r1 r2 lh_zss rfl 1 (Nat.le_refl 1)
    · refine zLw_catch wk_line rfl (fun l hl => wx_line (fs := _) (by rfl) (f 1) (f 2) (f 3) (lx_line_b hl (f 1) (f 2) (f 3) p1 p2)) lh_zclH rfl (Nat.le_of_ble_eq_true rfl) (by have := lh_zss (f := f) (F := F) (g := fun _ => 0) (G := mG) (v := fun _ => 0) (ob := fun _ => 0); rw [lh_len]; omega) ?_
      have mo := mo_line_b (h := lh f F (fun _ => 0) mG (fun _ => 0) (fun _ => 0)) (c := 72) (G := mG) (v := fun _ => 0) (r := mr 72) (by decide) (by rw [lh_len]; decide) rfl rfl rfl (f 1) (f 2) (f 3) p1 p2
      rw [lh_m] at mo
      obtain ⟨h3, ⟨r1, r2⟩, kr⟩ := tl_line (h := lh f F (fun _ => 0) mG (fun _ => 0) (fun _ => 0)) (f := f) (ob := fun _ => 0) (k := nI 1) (by rfl) (by rfl) (by rfl) rfl mo (fun e => absurd e (by decide))
      refine zLw_pure kr ?_
      exact l_room _ _ r1 r2 lh_zss rfl 1 (Nat.le_refl 1)
  · refine zLw_catch wk_line rfl (fun l hl => wx_line (fs := _) (by rfl) (f 1) (f 2) (f 3) (lx_line_a hl (f 1) (f 2) (f 3) p1)) lh_zclH rfl (Nat.le_of_ble_eq_true rfl) (by have := lh_zss (f := f) (F := F) (g := fun _ => 0) (G := mG) (v := fun _ => 0) (ob := fun _ => 0); rw [lh_len]; omega) ?_
    have mo := mo_line_a (h := lh f F (fun _ => 0) mG (fun _ => 0) (fun _ => 0)) (c := 72) (G := mG) (v := fun _ => 0) (r := mr 72) (by decide) (by rw [lh_len]; decide) rfl rfl rfl (f 1) (f 2) (f 3) p1
    rw [lh_m] at mo
    obtain ⟨h3, ⟨r1, r2⟩, kr⟩ := tl_line (h := lh f F (fun _ => 0) mG (fun _ => 0) (fun _ => 0)) (f := f) (ob := fun _ => 0) (k := nI 1) (by rfl) (by rfl) (by rfl) rfl mo (fun e => absurd e (by decide))
    refine zLw_pure kr ?_
    exact l_room _ _ r1 r2 lh_zss rfl 1 (Nat.le_refl 1)
theorem lc_word (hF : lF F) (hx0 : f 0 &&& nI 31 = nI 1) : zLw 0 23 (lLs none none none none) [] (lh f F (fun _ => 0) mG (fun _ => 0) (fun _ => 0)) := by
  refine zLw_gt (lp_word (by rfl) hx0) (by have := lh_zss (f := f) (F := F) (g := fun _ => 0) (G := mG) (v := fun _ => 0) (ob := fun _ => 0); show 89 + 0 ≤ 600002 ∧ _ ≤ 7302232; exact ⟨by decide, by show zss (lh f F (fun _ => 0) mG (fun _ => 0) (fun _ => 0)) + 6 * 0 ≤ 7302232; omega⟩) ?_
  show zLw 0 240 (lLs none none none none) ([.ref 1, .int (f 1), .ref 88] : List Value).reverse (lh f F (fun _ => 0) mG (fun _ => 0) (fun _ => 0))
  by_cases p : nI 0 ≤ f 1 ∧ f 1 ≤ nI 999
  · refine zLw_catch wk_word rfl (fun l hl => wx_word_2 (fs := _) (by rfl) (f 1) (lx_word hl (f 1) p)) lh_zclH rfl (Nat.le_of_ble_eq_true rfl) (by have := lh_zss (f := f) (F := F) (g := fun _ => 0) (G := mG) (v := fun _ => 0) (ob := fun _ => 0); rw [lh_len]; omega) ?_
    have mo := mo_word (h := lh f F (fun _ => 0) mG (fun _ => 0) (fun _ => 0)) (c := 72) (G := mG) (v := fun _ => 0) (r := mr 72) (by decide) (by rw [lh_len]; decide) rfl rfl rfl (f 1) p
    rw [lh_m] at mo
    obtain ⟨h3, ⟨r1, r2⟩, kr⟩ := tl_word (h := lh f F (fun _ => 0) mG (fun _ => 0) (fun _ => 0)) (f := f) (ob := fun _ => 0) (k := nI 2) (by rfl) (by rfl) (by rfl) rfl mo (fun e => absurd e (by decide))
    refine zLw_pure kr ?_
    exact l_room _ _ r1 r2 lh_zss rfl 1 (Nat.le_refl 1)
  · refine zLw_catch wk_word rfl (fun l hl => wx_word (fs := _) (by rfl) (f 1) (lx_word_a hl (f 1) p)) lh_zclH rfl (Nat.le_of_ble_eq_true rfl) (by have := lh_zss (f := f) (F := F) (g := fun _ => 0) (G := mG) (v := fun _ => 0) (ob := fun _ => 0); rw [lh_len]; omega) ?_
    have mo := mo_word_a (h := lh f F (fun _ => 0) mG (fun _ => 0) (fun _ => 0)) (c := 72) (G := mG) (v := fun _ => 0) (r := mr 72) (by decide) (by rw [lh_len]; decide) rfl rfl rfl (f 1) p
    rw [lh_m] at mo
    obtain ⟨h3, ⟨r1, r2⟩, kr⟩ := tl_word (h := lh f F (fun _ => 0) mG (fun _ => 0) (fun _ => 0)) (f := f) (ob := fun _ => 0) (k := nI 1) (by rfl) (by rfl) (by rfl) rfl mo (fun e => absurd e (by decide))
    refine zLw_pure kr ?_
    exact l_room _ _ r1 r2 lh_zss rfl 1 (Nat.le_refl 1)
theorem lc_learn (hF : lF F) (hx0 : f 0 &&& nI 31 = nI 2) : zLw 0 23 (lLs none none none none) [] (lh f F (fun _ => 0) mG (fun _ => 0) (fun _ => 0)) := by
  refine zLw_gt (lp_learn (by rfl) hx0) (by have := lh_zss (f := f) (F := F) (g := fun _ => 0) (G := mG) (v := fun _ => 0) (ob := fun _ => 0); show 89 + 0 ≤ 600002 ∧ _ ≤ 7302232; exact ⟨by decide, by show zss (lh f F (fun _ => 0) mG (fun _ => 0) (fun _ => 0)) + 6 * 0 ≤ 7302232; omega⟩) ?_
  show zLw 0 296 (lLs none none none none) ([.ref 1, .int (f 1), .ref 88] : List Value).reverse (lh f F (fun _ => 0) mG (fun _ => 0) (fun _ => 0))
  by_cases p : nI 1 ≤ f 1 ∧ f 1 ≤ nI 70
  · obtain ⟨F2, g2, hc⟩ := r_learn (h := lh f F (fun _ => 0) mG (fun _ => 0) (fun _ => 0)) (b := 1) (F := F) (by rw [lh_len]; decide) (zOk_new hF) (f 1) p
    rw [lh_n, lh_n] at hc
    have hw := wr_learn (fs := _) (H := lh f F (fun _ => 0) mG (fun _ => 0) (fun _ => 0)) (by rfl) (f 1) hc (by rfl)
    rw [lh_o] at hw
    refine zLw_ret wk_learn rfl rfl hw (by have := lhn_zss (n := 4) (f := f) (F := F2) (g := g2) (G := mG) (v := fun _ => 0) (ob := vp_updL (fun _ => 0) (nI 0).toNatClampNeg (Int32.toInt64 (0))) (Nat.le_refl 4); exact ⟨by rw [lh_len]; decide, by omega⟩) ?_
    have mo := mo_learn (h := lh f F2 g2 mG (fun _ => 0) (vp_updL (fun _ => 0) (nI 0).toNatClampNeg (Int32.toInt64 (0)))) (c := 72) (G := mG) (v := fun _ => 0) (r := mr 72) (by decide) (by rw [lh_len]; decide) rfl rfl rfl (f 1) p
    rw [lh_m] at mo
    obtain ⟨h3, ⟨r1, r2⟩, kr⟩ := tl_learn (h := lh f F2 g2 mG (fun _ => 0) (vp_updL (fun _ => 0) (nI 0).toNatClampNeg (Int32.toInt64 (0)))) (f := f) (ob := vp_updL (fun _ => 0) (nI 0).toNatClampNeg (Int32.toInt64 (0))) (k := 0) (by rfl) (by rfl) (by rfl) rfl mo (fun _ => l_vp _ _)
    refine zLw_pure kr ?_
    exact l_room _ _ r1 r2 lh_zss rfl 0 (Nat.zero_le 1)
  · refine zLw_catch wk_learn rfl (fun l hl => wx_learn (fs := _) (by rfl) (f 1) (lx_learn_a hl (f 1) p)) lh_zclH rfl (Nat.le_of_ble_eq_true rfl) (by have := lh_zss (f := f) (F := F) (g := fun _ => 0) (G := mG) (v := fun _ => 0) (ob := fun _ => 0); rw [lh_len]; omega) ?_
    have mo := mo_learn_a (h := lh f F (fun _ => 0) mG (fun _ => 0) (fun _ => 0)) (c := 72) (G := mG) (v := fun _ => 0) (r := mr 72) (by decide) (by rw [lh_len]; decide) rfl rfl rfl (f 1) p
    rw [lh_m] at mo
    obtain ⟨h3, ⟨r1, r2⟩, kr⟩ := tl_learn (h := lh f F (fun _ => 0) mG (fun _ => 0) (fun _ => 0)) (f := f) (ob := fun _ => 0) (k := nI 1) (by rfl) (by rfl) (by rfl) rfl mo (fun e => absurd e (by decide))
    refine zLw_pure kr ?_
    exact l_room _ _ r1 r2 lh_zss rfl 1 (Nat.le_refl 1)
theorem lc_templatesWith (hF : lF F) (hx0 : f 0 &&& nI 31 = nI 21) : zLw 0 23 (lLs none none none none) [] (lh f F (fun _ => 0) mG (fun _ => 0) (fun _ => 0)) := by
  refine zLw_gt (lp_templatesWith (by rfl) hx0) (by have := lh_zss (f := f) (F := F) (g := fun _ => 0) (G := mG) (v := fun _ => 0) (ob := fun _ => 0); show 89 + 0 ≤ 600002 ∧ _ ≤ 7302232; exact ⟨by decide, by show zss (lh f F (fun _ => 0) mG (fun _ => 0) (fun _ => 0)) + 6 * 0 ≤ 7302232; omega⟩) ?_
  show zLw 0 1415 (lLs none none none none) ([.ref 1, .int (f 1), .ref 88] : List Value).reverse (lh f F (fun _ => 0) mG (fun _ => 0) (fun _ => 0))
  by_cases p : nI 0 ≤ f 1 ∧ f 1 ≤ nI 100
  · obtain ⟨g2, hc⟩ := r_templatesWith (h := lh f F (fun _ => 0) mG (fun _ => 0) (fun _ => 0)) (b := 1) (F := F) (by rw [lh_len]; decide) (f 1) p
    obtain ⟨F2, hF2⟩ : ∃ F2, F2 = F := ⟨_, rfl⟩
    have hc : zcalls zTB 126 [.ref 1, .int (f 1)] (nput 1 F (fun _ => 0) (lh f F (fun _ => 0) mG (fun _ => 0) (fun _ => 0))) (some (.int 0), nput 1 F2 g2 (lh f F (fun _ => 0) mG (fun _ => 0) (fun _ => 0))) := by rw [hF2]; exact hc
    rw [lh_n, lh_n] at hc
    have hw := wr_templatesWith (fs := _) (H := lh f F (fun _ => 0) mG (fun _ => 0) (fun _ => 0)) (by rfl) (f 1) hc (by rfl)
    rw [lh_o] at hw
    refine zLw_ret wk_templatesWith rfl rfl hw (by have := lhn_zss (n := 4) (f := f) (F := F2) (g := g2) (G := mG) (v := fun _ => 0) (ob := vp_updL (fun _ => 0) (nI 0).toNatClampNeg (Int32.toInt64 (0))) (Nat.le_refl 4); exact ⟨by rw [lh_len]; decide, by omega⟩) ?_
    have mo := mo_templatesWith (h := lh f F2 g2 mG (fun _ => 0) (vp_updL (fun _ => 0) (nI 0).toNatClampNeg (Int32.toInt64 (0)))) (c := 72) (G := mG) (v := fun _ => 0) (by decide) (by rw [lh_len]; decide) rfl rfl rfl (f 1) p
    rw [lh_m] at mo
    obtain ⟨h3, ⟨r1, r2⟩, kr⟩ := tl_templatesWith (h := lh f F2 g2 mG (fun _ => 0) (vp_updL (fun _ => 0) (nI 0).toNatClampNeg (Int32.toInt64 (0)))) (f := f) (ob := vp_updL (fun _ => 0) (nI 0).toNatClampNeg (Int32.toInt64 (0))) (k := 0) (by rfl) (by rfl) (by rfl) rfl mo (fun _ => l_vp _ _)
    refine zLw_pure kr ?_
    exact l_room _ _ r1 r2 lh_zss rfl 0 (Nat.zero_le 1)
  · refine zLw_catch wk_templatesWith rfl (fun l hl => wx_templatesWith (fs := _) (by rfl) (f 1) (lx_templatesWith_a hl (f 1) p)) lh_zclH rfl (Nat.le_of_ble_eq_true rfl) (by have := lh_zss (f := f) (F := F) (g := fun _ => 0) (G := mG) (v := fun _ => 0) (ob := fun _ => 0); rw [lh_len]; omega) ?_
    have mo := mo_templatesWith_a (h := lh f F (fun _ => 0) mG (fun _ => 0) (fun _ => 0)) (c := 72) (G := mG) (v := fun _ => 0) (r := mr 72) (by decide) (by rw [lh_len]; decide) rfl rfl rfl (f 1) p
    rw [lh_m] at mo
    obtain ⟨h3, ⟨r1, r2⟩, kr⟩ := tl_templatesWith (h := lh f F (fun _ => 0) mG (fun _ => 0) (fun _ => 0)) (f := f) (ob := fun _ => 0) (k := nI 1) (by rfl) (by rfl) (by rfl) rfl mo (fun e => absurd e (by decide))
    refine zLw_pure kr ?_
    exact l_room _ _ r1 r2 lh_zss rfl 1 (Nat.le_refl 1)
theorem lc_sessionsWith (hF : lF F) (hx0 : f 0 &&& nI 31 = nI 22) : zLw 0 23 (lLs none none none none) [] (lh f F (fun _ => 0) mG (fun _ => 0) (fun _ => 0)) := by
  refine zLw_gt (lp_sessionsWith (by rfl) hx0) (by have := lh_zss (f := f) (F := F) (g := fun _ => 0) (G := mG) (v := fun _ => 0) (ob := fun _ => 0); show 89 + 0 ≤ 600002 ∧ _ ≤ 7302232; exact ⟨by decide, by show zss (lh f F (fun _ => 0) mG (fun _ => 0) (fun _ => 0)) + 6 * 0 ≤ 7302232; omega⟩) ?_
  show zLw 0 1471 (lLs none none none none) ([.ref 1, .int (f 1), .ref 88] : List Value).reverse (lh f F (fun _ => 0) mG (fun _ => 0) (fun _ => 0))
  by_cases p : nI 0 ≤ f 1 ∧ f 1 ≤ nI 1000
  · have hc := r_sessionsWith (h := lh f F (fun _ => 0) mG (fun _ => 0) (fun _ => 0)) (b := 1) (F := F) (by rw [lh_len]; decide) (f 1) p
    obtain ⟨F2, hF2⟩ : ∃ F2, F2 = F := ⟨_, rfl⟩
    obtain ⟨g2, hg2⟩ : ∃ g2 : Nat → Nat, g2 = fun _ => 0 := ⟨_, rfl⟩
    have hc : zcalls zTB 127 [.ref 1, .int (f 1)] (nput 1 F (fun _ => 0) (lh f F (fun _ => 0) mG (fun _ => 0) (fun _ => 0))) (some (.int 0), nput 1 F2 g2 (lh f F (fun _ => 0) mG (fun _ => 0) (fun _ => 0))) := by rw [hF2, hg2]; exact hc
    rw [lh_n, lh_n] at hc
    have hw := wr_sessionsWith (fs := _) (H := lh f F (fun _ => 0) mG (fun _ => 0) (fun _ => 0)) (by rfl) (f 1) hc (by rfl)
    rw [lh_o] at hw
    refine zLw_ret wk_sessionsWith rfl rfl hw (by have := lhn_zss (n := 4) (f := f) (F := F2) (g := g2) (G := mG) (v := fun _ => 0) (ob := vp_updL (fun _ => 0) (nI 0).toNatClampNeg (Int32.toInt64 (0))) (Nat.le_refl 4); exact ⟨by rw [lh_len]; decide, by omega⟩) ?_
    have mo := mo_sessionsWith (h := lh f F2 g2 mG (fun _ => 0) (vp_updL (fun _ => 0) (nI 0).toNatClampNeg (Int32.toInt64 (0)))) (c := 72) (G := mG) (v := fun _ => 0) (r := mr 72) (by decide) (by rw [lh_len]; decide) rfl rfl rfl (f 1) p
    rw [lh_m] at mo
    obtain ⟨h3, ⟨r1, r2⟩, kr⟩ := tl_sessionsWith (h := lh f F2 g2 mG (fun _ => 0) (vp_updL (fun _ => 0) (nI 0).toNatClampNeg (Int32.toInt64 (0)))) (f := f) (ob := vp_updL (fun _ => 0) (nI 0).toNatClampNeg (Int32.toInt64 (0))) (k := 0) (by rfl) (by rfl) (by rfl) rfl mo (fun _ => l_vp _ _)
    refine zLw_pure kr ?_
    exact l_room _ _ r1 r2 lh_zss rfl 0 (Nat.zero_le 1)
  · refine zLw_catch wk_sessionsWith rfl (fun l hl => wx_sessionsWith (fs := _) (by rfl) (f 1) (lx_sessionsWith_a hl (f 1) p)) lh_zclH rfl (Nat.le_of_ble_eq_true rfl) (by have := lh_zss (f := f) (F := F) (g := fun _ => 0) (G := mG) (v := fun _ => 0) (ob := fun _ => 0); rw [lh_len]; omega) ?_
    have mo := mo_sessionsWith_a (h := lh f F (fun _ => 0) mG (fun _ => 0) (fun _ => 0)) (c := 72) (G := mG) (v := fun _ => 0) (r := mr 72) (by decide) (by rw [lh_len]; decide) rfl rfl rfl (f 1) p
    rw [lh_m] at mo
    obtain ⟨h3, ⟨r1, r2⟩, kr⟩ := tl_sessionsWith (h := lh f F (fun _ => 0) mG (fun _ => 0) (fun _ => 0)) (f := f) (ob := fun _ => 0) (k := nI 1) (by rfl) (by rfl) (by rfl) rfl mo (fun e => absurd e (by decide))
    refine zLw_pure kr ?_
    exact l_room _ _ r1 r2 lh_zss rfl 1 (Nat.le_refl 1)
theorem l_upto {x : Int32} {n : Nat} (hn : n < 2 ^ 31) (p : nI 0 ≤ x ∧ x ≤ nI n) : ∃ k, k ≤ n ∧ x = nI k := by
  obtain ⟨k, rfl, -, hk⟩ := nI_ofP p.1
  exact ⟨k, (nI_leI hk hn).mp p.2, rfl⟩
theorem lc_many (hF : lF F) (hx0 : f 0 &&& nI 31 = nI 5) : zLw 0 23 (lLs none none none none) [] (lh f F (fun _ => 0) mG (fun _ => 0) (fun _ => 0)) := by
  refine zLw_gt (lp_many (by rfl) hx0) (by have := lh_zss (f := f) (F := F) (g := fun _ => 0) (G := mG) (v := fun _ => 0) (ob := fun _ => 0); show 89 + 0 ≤ 600002 ∧ _ ≤ 7302232; exact ⟨by decide, by show zss (lh f F (fun _ => 0) mG (fun _ => 0) (fun _ => 0)) + 6 * 0 ≤ 7302232; omega⟩) ?_
  show zLw 0 433 (lLs none none none none) ([.ref 1, .int (f 1), .ref 88] : List Value).reverse (lh f F (fun _ => 0) mG (fun _ => 0) (fun _ => 0))
  by_cases p : nI 0 ≤ f 1 ∧ f 1 ≤ nI 5
  · obtain ⟨k, hk, e⟩ := l_upto (by decide) p
    rcases (show k = 0 ∨ k = 1 ∨ k = 2 ∨ k = 3 ∨ k = 4 ∨ k = 5 by omega) with rfl | rfl | rfl | rfl | rfl | rfl
    · have hc := (r_many (h := lh f F (fun _ => 0) mG (fun _ => 0) (fun _ => 0)) (b := 1) (F := F) (by rw [lh_len]; decide) (zOk_new hF)).1
      obtain ⟨F2, hF2⟩ : ∃ F2, F2 = F := ⟨_, rfl⟩
      obtain ⟨g2, hg2⟩ : ∃ g2 : Nat → Nat, g2 = fun _ => 0 := ⟨_, rfl⟩
      have hc : zcalls zTB 94 [.ref 1, .int (f 1)] (nput 1 F (fun _ => 0) (lh f F (fun _ => 0) mG (fun _ => 0) (fun _ => 0))) (some (.int 0), nput 1 F2 g2 (lh f F (fun _ => 0) mG (fun _ => 0) (fun _ => 0))) := by rw [hF2, hg2, e]; exact hc
      rw [lh_n, lh_n] at hc
      have hw := wr_many (fs := _) (H := lh f F (fun _ => 0) mG (fun _ => 0) (fun _ => 0)) (by rfl) (f 1) hc (by rfl)
      rw [lh_o] at hw
      refine zLw_ret wk_many rfl rfl hw (by have := lhn_zss (n := 4) (f := f) (F := F2) (g := g2) (G := mG) (v := fun _ => 0) (ob := vp_updL (fun _ => 0) (nI 0).toNatClampNeg (Int32.toInt64 (0))) (Nat.le_refl 4); exact ⟨by rw [lh_len]; decide, by omega⟩) ?_
      have mo := mo_many0 (h := lh f F2 g2 mG (fun _ => 0) (vp_updL (fun _ => 0) (nI 0).toNatClampNeg (Int32.toInt64 (0)))) (c := 72) (G := mG) (v := fun _ => 0) (r := mr 72) (by decide) (by rw [lh_len]; decide) rfl rfl rfl
      rw [lh_m] at mo
      obtain ⟨h3, ⟨r1, r2⟩, kr⟩ := tl_many (h := lh f F2 g2 mG (fun _ => 0) (vp_updL (fun _ => 0) (nI 0).toNatClampNeg (Int32.toInt64 (0)))) (f := f) (ob := vp_updL (fun _ => 0) (nI 0).toNatClampNeg (Int32.toInt64 (0))) (k := 0) (by rfl) (by rfl) (by rfl) rfl (by rw [e]; exact mo) (fun _ => l_vp _ _)
      refine zLw_pure kr ?_
      exact l_room _ _ r1 r2 lh_zss rfl 0 (Nat.zero_le 1)
    · have hc := (r_many (h := lh f F (fun _ => 0) mG (fun _ => 0) (fun _ => 0)) (b := 1) (F := F) (by rw [lh_len]; decide) (zOk_new hF)).2.1
      obtain ⟨F2, hF2⟩ : ∃ F2, F2 = F := ⟨_, rfl⟩
      obtain ⟨g2, hg2⟩ : ∃ g2 : Nat → Nat, g2 = fun _ => 0 := ⟨_, rfl⟩
      have hc : zcalls zTB 94 [.ref 1, .int (f 1)] (nput 1 F (fun _ => 0) (lh f F (fun _ => 0) mG (fun _ => 0) (fun _ => 0))) (some (.int 0), nput 1 F2 g2 (lh f F (fun _ => 0) mG (fun _ => 0) (fun _ => 0))) := by rw [hF2, hg2, e]; exact hc
      rw [lh_n, lh_n] at hc
      have hw := wr_many (fs := _) (H := lh f F (fun _ => 0) mG (fun _ => 0) (fun _ => 0)) (by rfl) (f 1) hc (by rfl)
      rw [lh_o] at hw
      refine zLw_ret wk_many rfl rfl hw (by have := lhn_zss (n := 4) (f := f) (F := F2) (g := g2) (G := mG) (v := fun _ => 0) (ob := vp_updL (fun _ => 0) (nI 0).toNatClampNeg (Int32.toInt64 (0))) (Nat.le_refl 4); exact ⟨by rw [lh_len]; decide, by omega⟩) ?_
      have mo := mo_many1 (h := lh f F2 g2 mG (fun _ => 0) (vp_updL (fun _ => 0) (nI 0).toNatClampNeg (Int32.toInt64 (0)))) (c := 72) (G := mG) (v := fun _ => 0) (r := mr 72) (by decide) (by rw [lh_len]; decide) rfl rfl rfl
      rw [lh_m] at mo
      obtain ⟨h3, ⟨r1, r2⟩, kr⟩ := tl_many (h := lh f F2 g2 mG (fun _ => 0) (vp_updL (fun _ => 0) (nI 0).toNatClampNeg (Int32.toInt64 (0)))) (f := f) (ob := vp_updL (fun _ => 0) (nI 0).toNatClampNeg (Int32.toInt64 (0))) (k := 0) (by rfl) (by rfl) (by rfl) rfl (by rw [e]; exact mo) (fun _ => l_vp _ _)
      refine zLw_pure kr ?_
      exact l_room _ _ r1 r2 lh_zss rfl 0 (Nat.zero_le 1)
    · have hc := (r_many (h := lh f F (fun _ => 0) mG (fun _ => 0) (fun _ => 0)) (b := 1) (F := F) (by rw [lh_len]; decide) (zOk_new hF)).2.2.1
      obtain ⟨F2, hF2⟩ : ∃ F2, F2 = F := ⟨_, rfl⟩
      obtain ⟨g2, hg2⟩ : ∃ g2 : Nat → Nat, g2 = fun _ => 0 := ⟨_, rfl⟩
      have hc : zcalls zTB 94 [.ref 1, .int (f 1)] (nput 1 F (fun _ => 0) (lh f F (fun _ => 0) mG (fun _ => 0) (fun _ => 0))) (some (.int 0), nput 1 F2 g2 (lh f F (fun _ => 0) mG (fun _ => 0) (fun _ => 0))) := by rw [hF2, hg2, e]; exact hc
      rw [lh_n, lh_n] at hc
      have hw := wr_many (fs := _) (H := lh f F (fun _ => 0) mG (fun _ => 0) (fun _ => 0)) (by rfl) (f 1) hc (by rfl)
      rw [lh_o] at hw
      refine zLw_ret wk_many rfl rfl hw (by have := lhn_zss (n := 4) (f := f) (F := F2) (g := g2) (G := mG) (v := fun _ => 0) (ob := vp_updL (fun _ => 0) (nI 0).toNatClampNeg (Int32.toInt64 (0))) (Nat.le_refl 4); exact ⟨by rw [lh_len]; decide, by omega⟩) ?_
      have mo := mo_many2 (h := lh f F2 g2 mG (fun _ => 0) (vp_updL (fun _ => 0) (nI 0).toNatClampNeg (Int32.toInt64 (0)))) (c := 72) (G := mG) (v := fun _ => 0) (r := mr 72) (by decide) (by rw [lh_len]; decide) rfl rfl rfl
      rw [lh_m] at mo
      obtain ⟨h3, ⟨r1, r2⟩, kr⟩ := tl_many (h := lh f F2 g2 mG (fun _ => 0) (vp_updL (fun _ => 0) (nI 0).toNatClampNeg (Int32.toInt64 (0)))) (f := f) (ob := vp_updL (fun _ => 0) (nI 0).toNatClampNeg (Int32.toInt64 (0))) (k := 0) (by rfl) (by rfl) (by rfl) rfl (by rw [e]; exact mo) (fun _ => l_vp _ _)
      refine zLw_pure kr ?_
      exact l_room _ _ r1 r2 lh_zss rfl 0 (Nat.zero_le 1)
    · have hc := (r_many (h := lh f F (fun _ => 0) mG (fun _ => 0) (fun _ => 0)) (b := 1) (F := F) (by rw [lh_len]; decide) (zOk_new hF)).2.2.2.1
      obtain ⟨F2, hF2⟩ : ∃ F2, F2 = F := ⟨_, rfl⟩
      obtain ⟨g2, hg2⟩ : ∃ g2 : Nat → Nat, g2 = fun _ => 0 := ⟨_, rfl⟩
      have hc : zcalls zTB 94 [.ref 1, .int (f 1)] (nput 1 F (fun _ => 0) (lh f F (fun _ => 0) mG (fun _ => 0) (fun _ => 0))) (some (.int 0), nput 1 F2 g2 (lh f F (fun _ => 0) mG (fun _ => 0) (fun _ => 0))) := by rw [hF2, hg2, e]; exact hc
      rw [lh_n, lh_n] at hc
      have hw := wr_many (fs := _) (H := lh f F (fun _ => 0) mG (fun _ => 0) (fun _ => 0)) (by rfl) (f 1) hc (by rfl)
      rw [lh_o] at hw
      refine zLw_ret wk_many rfl rfl hw (by have := lhn_zss (n := 4) (f := f) (F := F2) (g := g2) (G := mG) (v := fun _ => 0) (ob := vp_updL (fun _ => 0) (nI 0).toNatClampNeg (Int32.toInt64 (0))) (Nat.le_refl 4); exact ⟨by rw [lh_len]; decide, by omega⟩) ?_
      have mo := mo_many3 (h := lh f F2 g2 mG (fun _ => 0) (vp_updL (fun _ => 0) (nI 0).toNatClampNeg (Int32.toInt64 (0)))) (c := 72) (G := mG) (v := fun _ => 0) (r := mr 72) (by decide) (by rw [lh_len]; decide) rfl rfl rfl
      rw [lh_m] at mo
      obtain ⟨h3, ⟨r1, r2⟩, kr⟩ := tl_many (h := lh f F2 g2 mG (fun _ => 0) (vp_updL (fun _ => 0) (nI 0).toNatClampNeg (Int32.toInt64 (0)))) (f := f) (ob := vp_updL (fun _ => 0) (nI 0).toNatClampNeg (Int32.toInt64 (0))) (k := 0) (by rfl) (by rfl) (by rfl) rfl (by rw [e]; exact mo) (fun _ => l_vp _ _)
      refine zLw_pure kr ?_
      exact l_room _ _ r1 r2 lh_zss rfl 0 (Nat.zero_le 1)
    · have hc := (r_many (h := lh f F (fun _ => 0) mG (fun _ => 0) (fun _ => 0)) (b := 1) (F := F) (by rw [lh_len]; decide) (zOk_new hF)).2.2.2.2.1
      obtain ⟨F2, hF2⟩ : ∃ F2, F2 = F := ⟨_, rfl⟩
      obtain ⟨g2, hg2⟩ : ∃ g2 : Nat → Nat, g2 = fun _ => 0 := ⟨_, rfl⟩
      have hc : zcalls zTB 94 [.ref 1, .int (f 1)] (nput 1 F (fun _ => 0) (lh f F (fun _ => 0) mG (fun _ => 0) (fun _ => 0))) (some (.int 0), nput 1 F2 g2 (lh f F (fun _ => 0) mG (fun _ => 0) (fun _ => 0))) := by rw [hF2, hg2, e]; exact hc
      rw [lh_n, lh_n] at hc
      have hw := wr_many (fs := _) (H := lh f F (fun _ => 0) mG (fun _ => 0) (fun _ => 0)) (by rfl) (f 1) hc (by rfl)
      rw [lh_o] at hw
      refine zLw_ret wk_many rfl rfl hw (by have := lhn_zss (n := 4) (f := f) (F := F2) (g := g2) (G := mG) (v := fun _ => 0) (ob := vp_updL (fun _ => 0) (nI 0).toNatClampNeg (Int32.toInt64 (0))) (Nat.le_refl 4); exact ⟨by rw [lh_len]; decide, by omega⟩) ?_
      have mo := mo_many4 (h := lh f F2 g2 mG (fun _ => 0) (vp_updL (fun _ => 0) (nI 0).toNatClampNeg (Int32.toInt64 (0)))) (c := 72) (G := mG) (v := fun _ => 0) (r := mr 72) (by decide) (by rw [lh_len]; decide) rfl rfl rfl
      rw [lh_m] at mo
      obtain ⟨h3, ⟨r1, r2⟩, kr⟩ := tl_many (h := lh f F2 g2 mG (fun _ => 0) (vp_updL (fun _ => 0) (nI 0).toNatClampNeg (Int32.toInt64 (0)))) (f := f) (ob := vp_updL (fun _ => 0) (nI 0).toNatClampNeg (Int32.toInt64 (0))) (k := 0) (by rfl) (by rfl) (by rfl) rfl (by rw [e]; exact mo) (fun _ => l_vp _ _)
      refine zLw_pure kr ?_
      exact l_room _ _ r1 r2 lh_zss rfl 0 (Nat.zero_le 1)
    · have hc := (r_many (h := lh f F (fun _ => 0) mG (fun _ => 0) (fun _ => 0)) (b := 1) (F := F) (by rw [lh_len]; decide) (zOk_new hF)).2.2.2.2.2
      obtain ⟨F2, hF2⟩ : ∃ F2, F2 = F := ⟨_, rfl⟩
      obtain ⟨g2, hg2⟩ : ∃ g2 : Nat → Nat, g2 = fun _ => 0 := ⟨_, rfl⟩
      have hc : zcalls zTB 94 [.ref 1, .int (f 1)] (nput 1 F (fun _ => 0) (lh f F (fun _ => 0) mG (fun _ => 0) (fun _ => 0))) (some (.int 0), nput 1 F2 g2 (lh f F (fun _ => 0) mG (fun _ => 0) (fun _ => 0))) := by rw [hF2, hg2, e]; exact hc
      rw [lh_n, lh_n] at hc
      have hw := wr_many (fs := _) (H := lh f F (fun _ => 0) mG (fun _ => 0) (fun _ => 0)) (by rfl) (f 1) hc (by rfl)
      rw [lh_o] at hw
      refine zLw_ret wk_many rfl rfl hw (by have := lhn_zss (n := 4) (f := f) (F := F2) (g := g2) (G := mG) (v := fun _ => 0) (ob := vp_updL (fun _ => 0) (nI 0).toNatClampNeg (Int32.toInt64 (0))) (Nat.le_refl 4); exact ⟨by rw [lh_len]; decide, by omega⟩) ?_
      have mo := mo_many5 (h := lh f F2 g2 mG (fun _ => 0) (vp_updL (fun _ => 0) (nI 0).toNatClampNeg (Int32.toInt64 (0)))) (c := 72) (G := mG) (v := fun _ => 0) (r := mr 72) (by decide) (by rw [lh_len]; decide) rfl rfl rfl
      rw [lh_m] at mo
      obtain ⟨h3, ⟨r1, r2⟩, kr⟩ := tl_many (h := lh f F2 g2 mG (fun _ => 0) (vp_updL (fun _ => 0) (nI 0).toNatClampNeg (Int32.toInt64 (0)))) (f := f) (ob := vp_updL (fun _ => 0) (nI 0).toNatClampNeg (Int32.toInt64 (0))) (k := 0) (by rfl) (by rfl) (by rfl) rfl (by rw [e]; exact mo) (fun _ => l_vp _ _)
      refine zLw_pure kr ?_
      exact l_room _ _ r1 r2 lh_zss rfl 0 (Nat.zero_le 1)
  · refine zLw_catch wk_many rfl (fun l hl => wx_many (fs := _) (by rfl) (f 1) (lx_many_a hl (f 1) p)) lh_zclH rfl (Nat.le_of_ble_eq_true rfl) (by have := lh_zss (f := f) (F := F) (g := fun _ => 0) (G := mG) (v := fun _ => 0) (ob := fun _ => 0); rw [lh_len]; omega) ?_
    have mo := mo_many_a (h := lh f F (fun _ => 0) mG (fun _ => 0) (fun _ => 0)) (c := 72) (G := mG) (v := fun _ => 0) (r := mr 72) (by decide) (by rw [lh_len]; decide) rfl rfl rfl (f 1) p
    rw [lh_m] at mo
    obtain ⟨h3, ⟨r1, r2⟩, kr⟩ := tl_many (h := lh f F (fun _ => 0) mG (fun _ => 0) (fun _ => 0)) (f := f) (ob := fun _ => 0) (k := nI 1) (by rfl) (by rfl) (by rfl) rfl mo (fun e => absurd e (by decide))
    refine zLw_pure kr ?_
    exact l_room _ _ r1 r2 lh_zss rfl 1 (Nat.le_refl 1)
theorem lc_set (hF : lF F) (hx0 : f 0 &&& nI 31 = nI 3) : zLw 0 23 (lLs none none none none) [] (lh f F (fun _ => 0) mG (fun _ => 0) (fun _ => 0)) := by
  refine zLw_gt (lp_set (by rfl) hx0) (by have := lh_zss (f := f) (F := F) (g := fun _ => 0) (G := mG) (v := fun _ => 0) (ob := fun _ => 0); show 89 + 0 ≤ 600002 ∧ _ ≤ 7302232; exact ⟨by decide, by show zss (lh f F (fun _ => 0) mG (fun _ => 0) (fun _ => 0)) + 6 * 0 ≤ 7302232; omega⟩) ?_
  show zLw 0 358 (lLs none none none none) ([.ref 1, .int (f 1), .int (f 2), .ref 88] : List Value).reverse (lh f F (fun _ => 0) mG (fun _ => 0) (fun _ => 0))
  by_cases p : nI 0 ≤ f 1 ∧ f 1 ≤ nI 3
  · obtain ⟨k, hk, e⟩ := l_upto (by decide) p
    rcases (show k = 0 ∨ k = 1 ∨ k = 2 ∨ k = 3 by omega) with rfl | rfl | rfl | rfl
    · by_cases p2 : nI 0 ≤ f 2 ∧ f 2 ≤ nI 100
      · obtain ⟨F2, g2, hc⟩ := r_set0 (h := lh f F (fun _ => 0) mG (fun _ => 0) (fun _ => 0)) (b := 1) (F := F) (by rw [lh_len]; decide) (zOk_new hF) (f 2) p2
        have hc : zcalls zTB 119 [.ref 1, .int (f 1), .int (f 2)] (nput 1 F (fun _ => 0) (lh f F (fun _ => 0) mG (fun _ => 0) (fun _ => 0))) (some (.int (nI 50)), nput 1 F2 g2 (lh f F (fun _ => 0) mG (fun _ => 0) (fun _ => 0))) := by rw [e, ← hF.2.1]; exact hc
        rw [lh_n, lh_n] at hc
        have hw := wr_set (fs := _) (H := lh f F (fun _ => 0) mG (fun _ => 0) (fun _ => 0)) (by rfl) (f 1) (f 2) hc (by rfl)
        rw [lh_o] at hw
        refine zLw_ret wk_set rfl rfl hw (by have := lhn_zss (n := 4) (f := f) (F := F2) (g := g2) (G := mG) (v := fun _ => 0) (ob := vp_updL (fun _ => 0) (nI 0).toNatClampNeg (Int32.toInt64 (nI 50))) (Nat.le_refl 4); exact ⟨by rw [lh_len]; decide, by omega⟩) ?_
        have mo := mo_set0 (h := lh f F2 g2 mG (fun _ => 0) (vp_updL (fun _ => 0) (nI 0).toNatClampNeg (Int32.toInt64 (nI 50)))) (c := 72) (G := mG) (v := fun _ => 0) (r := mr 72) (by decide) (by rw [lh_len]; decide) rfl rfl rfl (f 2) p2
        rw [lh_m] at mo
        obtain ⟨h3, ⟨r1, r2⟩, kr⟩ := tl_set (h := lh f F2 g2 mG (fun _ => 0) (vp_updL (fun _ => 0) (nI 0).toNatClampNeg (Int32.toInt64 (nI 50)))) (f := f) (ob := vp_updL (fun _ => 0) (nI 0).toNatClampNeg (Int32.toInt64 (nI 50))) (k := 0) (by rfl) (by rfl) (by rfl) rfl (by rw [e]; exact mo) (fun _ => l_vp _ _)
        refine zLw_pure kr ?_
        exact l_room _ _ r1 r2 lh_zss rfl 0 (Nat.zero_le 1)
      · refine zLw_catch wk_set rfl (fun l hl => wx_set (fs := _) (by rfl) (f 1) (f 2) (by rw [e]; exact lx_set_b0 hl (f 2) p2)) lh_zclH rfl (Nat.le_of_ble_eq_true rfl) (by have := lh_zss (f := f) (F := F) (g := fun _ => 0) (G := mG) (v := fun _ => 0) (ob := fun _ => 0); rw [lh_len]; omega) ?_
        have mo := mo_set_b0 (h := lh f F (fun _ => 0) mG (fun _ => 0) (fun _ => 0)) (c := 72) (G := mG) (v := fun _ => 0) (r := mr 72) (by decide) (by rw [lh_len]; decide) rfl rfl rfl (f 2) p2
        rw [lh_m] at mo
        obtain ⟨h3, ⟨r1, r2⟩, kr⟩ := tl_set (h := lh f F (fun _ => 0) mG (fun _ => 0) (fun _ => 0)) (f := f) (ob := fun _ => 0) (k := nI 1) (by rfl) (by rfl) (by rfl) rfl (by rw [e]; exact mo) (fun e => absurd e (by decide))
        refine zLw_pure kr ?_
        exact l_room _ _ r1 r2 lh_zss rfl 1 (Nat.le_refl 1)
    · by_cases p2 : nI 0 ≤ f 2 ∧ f 2 ≤ nI 1000
      · obtain ⟨F2, g2, hc⟩ := r_set1 (h := lh f F (fun _ => 0) mG (fun _ => 0) (fun _ => 0)) (b := 1) (F := F) (by rw [lh_len]; decide) (zOk_new hF) (f 2) p2
        have hc : zcalls zTB 119 [.ref 1, .int (f 1), .int (f 2)] (nput 1 F (fun _ => 0) (lh f F (fun _ => 0) mG (fun _ => 0) (fun _ => 0))) (some (.int (nI 30)), nput 1 F2 g2 (lh f F (fun _ => 0) mG (fun _ => 0) (fun _ => 0))) := by rw [e, ← hF.2.2.1]; exact hc
        rw [lh_n, lh_n] at hc
        have hw := wr_set (fs := _) (H := lh f F (fun _ => 0) mG (fun _ => 0) (fun _ => 0)) (by rfl) (f 1) (f 2) hc (by rfl)
        rw [lh_o] at hw
        refine zLw_ret wk_set rfl rfl hw (by have := lhn_zss (n := 4) (f := f) (F := F2) (g := g2) (G := mG) (v := fun _ => 0) (ob := vp_updL (fun _ => 0) (nI 0).toNatClampNeg (Int32.toInt64 (nI 30))) (Nat.le_refl 4); exact ⟨by rw [lh_len]; decide, by omega⟩) ?_
        have mo := mo_set1 (h := lh f F2 g2 mG (fun _ => 0) (vp_updL (fun _ => 0) (nI 0).toNatClampNeg (Int32.toInt64 (nI 30)))) (c := 72) (G := mG) (v := fun _ => 0) (r := mr 72) (by decide) (by rw [lh_len]; decide) rfl rfl rfl (f 2) p2
        rw [lh_m] at mo
        obtain ⟨h3, ⟨r1, r2⟩, kr⟩ := tl_set (h := lh f F2 g2 mG (fun _ => 0) (vp_updL (fun _ => 0) (nI 0).toNatClampNeg (Int32.toInt64 (nI 30)))) (f := f) (ob := vp_updL (fun _ => 0) (nI 0).toNatClampNeg (Int32.toInt64 (nI 30))) (k := 0) (by rfl) (by rfl) (by rfl) rfl (by rw [e]; exact mo) (fun _ => l_vp _ _)
        refine zLw_pure kr ?_
        exact l_room _ _ r1 r2 lh_zss rfl 0 (Nat.zero_le 1)
      · refine zLw_catch wk_set rfl (fun l hl => wx_set (fs := _) (by rfl) (f 1) (f 2) (by rw [e]; exact lx_set_b1 hl (f 2) p2)) lh_zclH rfl (Nat.le_of_ble_eq_true rfl) (by have := lh_zss (f := f) (F := F) (g := fun _ => 0) (G := mG) (v := fun _ => 0) (ob := fun _ => 0); rw [lh_len]; omega) ?_
        have mo := mo_set_b1 (h := lh f F (fun _ => 0) mG (fun _ => 0) (fun _ => 0)) (c := 72) (G := mG) (v := fun _ => 0) (r := mr 72) (by decide) (by rw [lh_len]; decide) rfl rfl rfl (f 2) p2
        rw [lh_m] at mo
        obtain ⟨h3, ⟨r1, r2⟩, kr⟩ := tl_set (h := lh f F (fun _ => 0) mG (fun _ => 0) (fun _ => 0)) (f := f) (ob := fun _ => 0) (k := nI 1) (by rfl) (by rfl) (by rfl) rfl (by rw [e]; exact mo) (fun e => absurd e (by decide))
        refine zLw_pure kr ?_
        exact l_room _ _ r1 r2 lh_zss rfl 1 (Nat.le_refl 1)
    · by_cases p2 : nI 1 ≤ f 2 ∧ f 2 ≤ nI 1000
      · obtain ⟨F2, g2, hc⟩ := r_set2 (h := lh f F (fun _ => 0) mG (fun _ => 0) (fun _ => 0)) (b := 1) (F := F) (by rw [lh_len]; decide) (zOk_new hF) (f 2) p2
        have hc : zcalls zTB 119 [.ref 1, .int (f 1), .int (f 2)] (nput 1 F (fun _ => 0) (lh f F (fun _ => 0) mG (fun _ => 0) (fun _ => 0))) (some (.int (nI 10)), nput 1 F2 g2 (lh f F (fun _ => 0) mG (fun _ => 0) (fun _ => 0))) := by rw [e, ← hF.2.2.2.1]; exact hc
        rw [lh_n, lh_n] at hc
        have hw := wr_set (fs := _) (H := lh f F (fun _ => 0) mG (fun _ => 0) (fun _ => 0)) (by rfl) (f 1) (f 2) hc (by rfl)
        rw [lh_o] at hw
        refine zLw_ret wk_set rfl rfl hw (by have := lhn_zss (n := 4) (f := f) (F := F2) (g := g2) (G := mG) (v := fun _ => 0) (ob := vp_updL (fun _ => 0) (nI 0).toNatClampNeg (Int32.toInt64 (nI 10))) (Nat.le_refl 4); exact ⟨by rw [lh_len]; decide, by omega⟩) ?_
        have mo := mo_set2 (h := lh f F2 g2 mG (fun _ => 0) (vp_updL (fun _ => 0) (nI 0).toNatClampNeg (Int32.toInt64 (nI 10)))) (c := 72) (G := mG) (v := fun _ => 0) (r := mr 72) (by decide) (by rw [lh_len]; decide) rfl rfl rfl (f 2) p2
        rw [lh_m] at mo
        obtain ⟨h3, ⟨r1, r2⟩, kr⟩ := tl_set (h := lh f F2 g2 mG (fun _ => 0) (vp_updL (fun _ => 0) (nI 0).toNatClampNeg (Int32.toInt64 (nI 10)))) (f := f) (ob := vp_updL (fun _ => 0) (nI 0).toNatClampNeg (Int32.toInt64 (nI 10))) (k := 0) (by rfl) (by rfl) (by rfl) rfl (by rw [e]; exact mo) (fun _ => l_vp _ _)
        refine zLw_pure kr ?_
        exact l_room _ _ r1 r2 lh_zss rfl 0 (Nat.zero_le 1)
      · refine zLw_catch wk_set rfl (fun l hl => wx_set (fs := _) (by rfl) (f 1) (f 2) (by rw [e]; exact lx_set_b2 hl (f 2) p2)) lh_zclH rfl (Nat.le_of_ble_eq_true rfl) (by have := lh_zss (f := f) (F := F) (g := fun _ => 0) (G := mG) (v := fun _ => 0) (ob := fun _ => 0); rw [lh_len]; omega) ?_
        have mo := mo_set_b2 (h := lh f F (fun _ => 0) mG (fun _ => 0) (fun _ => 0)) (c := 72) (G := mG) (v := fun _ => 0) (r := mr 72) (by decide) (by rw [lh_len]; decide) rfl rfl rfl (f 2) p2
        rw [lh_m] at mo
        obtain ⟨h3, ⟨r1, r2⟩, kr⟩ := tl_set (h := lh f F (fun _ => 0) mG (fun _ => 0) (fun _ => 0)) (f := f) (ob := fun _ => 0) (k := nI 1) (by rfl) (by rfl) (by rfl) rfl (by rw [e]; exact mo) (fun e => absurd e (by decide))
        refine zLw_pure kr ?_
        exact l_room _ _ r1 r2 lh_zss rfl 1 (Nat.le_refl 1)
    · by_cases p2 : nI 0 ≤ f 2 ∧ f 2 ≤ nI 1000
      · obtain ⟨F2, g2, hc⟩ := r_set3 (h := lh f F (fun _ => 0) mG (fun _ => 0) (fun _ => 0)) (b := 1) (F := F) (by rw [lh_len]; decide) (zOk_new hF) (f 2) p2
        have hc : zcalls zTB 119 [.ref 1, .int (f 1), .int (f 2)] (nput 1 F (fun _ => 0) (lh f F (fun _ => 0) mG (fun _ => 0) (fun _ => 0))) (some (.int (nI 20)), nput 1 F2 g2 (lh f F (fun _ => 0) mG (fun _ => 0) (fun _ => 0))) := by rw [e, ← hF.2.2.2.2]; exact hc
        rw [lh_n, lh_n] at hc
        have hw := wr_set (fs := _) (H := lh f F (fun _ => 0) mG (fun _ => 0) (fun _ => 0)) (by rfl) (f 1) (f 2) hc (by rfl)
        rw [lh_o] at hw
        refine zLw_ret wk_set rfl rfl hw (by have := lhn_zss (n := 4) (f := f) (F := F2) (g := g2) (G := mG) (v := fun _ => 0) (ob := vp_updL (fun _ => 0) (nI 0).toNatClampNeg (Int32.toInt64 (nI 20))) (Nat.le_refl 4); exact ⟨by rw [lh_len]; decide, by omega⟩) ?_
        have mo := mo_set3 (h := lh f F2 g2 mG (fun _ => 0) (vp_updL (fun _ => 0) (nI 0).toNatClampNeg (Int32.toInt64 (nI 20)))) (c := 72) (G := mG) (v := fun _ => 0) (r := mr 72) (by decide) (by rw [lh_len]; decide) rfl rfl rfl (f 2) p2
        rw [lh_m] at mo
        obtain ⟨h3, ⟨r1, r2⟩, kr⟩ := tl_set (h := lh f F2 g2 mG (fun _ => 0) (vp_updL (fun _ => 0) (nI 0).toNatClampNeg (Int32.toInt64 (nI 20)))) (f := f) (ob := vp_updL (fun _ => 0) (nI 0).toNatClampNeg (Int32.toInt64 (nI 20))) (k := 0) (by rfl) (by rfl) (by rfl) rfl (by rw [e]; exact mo) (fun _ => l_vp _ _)
        refine zLw_pure kr ?_
        exact l_room _ _ r1 r2 lh_zss rfl 0 (Nat.zero_le 1)
      · refine zLw_catch wk_set rfl (fun l hl => wx_set (fs := _) (by rfl) (f 1) (f 2) (by rw [e]; exact lx_set_b3 hl (f 2) p2)) lh_zclH rfl (Nat.le_of_ble_eq_true rfl) (by have := lh_zss (f := f) (F := F) (g := fun _ => 0) (G := mG) (v := fun _ => 0) (ob := fun _ => 0); rw [lh_len]; omega) ?_
        have mo := mo_set_b3 (h := lh f F (fun _ => 0) mG (fun _ => 0) (fun _ => 0)) (c := 72) (G := mG) (v := fun _ => 0) (r := mr 72) (by decide) (by rw [lh_len]; decide) rfl rfl rfl (f 2) p2
        rw [lh_m] at mo
        obtain ⟨h3, ⟨r1, r2⟩, kr⟩ := tl_set (h := lh f F (fun _ => 0) mG (fun _ => 0) (fun _ => 0)) (f := f) (ob := fun _ => 0) (k := nI 1) (by rfl) (by rfl) (by rfl) rfl (by rw [e]; exact mo) (fun e => absurd e (by decide))
        refine zLw_pure kr ?_
        exact l_room _ _ r1 r2 lh_zss rfl 1 (Nat.le_refl 1)
  · refine zLw_catch wk_set rfl (fun l hl => wx_set (fs := _) (by rfl) (f 1) (f 2) (lx_set_a hl (f 1) (f 2) p)) lh_zclH rfl (Nat.le_of_ble_eq_true rfl) (by have := lh_zss (f := f) (F := F) (g := fun _ => 0) (G := mG) (v := fun _ => 0) (ob := fun _ => 0); rw [lh_len]; omega) ?_
    have mo := mo_set_a (h := lh f F (fun _ => 0) mG (fun _ => 0) (fun _ => 0)) (c := 72) (G := mG) (v := fun _ => 0) (r := mr 72) (by decide) (by rw [lh_len]; decide) rfl rfl rfl (f 1) (f 2) p
    rw [lh_m] at mo
    obtain ⟨h3, ⟨r1, r2⟩, kr⟩ := tl_set (h := lh f F (fun _ => 0) mG (fun _ => 0) (fun _ => 0)) (f := f) (ob := fun _ => 0) (k := nI 1) (by rfl) (by rfl) (by rfl) rfl mo (fun e => absurd e (by decide))
    refine zLw_pure kr ?_
    exact l_room _ _ r1 r2 lh_zss rfl 1 (Nat.le_refl 1)
theorem lc_forget (hF : lF F) (hx0 : f 0 &&& nI 31 = nI 4) : zLw 0 23 (lLs none none none none) [] (lh f F (fun _ => 0) mG (fun _ => 0) (fun _ => 0)) := by
  obtain ⟨F2, g2, hc⟩ := r_forget (h := lh f F (fun _ => 0) mG (fun _ => 0) (fun _ => 0)) (b := 1) (F := F) (by rw [lh_len]; decide) (zOk_new hF)
  rw [lh_n, lh_n] at hc
  have mo := mo_forget (h := lh f F2 g2 mG (fun _ => 0) (fun _ => 0)) (c := 72) (G := mG) (v := fun _ => 0) (r := mr 72) (by decide) (by rw [lh_len]; decide) rfl rfl rfl
  rw [lh_m] at mo
  obtain ⟨h3, ⟨r1, r2⟩, kr⟩ := ln_forget (f := f) (fs := _) (by rfl) hx0 (by rfl) hc (by rfl) (by rfl) rfl mo
  refine zLw_pure kr ?_
  have z1 := lh_zss (f := f) (F := F) (g := fun _ => 0) (G := mG) (v := fun _ => 0) (ob := fun _ => 0)
  have z2 := lh_zss (f := f) (F := F2) (g := g2) (G := mG) (v := fun _ => 0) (ob := fun _ => 0)
  have z3 := lhn_zss (n := 4) (f := f) (F := F2) (g := g2) (G := mG) (v := fun _ => 0) (ob := fun _ => 0) (Nat.le_refl 4)
  rw [lh_len]
  omega
theorem lc_usual (hF : lF F) (hx0 : f 0 &&& nI 31 = nI 14) : zLw 0 23 (lLs none none none none) [] (lh f F (fun _ => 0) mG (fun _ => 0) (fun _ => 0)) := by
  have hc := r_usual (h := lh f F (fun _ => 0) mG (fun _ => 0) (fun _ => 0)) (b := 1) (F := F) (by rw [lh_len]; decide) (zOk_new hF)
  rw [lh_n] at hc
  have mo := mo_usual (h := lh f F (fun _ => 0) mG (fun _ => 0) (fun _ => 0)) (c := 72) (G := mG) (v := fun _ => 0) (r := mr 72) (by decide) (by rw [lh_len]; decide) rfl rfl rfl
  rw [lh_m] at mo
  obtain ⟨h3, ⟨r1, r2⟩, kr⟩ := ln_usual (f := f) (fs := _) (by rfl) hx0 (by rfl) hc (by rfl) (by rfl) rfl mo
  refine zLw_pure kr ?_
  have z1 := lh_zss (f := f) (F := F) (g := fun _ => 0) (G := mG) (v := fun _ => 0) (ob := fun _ => 0)
  have z3 := lhn_zss (n := 4) (f := f) (F := F) (g := fun _ => 0) (G := mG) (v := fun _ => 0) (ob := fun _ => 0) (Nat.le_refl 4)
  rw [lh_len]
  omega
theorem lc_meanSession (hF : lF F) (hx0 : f 0 &&& nI 31 = nI 15) : zLw 0 23 (lLs none none none none) [] (lh f F (fun _ => 0) mG (fun _ => 0) (fun _ => 0)) := by
  have hc := r_meanSession (h := lh f F (fun _ => 0) mG (fun _ => 0) (fun _ => 0)) (b := 1) (F := F) (by rw [lh_len]; decide) (zOk_new hF)
  rw [lh_n] at hc
  have mo := mo_meanSession (h := lh f F (fun _ => 0) mG (fun _ => 0) (fun _ => 0)) (c := 72) (G := mG) (v := fun _ => 0) (r := mr 72) (by decide) (by rw [lh_len]; decide) rfl rfl rfl
  rw [lh_m] at mo
  obtain ⟨h3, ⟨r1, r2⟩, kr⟩ := ln_meanSession (f := f) (fs := _) (by rfl) hx0 (by rfl) hc (by rfl) (by rfl) rfl mo
  refine zLw_pure kr ?_
  have z1 := lh_zss (f := f) (F := F) (g := fun _ => 0) (G := mG) (v := fun _ => 0) (ob := fun _ => 0)
  have z3 := lhn_zss (n := 4) (f := f) (F := F) (g := fun _ => 0) (G := mG) (v := fun _ => 0) (ob := fun _ => 0) (Nat.le_refl 4)
  rw [lh_len]
  omega
theorem lc_digest (hF : lF F) (hx0 : f 0 &&& nI 31 = nI 24) : zLw 0 23 (lLs none none none none) [] (lh f F (fun _ => 0) mG (fun _ => 0) (fun _ => 0)) := by
  have hc := r_digest (h := lh f F (fun _ => 0) mG (fun _ => 0) (fun _ => 0)) (b := 1) (F := F) (by rw [lh_len]; decide) (zOk_new hF)
  rw [lh_n] at hc
  have mo := mo_digest (h := lh f F (fun _ => 0) mG (fun _ => 0) (fun _ => 0)) (c := 72) (G := mG) (v := fun _ => 0) (r := mr 72) (by decide) (by rw [lh_len]; decide) rfl rfl rfl
  rw [lh_m] at mo
  obtain ⟨h3, ⟨r1, r2⟩, kr⟩ := ln_digest (f := f) (fs := _) (by rfl) hx0 (by rfl) hc (by rfl) (by rfl) rfl mo
  refine zLw_pure kr ?_
  have z1 := lh_zss (f := f) (F := F) (g := fun _ => 0) (G := mG) (v := fun _ => 0) (ob := fun _ => 0)
  have z3 := lhn_zss (n := 4) (f := f) (F := F) (g := fun _ => 0) (G := mG) (v := fun _ => 0) (ob := fun _ => 0) (Nat.le_refl 4)
  rw [lh_len]
  omega
theorem l_and (y : Int32) : ∃ k, k < 32 ∧ y &&& nI 31 = nI k := by
  have h0 : (y &&& nI 31).toBitVec = y.toBitVec &&& 31#32 := rfl
  refine ⟨(y.toBitVec &&& 31#32).toNat, ?_, ?_⟩
  · have : (y.toBitVec &&& 31#32).toNat ≤ 31 := by
      rw [BitVec.toNat_and]
      exact Nat.and_le_right
    omega
  · apply Int32.toBitVec_inj.mp
    rw [h0]
    show y.toBitVec &&& 31#32 = BitVec.ofNat 32 (y.toBitVec &&& 31#32).toNat
    rw [BitVec.ofNat_toNat, BitVec.setWidth_eq]
theorem law_all (n : Nat) (hn : n ≤ 4) (f : Nat → Int32) : zLw 0 0 (zentry 9 [.ref 0]) [] [.inl (0, n, .inl f)] := by
  obtain ⟨F, hF, hp⟩ := lp_pre n f
  rcases Nat.lt_or_ge n 4 with h4 | h4
  · have hz : zss (lhn n f F (fun _ => 0) mG (fun _ => 0) (fun _ => 0)) ≤ 20000 := lhn_zss hn
    refine zLw_gt hp ⟨by show 89 + 0 ≤ 600002; decide, by show zss (lhn n f F (fun _ => 0) mG (fun _ => 0) (fun _ => 0)) + 6 * 0 ≤ 7302232; omega⟩ ?_
    refine zLw_pure (ln_short h4 (by rfl)) ?_
    show 89 + 89 + 0 ≤ 600002 ∧ zss (lhn n f F (fun _ => 0) mG (fun _ => 0) (fun _ => 0)) + zss (lhn n f F (fun _ => 0) mG (fun _ => 0) (fun _ => 0)) + 6 * 0 ≤ 7302232
    omega
  · obtain rfl : n = 4 := by omega
    have hz := lh_zss (f := f) (F := F) (g := fun _ => 0) (G := mG) (v := fun _ => 0) (ob := fun _ => 0)
    refine zLw_gt hp ⟨by show 89 + 0 ≤ 600002; decide, by show zss (lh f F (fun _ => 0) mG (fun _ => 0) (fun _ => 0)) + 6 * 0 ≤ 7302232; omega⟩ ?_
    obtain ⟨k, hk, hx0⟩ := l_and (f 0)
    rcases Nat.lt_or_ge k 25 with h25 | h25
    · match k, h25, hx0 with
      | 0, _, hx0 => exact lc_line hF hx0
      | 1, _, hx0 => exact lc_word hF hx0
      | 2, _, hx0 => exact lc_learn hF hx0
      | 3, _, hx0 => exact lc_set hF hx0
      | 4, _, hx0 => exact lc_forget hF hx0
      | 5, _, hx0 => exact lc_many hF hx0
      | 6, _, hx0 => exact lc_ofLine hF hx0
      | 7, _, hx0 => exact lc_wordAt hF hx0
      | 8, _, hx0 => exact lc_ofTemplate hF hx0
      | 9, _, hx0 => exact lc_slot hF hx0
      | 10, _, hx0 => exact lc_values hF hx0
      | 11, _, hx0 => exact lc_alike hF hx0
      | 12, _, hx0 => exact lc_ofSession hF hx0
      | 13, _, hx0 => exact lc_inSession hF hx0
      | 14, _, hx0 => exact lc_usual hF hx0
      | 15, _, hx0 => exact lc_meanSession hF hx0
      | 16, _, hx0 => exact lc_count hF hx0
      | 17, _, hx0 => exact lc_spike hF hx0
      | 18, _, hx0 => exact lc_causes hF hx0
      | 19, _, hx0 => exact lc_cause hF hx0
      | 20, _, hx0 => exact lc_because hF hx0
      | 21, _, hx0 => exact lc_templatesWith hF hx0
      | 22, _, hx0 => exact lc_sessionsWith hF hx0
      | 23, _, hx0 => exact lc_wouldBe hF hx0
      | 24, _, hx0 => exact lc_digest hF hx0
      | k + 25, h, _ => exact absurd h (by omega)
    · refine zLw_pure (ln_none (by rfl) h25 hk hx0) ?_
      show 89 + 89 + 0 ≤ 600002 ∧ zss (lh f F (fun _ => 0) mG (fun _ => 0) (fun _ => 0)) + zss (lh f F (fun _ => 0) mG (fun _ => 0) (fun _ => 0)) + 6 * 0 ≤ 7302232
      omega
end LC


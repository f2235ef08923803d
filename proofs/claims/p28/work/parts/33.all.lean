theorem zi_29_0 : zI 29 0 = some (.aload_n 0, []) := by decide +kernel
theorem zi_29_1 : zI 29 1 = some (.getfield 12, [6, 0, 13]) := by decide +kernel
theorem zi_29_4 : zI 29 4 = some (.aload_n 0, []) := by decide +kernel
theorem zi_29_5 : zI 29 5 = some (.getfield 19, [6, 1, 80]) := by decide +kernel
theorem zi_29_8 : zI 29 8 = some (.invokevirtual 337, [50, 0, 1, 0, 154, 155, 91, 153, 0, 152]) := by decide +kernel
theorem zi_29_11 : zI 29 11 = some (.aload_n 0, []) := by decide +kernel
theorem zi_29_12 : zI 29 12 = some (.getfield 29, [6, 3, 25]) := by decide +kernel
theorem zi_29_15 : zI 29 15 = some (.aload_n 0, []) := by decide +kernel
theorem zi_29_16 : zI 29 16 = some (.getfield 12, [6, 0, 13]) := by decide +kernel
theorem zi_29_19 : zI 29 19 = some (.aload_n 0, []) := by decide +kernel
theorem zi_29_20 : zI 29 20 = some (.getfield 52, [6, 6, 27]) := by decide +kernel
theorem zi_29_23 : zI 29 23 = some (.iconst 1, []) := by decide +kernel
theorem zi_29_24 : zI 29 24 = some (.invokevirtual 83, [0, 0, 1, 1, 17, 18, 19, 16, 0, 15]) := by decide +kernel
theorem zi_29_27 : zI 29 27 = some (.invokevirtual 341, [64, 0, 2, 3, 158, 159, 53, 157, 0, 156]) := by decide +kernel
theorem zi_29_30 : zI 29 30 = some (.aload_n 0, []) := by decide +kernel
theorem zi_29_31 : zI 29 31 = some (.getfield 29, [6, 3, 25]) := by decide +kernel
theorem zi_29_34 : zI 29 34 = some (.aload_n 0, []) := by decide +kernel
theorem zi_29_35 : zI 29 35 = some (.getfield 12, [6, 0, 13]) := by decide +kernel
theorem zi_29_38 : zI 29 38 = some (.invokevirtual 345, [67, 0, 1, 3, 162, 163, 53, 161, 0, 160]) := by decide +kernel
theorem zi_29_41 : zI 29 41 = some (.aload_n 0, []) := by decide +kernel
theorem zi_29_42 : zI 29 42 = some (.getfield 36, [6, 4, 102]) := by decide +kernel
theorem zi_29_45 : zI 29 45 = some (.aload_n 0, []) := by decide +kernel
theorem zi_29_46 : zI 29 46 = some (.getfield 12, [6, 0, 13]) := by decide +kernel
theorem zi_29_49 : zI 29 49 = some (.aload_n 0, []) := by decide +kernel
theorem zi_29_50 : zI 29 50 = some (.getfield 19, [6, 1, 80]) := by decide +kernel
theorem zi_29_53 : zI 29 53 = some (.getfield 126, [5, 2, 107]) := by decide +kernel
theorem zi_29_56 : zI 29 56 = some (.aload_n 0, []) := by decide +kernel
theorem zi_29_57 : zI 29 57 = some (.getfield 52, [6, 6, 27]) := by decide +kernel
theorem zi_29_60 : zI 29 60 = some (.iconst 2, []) := by decide +kernel
theorem zi_29_61 : zI 29 61 = some (.invokevirtual 83, [0, 0, 1, 1, 17, 18, 19, 16, 0, 15]) := by decide +kernel
theorem zi_29_64 : zI 29 64 = some (.invokevirtual 349, [75, 0, 3, 4, 166, 167, 168, 165, 0, 164]) := by decide +kernel
theorem zi_29_67 : zI 29 67 = some (.aload_n 0, []) := by decide +kernel
theorem zi_29_68 : zI 29 68 = some (.getfield 43, [6, 5, 31]) := by decide +kernel
theorem zi_29_71 : zI 29 71 = some (.aload_n 0, []) := by decide +kernel
theorem zi_29_72 : zI 29 72 = some (.getfield 12, [6, 0, 13]) := by decide +kernel
theorem zi_29_75 : zI 29 75 = some (.aload_n 0, []) := by decide +kernel
theorem zi_29_76 : zI 29 76 = some (.getfield 52, [6, 6, 27]) := by decide +kernel
theorem zi_29_79 : zI 29 79 = some (.iconst 3, []) := by decide +kernel
theorem zi_29_80 : zI 29 80 = some (.invokevirtual 83, [0, 0, 1, 1, 17, 18, 19, 16, 0, 15]) := by decide +kernel
theorem zi_29_83 : zI 29 83 = some (.invokevirtual 352, [57, 0, 2, 2, 171, 172, 67, 170, 0, 169]) := by decide +kernel
theorem zi_29_86 : zI 29 86 = some (.aload_n 0, []) := by decide +kernel
theorem zi_29_87 : zI 29 87 = some (.getfield 43, [6, 5, 31]) := by decide +kernel
theorem zi_29_90 : zI 29 90 = some (.aload_n 0, []) := by decide +kernel
theorem zi_29_91 : zI 29 91 = some (.getfield 12, [6, 0, 13]) := by decide +kernel
theorem zi_29_94 : zI 29 94 = some (.aload_n 0, []) := by decide +kernel
theorem zi_29_95 : zI 29 95 = some (.getfield 19, [6, 1, 80]) := by decide +kernel
theorem zi_29_98 : zI 29 98 = some (.getfield 126, [5, 2, 107]) := by decide +kernel
theorem zi_29_101 : zI 29 101 = some (.invokevirtual 355, [58, 0, 2, 2, 175, 176, 67, 174, 0, 173]) := by decide +kernel
theorem zi_29_104 : zI 29 104 = some (.aload_n 0, []) := by decide +kernel
theorem zi_29_105 : zI 29 105 = some (.getfield 43, [6, 5, 31]) := by decide +kernel
theorem zi_29_108 : zI 29 108 = some (.aload_n 0, []) := by decide +kernel
theorem zi_29_109 : zI 29 109 = some (.getfield 19, [6, 1, 80]) := by decide +kernel
theorem zi_29_112 : zI 29 112 = some (.getfield 126, [5, 2, 107]) := by decide +kernel
theorem zi_29_115 : zI 29 115 = some (.aload_n 0, []) := by decide +kernel
theorem zi_29_116 : zI 29 116 = some (.getfield 12, [6, 0, 13]) := by decide +kernel
theorem zi_29_119 : zI 29 119 = some (.getfield 101, [0, 8, 109]) := by decide +kernel
theorem zi_29_122 : zI 29 122 = some (.invokevirtual 358, [59, 0, 2, 2, 179, 180, 67, 178, 0, 177]) := by decide +kernel
theorem zi_29_125 : zI 29 125 = some (.return_, []) := by decide +kernel
/-! a Nightjar at rest -/
def zNb (F : Nat → Nat → Int32) (g : Nat → Nat) (x : Nat → Nat) (sh gp wi bk : Nat) : Prop :=
  (g 0 ≤ 70) ∧
  (g 1 ≤ g 0) ∧
  (g 2 ≤ 20) ∧
  (∀ i, i < g 0 → F 0 i = nI (x i) ∧ x i ≤ 9999) ∧
  (∀ i j, i ≤ j → j < g 0 → x i ≤ x j) ∧
  (∀ i, i < g 0 → ∃ c, c ≤ 8 ∧ F 3 i = nI c) ∧
  (∀ i, i < g 0 → ∀ c, c ≤ 8 → F 3 i = nI c → ∀ p, p < c → ∃ w, w ≤ 999 ∧ F 4 (i * 8 + p) = nI w) ∧
  (∀ t, t < g 2 → ∃ a, a ≤ 8 ∧ F 7 t = nI a) ∧
  (∀ i, g 1 ≤ i → i < g 0 → F 5 i = -1) ∧
  (∀ i, i < g 1 → F 5 i = -1 ∨ ∃ t a, t < g 2 ∧ F 5 i = nI t ∧ a ≤ 8 ∧ F 3 i = nI a ∧ F 7 t = nI a ∧ ∀ p, p < a → F 8 (t * 8 + p) = -1 ∨ F 8 (t * 8 + p) = F 4 (i * 8 + p)) ∧
  (F 31 0 = nI sh ∧ sh ≤ 100) ∧
  (F 31 1 = nI gp ∧ gp ≤ 1000) ∧
  (F 31 2 = nI wi ∧ 0 < wi ∧ wi ≤ 1000) ∧
  (F 31 3 = nI bk ∧ bk ≤ 1000)
theorem zNb.n70 {F : Nat → Nat → Int32} {g : Nat → Nat} {x : Nat → Nat} {sh gp wi bk : Nat} (q : zNb F g x sh gp wi bk) : g 0 ≤ 70 := q.1
theorem zNb.mn {F : Nat → Nat → Int32} {g : Nat → Nat} {x : Nat → Nat} {sh gp wi bk : Nat} (q : zNb F g x sh gp wi bk) : g 1 ≤ g 0 := q.2.1
theorem zNb.t20 {F : Nat → Nat → Int32} {g : Nat → Nat} {x : Nat → Nat} {sh gp wi bk : Nat} (q : zNb F g x sh gp wi bk) : g 2 ≤ 20 := q.2.2.1
theorem zNb.tm {F : Nat → Nat → Int32} {g : Nat → Nat} {x : Nat → Nat} {sh gp wi bk : Nat} (q : zNb F g x sh gp wi bk) : ∀ i, i < g 0 → F 0 i = nI (x i) ∧ x i ≤ 9999 := q.2.2.2.1
theorem zNb.mo {F : Nat → Nat → Int32} {g : Nat → Nat} {x : Nat → Nat} {sh gp wi bk : Nat} (q : zNb F g x sh gp wi bk) : ∀ i j, i ≤ j → j < g 0 → x i ≤ x j := q.2.2.2.2.1
theorem zNb.sz {F : Nat → Nat → Int32} {g : Nat → Nat} {x : Nat → Nat} {sh gp wi bk : Nat} (q : zNb F g x sh gp wi bk) : ∀ i, i < g 0 → ∃ c, c ≤ 8 ∧ F 3 i = nI c := q.2.2.2.2.2.1
theorem zNb.wd {F : Nat → Nat → Int32} {g : Nat → Nat} {x : Nat → Nat} {sh gp wi bk : Nat} (q : zNb F g x sh gp wi bk) : ∀ i, i < g 0 → ∀ c, c ≤ 8 → F 3 i = nI c → ∀ p, p < c → ∃ w, w ≤ 999 ∧ F 4 (i * 8 + p) = nI w := q.2.2.2.2.2.2.1
theorem zNb.ts {F : Nat → Nat → Int32} {g : Nat → Nat} {x : Nat → Nat} {sh gp wi bk : Nat} (q : zNb F g x sh gp wi bk) : ∀ t, t < g 2 → ∃ a, a ≤ 8 ∧ F 7 t = nI a := q.2.2.2.2.2.2.2.1
theorem zNb.o1 {F : Nat → Nat → Int32} {g : Nat → Nat} {x : Nat → Nat} {sh gp wi bk : Nat} (q : zNb F g x sh gp wi bk) : ∀ i, g 1 ≤ i → i < g 0 → F 5 i = -1 := q.2.2.2.2.2.2.2.2.1
theorem zNb.o2 {F : Nat → Nat → Int32} {g : Nat → Nat} {x : Nat → Nat} {sh gp wi bk : Nat} (q : zNb F g x sh gp wi bk) : ∀ i, i < g 1 → F 5 i = -1 ∨ ∃ t a, t < g 2 ∧ F 5 i = nI t ∧ a ≤ 8 ∧ F 3 i = nI a ∧ F 7 t = nI a ∧ ∀ p, p < a → F 8 (t * 8 + p) = -1 ∨ F 8 (t * 8 + p) = F 4 (i * 8 + p) := q.2.2.2.2.2.2.2.2.2.1
theorem zNb.s0 {F : Nat → Nat → Int32} {g : Nat → Nat} {x : Nat → Nat} {sh gp wi bk : Nat} (q : zNb F g x sh gp wi bk) : F 31 0 = nI sh ∧ sh ≤ 100 := q.2.2.2.2.2.2.2.2.2.2.1
theorem zNb.s1 {F : Nat → Nat → Int32} {g : Nat → Nat} {x : Nat → Nat} {sh gp wi bk : Nat} (q : zNb F g x sh gp wi bk) : F 31 1 = nI gp ∧ gp ≤ 1000 := q.2.2.2.2.2.2.2.2.2.2.2.1
theorem zNb.s2 {F : Nat → Nat → Int32} {g : Nat → Nat} {x : Nat → Nat} {sh gp wi bk : Nat} (q : zNb F g x sh gp wi bk) : F 31 2 = nI wi ∧ 0 < wi ∧ wi ≤ 1000 := q.2.2.2.2.2.2.2.2.2.2.2.2.1
theorem zNb.s3 {F : Nat → Nat → Int32} {g : Nat → Nat} {x : Nat → Nat} {sh gp wi bk : Nat} (q : zNb F g x sh gp wi bk) : F 31 3 = nI bk ∧ bk ≤ 1000 := q.2.2.2.2.2.2.2.2.2.2.2.2.2
/-- rows that are given, not told -/
def zbr (r : Nat) : Bool := Nat.blt r 6 || r == 7 || r == 8 || r == 31
theorem zNb_of {F F' : Nat → Nat → Int32} {g g' : Nat → Nat} {x : Nat → Nat} {sh gp wi bk : Nat} (q : zNb F g x sh gp wi bk) (hF : ∀ r, zbr r = true → F' r = F r) (h0 : g' 0 = g 0) (h1 : g' 1 = g 1) (h2 : g' 2 = g 2) : zNb F' g' x sh gp wi bk := by
  unfold zNb
  rw [h0, h1, h2, hF 0 rfl, hF 3 rfl, hF 4 rfl, hF 5 rfl, hF 7 rfl, hF 8 rfl, hF 31 rfl]
  exact q
theorem zNb.ok {F : Nat → Nat → Int32} {g : Nat → Nat} {x : Nat → Nat} {sh gp wi bk : Nat} (q : zNb F g x sh gp wi bk) (i : Nat) (hi : i < g 0) : F 5 i = -1 ∨ ∃ t a, t < 20 ∧ F 5 i = nI t ∧ F 7 t = nI a ∧ a ≤ 8 := by
  rcases Nat.lt_or_ge i (g 1) with h | h
  · rcases q.o2 i h with e | ⟨t, a, h1, h2, h3, h4, h5, _⟩
    · exact .inl e
    · exact .inr ⟨t, a, Nat.lt_of_lt_of_le h1 q.t20, h2, h5, h3⟩
  · exact .inl (q.o1 i h hi)
theorem zNb.ot {F : Nat → Nat → Int32} {g : Nat → Nat} {x : Nat → Nat} {sh gp wi bk : Nat} (q : zNb F g x sh gp wi bk) (i : Nat) (hi : i < g 1) : F 5 i = -1 ∨ ∃ t, t < g 2 ∧ F 5 i = nI t := by
  rcases q.o2 i hi with e | ⟨t, a, h1, h2, _⟩
  · exact .inl e
  · exact .inr ⟨t, h1, h2⟩
theorem zses_of {F F' : Nat → Nat → Int32} {S : Nat} {gap : Int32} {i : Nat} {C : Nat → Nat → Nat} {Z : Nat → Nat} (q : zses F S gap i C Z) (e0 : F' 0 = F 0) (e6 : F' 6 = F 6) (e11 : F' 11 = F 11) (e12 : F' 12 = F 12) (e13 : F' 13 = F 13) (e14 : F' 14 = F 14) (e15 : F' 15 = F 15) (e16 : F' 16 = F 16) : zses F' S gap i C Z := by
  unfold zses
  rw [zkp_of e6, zbg_of e6 e0, e0, e6, e11, e12, e13, e14, e15, e16]
  exact q
def zTo (F : Nat → Nat → Int32) (g : Nat → Nat) (x : Nat → Nat) (wi : Nat) : Prop :=
  (∀ i, i < g 0 → zkey F i (F 6 i)) ∧
  (∃ C Z, zses F (g 4) (F 31 1) (g 0) C Z) ∧
  (zpth F (g 4)) ∧
  (∃ vv, g 5 ≤ 23 ∧ (∀ k, k + 1 < g 5 → vv k ≤ vv (k + 1)) ∧ zspk F (g 1) (g 2) (fun j => x j / wi) vv (g 5)) ∧
  (∀ l, l < g 0 → ∃ c, c ≤ l ∧ F 23 l = nI c) ∧
  (ztl F (F 24) (F 5) (g 2) (g 1)) ∧
  (∀ u, u < g 2 → ∃ N R sv, zrk F (fun c => zcnt (zD (F 24) (F 5) u c) (g 1)) u (g 2) N R sv)
theorem zTo.ky {F : Nat → Nat → Int32} {g : Nat → Nat} {x : Nat → Nat} {wi : Nat} (q : zTo F g x wi) : ∀ i, i < g 0 → zkey F i (F 6 i) := q.1
theorem zTo.se {F : Nat → Nat → Int32} {g : Nat → Nat} {x : Nat → Nat} {wi : Nat} (q : zTo F g x wi) : ∃ C Z, zses F (g 4) (F 31 1) (g 0) C Z := q.2.1
theorem zTo.pa {F : Nat → Nat → Int32} {g : Nat → Nat} {x : Nat → Nat} {wi : Nat} (q : zTo F g x wi) : zpth F (g 4) := q.2.2.1
theorem zTo.sp {F : Nat → Nat → Int32} {g : Nat → Nat} {x : Nat → Nat} {wi : Nat} (q : zTo F g x wi) : ∃ vv, g 5 ≤ 23 ∧ (∀ k, k + 1 < g 5 → vv k ≤ vv (k + 1)) ∧ zspk F (g 1) (g 2) (fun j => x j / wi) vv (g 5) := q.2.2.2.1
theorem zTo.sc {F : Nat → Nat → Int32} {g : Nat → Nat} {x : Nat → Nat} {wi : Nat} (q : zTo F g x wi) : ∀ l, l < g 0 → ∃ c, c ≤ l ∧ F 23 l = nI c := q.2.2.2.2.1
theorem zTo.ta {F : Nat → Nat → Int32} {g : Nat → Nat} {x : Nat → Nat} {wi : Nat} (q : zTo F g x wi) : ztl F (F 24) (F 5) (g 2) (g 1) := q.2.2.2.2.2.1
theorem zTo.rk {F : Nat → Nat → Int32} {g : Nat → Nat} {x : Nat → Nat} {wi : Nat} (q : zTo F g x wi) : ∀ u, u < g 2 → ∃ N R sv, zrk F (fun c => zcnt (zD (F 24) (F 5) u c) (g 1)) u (g 2) N R sv := q.2.2.2.2.2.2
theorem zcnt_add {p q r : Nat → Bool} : ∀ {n : Nat}, (∀ j, j < n → (if q j then 1 else 0) + (if r j then 1 else 0) = (if p j then 1 else 0 : Nat)) → zcnt q n + zcnt r n = zcnt p n
  | 0, _ => rfl
  | n + 1, h => by
    have ih := zcnt_add (n := n) fun j hj => h j (by omega)
    have := h n (by omega)
    simp only [zcnt]
    omega
theorem zcnt_not (p : Nat → Bool) : ∀ n, zcnt p n + zcnt (fun j => !p j) n = n
  | 0 => rfl
  | n + 1 => by
    have ih := zcnt_not p n
    simp only [zcnt]
    by_cases hp : p n = true
    · rw [if_pos hp, if_neg (by simp [hp])]
      omega
    · rw [if_neg hp, if_pos (by simpa using hp)]
      omega
section
variable {b : Nat} {h : zH}
theorem c_recompute (hb : b + 71 ≤ h.length) (F : Nat → Nat → Int32) (g : Nat → Nat) (x : Nat → Nat) (sh gp wi bk : Nat) (q : zNb F g x sh gp wi bk) : ∃ F' g', ((∀ r, zbr r = true → F' r = F r) ∧ (∀ k, k < 3 → g' k = g k) ∧ zTo F' g' x wi) ∧ zcalls zTB 29 [.ref b] (nput b F g h) (none, nput b F' g' h) := by
  have hn := q.n70
  have hm := q.mn
  have hT := q.t20
  obtain ⟨F1, g1, ⟨⟨a1, a2⟩, rfl⟩, ca⟩ := c_findKeys hb F g hn q.ok
  obtain ⟨F2, g2, ⟨b1, S, C, Z, rfl, b2⟩, cb⟩ := c_find hb F1 g1 (F1 31 1) hn
  have hS : S ≤ 70 := Nat.le_trans b2.le hn
  obtain ⟨F3, g3, ⟨⟨d1, d2⟩, rfl⟩, cd⟩ := c_comparePaths hb F2 (updG g1 4 S) hS (fun s hs => ⟨Z s, Nat.le_trans (b2.sz s hs).2.1 hn, (b2.sz s hs).2.2.2.2.1⟩)
  have r03 : ∀ r, zbr r = true → F3 r = F r := by
    intro r hr
    have h1 : r ≠ 17 := fun e => by rw [e] at hr; exact absurd hr (by decide)
    have h2 : r ≠ 18 := fun e => by rw [e] at hr; exact absurd hr (by decide)
    have h3 : r < 11 ∨ 16 < r := by
      refine Nat.lt_or_ge r 11 |>.imp_right fun w => Nat.lt_of_not_le fun v => ?_
      have hh : ∀ r, r < 17 → 11 ≤ r → zbr r = false := by decide
      rw [hh r (by omega) w] at hr
      cases hr
    have h4 : r ≠ 6 := fun e => by rw [e] at hr; exact absurd hr (by decide)
    exact (d1 r h1 h2).trans ((b1 r h3).trans (a1 r h4))
  have q3 : zNb F3 (updG g1 4 S) x sh gp wi bk := zNb_of q r03 rfl rfl rfl
  obtain ⟨F4, g4, ⟨e1, P, vv, e2, rfl, e3, e4⟩, ce⟩ := c_findS hb F3 (updG g1 4 S) (g1 2) wi x (by exact Nat.le_trans hm hn) hT ⟨q.s2.2.1, by have := q.s2.2.2; omega⟩ (fun j hj => ⟨(q3.tm j (Nat.lt_of_lt_of_le hj hm)).1, by have := (q3.tm j (Nat.lt_of_lt_of_le hj hm)).2; omega⟩) (fun j k h1 h2 => q3.mo j k h1 (Nat.lt_of_lt_of_le h2 hm)) (fun j hj => q3.ot j hj)
  obtain ⟨F5, g5, ⟨⟨i1, i2⟩, rfl⟩, ci⟩ := c_look hb F4 (updG (updG g1 4 S) 5 P) (F4 31 3) hn (by exact Nat.le_trans hm hn)
  have r05 : ∀ r, zbr r = true → F5 r = F r := by
    intro r hr
    have h1 : r ≠ 23 := fun e => by rw [e] at hr; exact absurd hr (by decide)
    have h2 : r ≠ 24 := fun e => by rw [e] at hr; exact absurd hr (by decide)
    have h3 : r < 19 ∨ 22 < r := by
      refine Nat.lt_or_ge r 19 |>.imp_right fun w => Nat.lt_of_not_le fun v => ?_
      have hh : ∀ r, r < 23 → 19 ≤ r → zbr r = false := by decide
      rw [hh r (by omega) w] at hr
      cases hr
    exact (i1 r h1 h2).trans ((e1 r h3).trans (r03 r hr))
  have q5 : zNb F5 (updG (updG g1 4 S) 5 P) x sh gp wi bk := zNb_of q r05 rfl rfl rfl
  obtain ⟨F6, g6, ⟨⟨j1, j2⟩, rfl⟩, cj⟩ := c_tally hb F5 (updG (updG g1 4 S) 5 P) (g1 2) hT (by exact Nat.le_trans hm hn) (fun i hi => by
    rcases q5.ot i hi with e | ⟨t, h1, h2⟩
    · exact .inl e
    · exact .inr ⟨t, Nat.lt_of_lt_of_le h1 hT, h2⟩)
  have hm7 : g1 1 ≤ 70 := Nat.le_trans hm hn
  obtain ⟨F7, g7, ⟨⟨k1, k2⟩, rfl⟩, ck⟩ := c_rankCauses hb F6 (updG (updG g1 4 S) 5 P) (g1 2) (g1 1) hT hm7 (fun u => zcnt (zTm (F5 5) u) (g1 1)) (fun u c => zcnt (zD (F5 24) (F5 5) u c) (g1 1)) (fun c => zcnt (zB (F5 24) c) (g1 1)) (fun u hu => ⟨j2.2.2 u (by omega), zcnt_le _ _, fun c hc => ⟨j2.2.1 u c (by omega) hc, j2.1 c hc, zcnt_imp fun j _ w => by
      simp only [zD, zTm, decide_eq_true_eq] at w ⊢
      exact w.1, zcnt_imp fun j _ w => by
      simp only [zD, zB, decide_eq_true_eq] at w ⊢
      exact w.2, by
      have h1 := zcnt_add (p := zB (F5 24) c) (q := zD (F5 24) (F5 5) u c) (r := fun j => zB (F5 24) c j && !zTm (F5 5) u j) (n := g1 1) (fun j _ => by
        by_cases w1 : F5 5 j = nI u <;> by_cases w2 : F5 24 j &&& zbit (nI c) = 0 <;> simp [zD, zB, zTm, w1, w2])
      have h2 := zcnt_not (zTm (F5 5) u) (g1 1)
      have h3 := zcnt_imp (p := fun j => zB (F5 24) c j && !zTm (F5 5) u j) (q := fun j => !zTm (F5 5) u j) (n := g1 1) (fun j _ w => by
        simp only [Bool.and_eq_true] at w
        exact w.2)
      show zcnt (zB (F5 24) c) (g1 1) - zcnt (zD (F5 24) (F5 5) u c) (g1 1) ≤ g1 1 - zcnt (zTm (F5 5) u) (g1 1)
      omega⟩⟩)
  have z56 : ∀ r, r < 25 ∨ r = 31 → F7 r = F5 r := fun r hr => (k1 r (by omega) (by omega) (by omega)).trans (j1 r (by omega) (by omega) (by omega))
  have z35 : ∀ r, r < 19 → F7 r = F3 r := fun r hr => (z56 r (.inl (by omega))).trans ((i1 r (by omega) (by omega)).trans (e1 r (.inl hr)))
  have z12 : ∀ r, r < 11 → F7 r = F1 r := fun r hr => (z35 r (by omega)).trans ((d1 r (by omega) (by omega)).trans (b1 r (.inl hr)))
  have r07 : ∀ r, zbr r = true → F7 r = F r := by
    intro r hr
    have hh : ∀ r, r < 31 → 25 ≤ r → zbr r = false := by decide
    have h3 : r < 25 ∨ r = 31 := by
      rcases Nat.lt_or_ge r 25 with w | w
      · exact .inl w
      · refine .inr (Nat.le_antisymm (Nat.le_of_not_lt fun v => ?_) (Nat.le_of_not_lt fun v => ?_))
        · have h9 : zbr r = false := by
            unfold zbr
            have e1 : Nat.blt r 6 = false := by
              rw [← Bool.not_eq_true, Nat.blt_eq]
              omega
            have e2 : (r == 7) = false := beq_eq_false_iff_ne.mpr (by omega)
            have e3 : (r == 8) = false := beq_eq_false_iff_ne.mpr (by omega)
            have e4 : (r == 31) = false := beq_eq_false_iff_ne.mpr (by omega)
            rw [e1, e2, e3, e4]
            rfl
          rw [h9] at hr
          cases hr
        · rw [hh r v w] at hr
          cases hr
    exact (z56 r h3).trans (r05 r hr)
  refine ⟨F7, updG (updG g1 4 S) 5 P, ⟨r07, fun k hk => ?_, ?_⟩, ?_⟩
  · unfold updG
    rw [if_neg (by omega), if_neg (by omega)]
  · refine ⟨fun i hi => ?_, ⟨C, Z, ?_⟩, ?_, ⟨vv, e2, e3, fun k hk => ?_⟩, fun l hl => ?_, ?_, fun u hu => ?_⟩
    · rw [z12 _ (by decide)]
      exact zkey_of (F' := F) (r07 _ rfl).symm (r07 _ rfl).symm (r07 _ rfl).symm (r07 _ rfl).symm (a2 i hi)
    · show zses F7 S (F7 31 1) (g1 0) C Z
      have z2 : ∀ r, r < 17 → F7 r = F2 r := fun r hr => (z35 r (by omega)).trans (d1 r (by omega) (by omega))
      rw [r07 _ rfl, ← a1 31 (by decide)]
      exact zses_of b2 (z2 _ (by decide)) (z2 _ (by decide)) (z2 _ (by decide)) (z2 _ (by decide)) (z2 _ (by decide)) (z2 _ (by decide)) (z2 _ (by decide)) (z2 _ (by decide))
    · show zpth F7 S
      unfold zpth
      rw [z35 _ (by decide), z35 _ (by decide)]
      exact d2
    · have z4 : ∀ r, r < 23 → F7 r = F4 r := fun r hr => (z56 r (.inl (by omega))).trans (i1 r (by omega) (by omega))
      rw [z4 _ (by decide), z4 _ (by decide), z4 _ (by decide), z4 _ (by decide)]
      exact e4 k hk
    · rw [z56 _ (.inl (by decide))]
      exact i2 l hl
    · unfold ztl
      rw [k1 _ (by decide) (by decide) (by decide), k1 25 (by decide) (by decide) (by decide), k1 27 (by decide) (by decide) (by decide), z56 _ (.inl (by decide)), z56 5 (.inl (by decide))]
      exact j2
    · rw [z56 _ (.inl (by decide)), z56 5 (.inl (by decide))]
      exact k2 u hu
  · refine zcalls_of (Nat.le_of_ble_eq_true rfl) ?_
    show zruns zTB 29 0 [some (.ref b)] [] _ _
    refine zr_aload_n (pc' := 1) zi_29_0 rfl rfl ?_
    refine zr_get (pc' := 4) zi_29_1 (nput_at hb (k := 0) rfl) rfl rfl ?_
    refine zr_aload_n (pc' := 5) zi_29_4 rfl rfl ?_
    refine zr_get (pc' := 8) zi_29_5 (nput_at hb (k := 0) rfl) rfl rfl ?_
    refine zr_n1 (pc' := 11) zi_29_8 (nput_at hb (k := 1) rfl) rfl ca rfl ?_
    refine zr_aload_n (pc' := 12) zi_29_11 rfl rfl ?_
    refine zr_get (pc' := 15) zi_29_12 (nput_at hb (k := 0) rfl) rfl rfl ?_
    refine zr_aload_n (pc' := 16) zi_29_15 rfl rfl ?_
    refine zr_get (pc' := 19) zi_29_16 (nput_at hb (k := 0) rfl) rfl rfl ?_
    refine zr_aload_n (pc' := 20) zi_29_19 rfl rfl ?_
    refine zr_get (pc' := 23) zi_29_20 (nput_at hb (k := 0) rfl) rfl rfl ?_
    refine zr_iconst (v := (nI 1)) (pc' := 24) zi_29_23 rfl rfl ?_
    refine zr_atN (pc' := 27) (by omega) zi_29_24 hb rfl rfl (by decide) rfl rfl ?_
    refine zr_n2 (pc' := 30) zi_29_27 (nput_at hb (k := 26) rfl) rfl cb rfl ?_
    refine zr_aload_n (pc' := 31) zi_29_30 rfl rfl ?_
    refine zr_get (pc' := 34) zi_29_31 (nput_at hb (k := 0) rfl) rfl rfl ?_
    refine zr_aload_n (pc' := 35) zi_29_34 rfl rfl ?_
    refine zr_get (pc' := 38) zi_29_35 (nput_at hb (k := 0) rfl) rfl rfl ?_
    refine zr_n1 (pc' := 41) zi_29_38 (nput_at hb (k := 26) rfl) rfl cd rfl ?_
    refine zr_aload_n (pc' := 42) zi_29_41 rfl rfl ?_
    refine zr_get (pc' := 45) zi_29_42 (nput_at hb (k := 0) rfl) rfl rfl ?_
    refine zr_aload_n (pc' := 46) zi_29_45 rfl rfl ?_
    refine zr_get (pc' := 49) zi_29_46 (nput_at hb (k := 0) rfl) rfl rfl ?_
    refine zr_aload_n (pc' := 50) zi_29_49 rfl rfl ?_
    refine zr_get (pc' := 53) zi_29_50 (nput_at hb (k := 0) rfl) rfl rfl ?_
    refine zr_get (pc' := 56) zi_29_53 (nput_at hb (k := 16) rfl) rfl rfl ?_
    refine zr_aload_n (pc' := 57) zi_29_56 rfl rfl ?_
    refine zr_get (pc' := 60) zi_29_57 (nput_at hb (k := 0) rfl) rfl rfl ?_
    refine zr_iconst (v := (nI 2)) (pc' := 61) zi_29_60 rfl rfl ?_
    refine zr_atN (pc' := 64) (by omega) zi_29_61 hb rfl rfl (by decide) rfl rfl ?_
    rw [q3.s2.1]
    refine zr_n3 (pc' := 67) zi_29_64 (nput_at hb (k := 43) rfl) rfl ce rfl ?_
    refine zr_aload_n (pc' := 68) zi_29_67 rfl rfl ?_
    refine zr_get (pc' := 71) zi_29_68 (nput_at hb (k := 0) rfl) rfl rfl ?_
    refine zr_aload_n (pc' := 72) zi_29_71 rfl rfl ?_
    refine zr_get (pc' := 75) zi_29_72 (nput_at hb (k := 0) rfl) rfl rfl ?_
    refine zr_aload_n (pc' := 76) zi_29_75 rfl rfl ?_
    refine zr_get (pc' := 79) zi_29_76 (nput_at hb (k := 0) rfl) rfl rfl ?_
    refine zr_iconst (v := (nI 3)) (pc' := 80) zi_29_79 rfl rfl ?_
    refine zr_atN (pc' := 83) (by omega) zi_29_80 hb rfl rfl (by decide) rfl rfl ?_
    refine zr_n2 (pc' := 86) zi_29_83 (nput_at hb (k := 52) rfl) rfl ci rfl ?_
    refine zr_aload_n (pc' := 87) zi_29_86 rfl rfl ?_
    refine zr_get (pc' := 90) zi_29_87 (nput_at hb (k := 0) rfl) rfl rfl ?_
    refine zr_aload_n (pc' := 91) zi_29_90 rfl rfl ?_
    refine zr_get (pc' := 94) zi_29_91 (nput_at hb (k := 0) rfl) rfl rfl ?_
    refine zr_aload_n (pc' := 95) zi_29_94 rfl rfl ?_
    refine zr_get (pc' := 98) zi_29_95 (nput_at hb (k := 0) rfl) rfl rfl ?_
    refine zr_get (pc' := 101) zi_29_98 (nput_at hb (k := 16) rfl) rfl rfl ?_
    refine zr_n2 (pc' := 104) zi_29_101 (nput_at hb (k := 52) rfl) rfl cj rfl ?_
    refine zr_aload_n (pc' := 105) zi_29_104 rfl rfl ?_
    refine zr_get (pc' := 108) zi_29_105 (nput_at hb (k := 0) rfl) rfl rfl ?_
    refine zr_aload_n (pc' := 109) zi_29_108 rfl rfl ?_
    refine zr_get (pc' := 112) zi_29_109 (nput_at hb (k := 0) rfl) rfl rfl ?_
    refine zr_get (pc' := 115) zi_29_112 (nput_at hb (k := 16) rfl) rfl rfl ?_
    refine zr_aload_n (pc' := 116) zi_29_115 rfl rfl ?_
    refine zr_get (pc' := 119) zi_29_116 (nput_at hb (k := 0) rfl) rfl rfl ?_
    refine zr_get (pc' := 122) zi_29_119 (nput_at hb (k := 1) rfl) rfl rfl ?_
    refine zr_n2 (pc' := 125) zi_29_122 (nput_at hb (k := 52) rfl) rfl ck rfl ?_
    exact zr_return zi_29_125 rfl
end


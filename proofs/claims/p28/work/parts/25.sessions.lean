
/-! sessions: what find makes -/
/-- one value is changed -/
def zup (f f' : Nat → Int32) (k : Nat) (v : Int32) : Prop := f' k = v ∧ ∀ j, j ≠ k → f' j = f j
def zsum (f : Nat → Nat) : Nat → Nat
  | 0 => 0
  | n + 1 => zsum f n + f n
theorem zsum_ext {f f' : Nat → Nat} : ∀ {n : Nat}, (∀ j, j < n → f j = f' j) → zsum f n = zsum f' n
  | 0, _ => rfl
  | n + 1, h => by simp only [zsum, zsum_ext (n := n) fun j hj => h j (by omega), h n (by omega)]
def nup (f : Nat → Nat) (k v : Nat) : Nat → Nat := fun j => if j = k then v else f j
theorem nup_eq {f : Nat → Nat} {k v : Nat} : nup f k v k = v := if_pos rfl
theorem nup_ne {f : Nat → Nat} {k j v : Nat} (h : j ≠ k) : nup f k v j = f j := if_neg h
theorem zsum_up {f : Nat → Nat} {k v : Nat} : ∀ {n : Nat}, k < n → zsum (nup f k v) n + f k = zsum f n + v
  | 0, h => absurd h (by omega)
  | n + 1, h => by
    simp only [zsum]
    rcases Nat.lt_or_ge k n with q | q
    · have := zsum_up (f := f) (v := v) q
      rw [nup_ne (by omega)]
      omega
    · have e : k = n := by omega
      subst e
      rw [nup_eq, zsum_ext (f' := f) fun j hj => nup_ne (by omega)]
      omega
def zkp (F : Nat → Nat → Int32) (l : Nat) : Bool := decide (0 ≤ F 6 l)
def zbg (F : Nat → Nat → Int32) (gap : Int32) (l : Nat) : Bool := decide (0 ≤ F 6 l ∧ zjn F l gap l = -1)
def zses (F : Nat → Nat → Int32) (S : Nat) (gap : Int32) (i : Nat) (C : Nat → Nat → Nat) (Z : Nat → Nat) : Prop :=
  (S ≤ i) ∧
  (∀ s, s < S → 0 < Z s ∧ Z s ≤ i ∧ F 13 s = nI (C s 0) ∧ F 14 s = nI (C s (Z s - 1)) ∧ F 15 s = nI (Z s) ∧ ∃ w, w ≤ Z s ∧ F 16 s = nI w) ∧
  (∀ s, s < S → ∀ k, k < Z s → C s k < i ∧ F 11 (C s k) = nI s ∧ F 6 (C s k) = F 6 (C s 0)) ∧
  (∀ s, s < S → ∀ k, k + 1 < Z s → C s k < C s (k + 1) ∧ F 12 (C s k) = nI (C s (k + 1)) ∧ F 0 (C s (k + 1)) - F 0 (C s k) ≤ gap) ∧
  (∀ s, s + 1 < S → C s 0 < C (s + 1) 0) ∧
  (∀ l, l < i → (F 6 l < 0 ∧ F 11 l = -1) ∨ (0 ≤ F 6 l ∧ ∃ s k, s < S ∧ k < Z s ∧ C s k = l ∧ F 11 l = nI s)) ∧
  (zsum Z S = zcnt (zkp F) i) ∧
  (S = zcnt (zbg F gap) i)
section
variable {F : Nat → Nat → Int32} {S : Nat} {gap : Int32} {i : Nat} {C : Nat → Nat → Nat} {Z : Nat → Nat}
theorem zses.le (q : zses F S gap i C Z) : S ≤ i := q.1
theorem zses.sz (q : zses F S gap i C Z) : ∀ s, s < S → 0 < Z s ∧ Z s ≤ i ∧ F 13 s = nI (C s 0) ∧ F 14 s = nI (C s (Z s - 1)) ∧ F 15 s = nI (Z s) ∧ ∃ w, w ≤ Z s ∧ F 16 s = nI w := q.2.1
theorem zses.el (q : zses F S gap i C Z) : ∀ s, s < S → ∀ k, k < Z s → C s k < i ∧ F 11 (C s k) = nI s ∧ F 6 (C s k) = F 6 (C s 0) := q.2.2.1
theorem zses.ch (q : zses F S gap i C Z) : ∀ s, s < S → ∀ k, k + 1 < Z s → C s k < C s (k + 1) ∧ F 12 (C s k) = nI (C s (k + 1)) ∧ F 0 (C s (k + 1)) - F 0 (C s k) ≤ gap := q.2.2.2.1
theorem zses.fi (q : zses F S gap i C Z) : ∀ s, s + 1 < S → C s 0 < C (s + 1) 0 := q.2.2.2.2.1
theorem zses.ln (q : zses F S gap i C Z) : ∀ l, l < i → (F 6 l < 0 ∧ F 11 l = -1) ∨ (0 ≤ F 6 l ∧ ∃ s k, s < S ∧ k < Z s ∧ C s k = l ∧ F 11 l = nI s) := q.2.2.2.2.2.1
theorem zses.sm (q : zses F S gap i C Z) : zsum Z S = zcnt (zkp F) i := q.2.2.2.2.2.2.1
theorem zses.ct (q : zses F S gap i C Z) : S = zcnt (zbg F gap) i := q.2.2.2.2.2.2.2
end
theorem zjn_cases (F : Nat → Nat → Int32) (l : Nat) (gap : Int32) : ∀ m, zjn F l gap m = -1 ∨ ∃ j, j < m ∧ zjn F l gap m = nI j ∧ F 6 j = F 6 l ∧ F 0 l - F 0 j ≤ gap ∧ ∀ k, j < k → k < m → F 6 k ≠ F 6 l
  | 0 => .inl rfl
  | m + 1 => by
    rw [zjn]
    split
    · rename_i h1
      split
      · rename_i h2
        exact .inr ⟨m, by omega, rfl, h1, h2, fun k h3 h4 => absurd h3 (by omega)⟩
      · exact .inl rfl
    · rename_i h1
      rcases zjn_cases F l gap m with q | ⟨j, h2, h3, h4, h5, h6⟩
      · exact .inl q
      · refine .inr ⟨j, by omega, h3, h4, h5, fun k h7 h8 => ?_⟩
        rcases Nat.lt_or_ge k m with q | q
        · exact h6 k h7 q
        · exact (show k = m by omega) ▸ h1
theorem zjn_of {F F' : Nat → Nat → Int32} {l : Nat} {gap : Int32} (h1 : F' 6 = F 6) (h2 : F' 0 = F 0) : ∀ m, zjn F' l gap m = zjn F l gap m
  | 0 => rfl
  | m + 1 => by rw [zjn, zjn, h1, h2, zjn_of h1 h2 m]
theorem zkp_of {F F' : Nat → Nat → Int32} (h1 : F' 6 = F 6) : zkp F' = zkp F := by
  unfold zkp
  rw [h1]
theorem zbg_of {F F' : Nat → Nat → Int32} {gap : Int32} (h1 : F' 6 = F 6) (h2 : F' 0 = F 0) : zbg F' gap = zbg F gap := by
  funext l
  unfold zbg
  rw [h1, zjn_of h1 h2 l]
theorem zses_neg {F F' : Nat → Nat → Int32} {S : Nat} {gap : Int32} {i : Nat} {C : Nat → Nat → Nat} {Z : Nat → Nat} (q : zses F S gap i C Z) (hk : F 6 i < 0) (h11 : zup (F 11) (F' 11) i (-1)) (hr : ∀ r, r ≠ 11 → F' r = F r) : zses F' S gap (i + 1) C Z := by
  have e6 := hr 6 (by decide)
  have e0 := hr 0 (by decide)
  have e12 := hr 12 (by decide)
  have e13 := hr 13 (by decide)
  have e14 := hr 14 (by decide)
  have e15 := hr 15 (by decide)
  have e16 := hr 16 (by decide)
  have hk' : ¬ 0 ≤ F 6 i := Int32.not_le.mpr hk
  refine ⟨?_, ?_, ?_, ?_, ?_, ?_, ?_, ?_⟩
  · have := q.le; omega
  · intro s hs
    rw [e13, e14, e15, e16]
    obtain ⟨a, b, c⟩ := q.sz s hs
    exact ⟨a, by omega, c⟩
  · intro s hs k hkk
    obtain ⟨a, b, c⟩ := q.el s hs k hkk
    rw [e6]
    exact ⟨by omega, by rw [h11.2 _ (by omega)]; exact b, c⟩
  · intro s hs k hkk
    rw [e12, e0]
    exact q.ch s hs k hkk
  · exact q.fi
  · intro l hl
    rw [e6]
    rcases Nat.lt_or_ge l i with w | w
    · rw [h11.2 _ (by omega)]
      exact q.ln l w
    · have e : l = i := by omega
      subst e
      exact .inl ⟨hk, h11.1⟩
  · rw [zkp_of e6, zcnt_f (by simpa [zkp] using hk)]
    exact q.sm
  · rw [zbg_of e6 e0, zcnt_f (by simp only [zbg, decide_eq_false_iff_not]; exact fun w => hk' w.1)]
    exact q.ct
theorem zses_new {F F' : Nat → Nat → Int32} {S : Nat} {gap : Int32} {i : Nat} {C : Nat → Nat → Nat} {Z : Nat → Nat} (q : zses F S gap i C Z) (hk : 0 ≤ F 6 i) (hj : zjn F i gap i = -1) (h11 : zup (F 11) (F' 11) i (nI S)) (e12 : F' 12 = F 12) (h13 : zup (F 13) (F' 13) S (nI i)) (h14 : zup (F 14) (F' 14) S (nI i)) (h15 : zup (F 15) (F' 15) S (nI 1)) {w : Nat} (hw : w ≤ 1) (h16 : zup (F 16) (F' 16) S (nI w)) (e6 : F' 6 = F 6) (e0 : F' 0 = F 0) : zses F' (S + 1) gap (i + 1) (fun s => if s = S then fun _ => i else C s) (nup Z S 1) := by
  have hle := q.le
  refine ⟨?_, ?_, ?_, ?_, ?_, ?_, ?_, ?_⟩
  · omega
  · intro s hs
    rcases Nat.lt_or_ge s S with u | u
    · rw [nup_ne (by omega), h13.2 _ (by omega), h14.2 _ (by omega), h15.2 _ (by omega), h16.2 _ (by omega)]
      simp only [if_neg (show s ≠ S by omega)]
      obtain ⟨a, b, c⟩ := q.sz s u
      exact ⟨a, by omega, c⟩
    · have e : s = S := by omega
      subst e
      rw [nup_eq, h13.1, h14.1, h15.1, h16.1]
      simp only [if_true]
      exact ⟨by omega, by omega, trivial, trivial, trivial, w, hw, rfl⟩
  · intro s hs k hkk
    rcases Nat.lt_or_ge s S with u | u
    · rw [nup_ne (by omega)] at hkk
      simp only [if_neg (show s ≠ S by omega)]
      obtain ⟨a, b, c⟩ := q.el s u k hkk
      rw [e6]
      exact ⟨by omega, by rw [h11.2 _ (by omega)]; exact b, c⟩
    · have e : s = S := by omega
      subst e
      simp only [if_true]
      exact ⟨by omega, h11.1, trivial⟩
  · intro s hs k hkk
    rcases Nat.lt_or_ge s S with u | u
    · rw [nup_ne (by omega)] at hkk
      simp only [if_neg (show s ≠ S by omega)]
      rw [e12, e0]
      exact q.ch s u k hkk
    · have e : s = S := by omega
      subst e
      rw [nup_eq] at hkk
      omega
  · intro s hs
    simp only [if_neg (show s ≠ S by omega)]
    split
    · have := (q.sz s (by omega)).1
      exact (q.el s (by omega) 0 this).1
    · exact q.fi s (by omega)
  · intro l hl
    rw [e6]
    rcases Nat.lt_or_ge l i with u | u
    · rw [h11.2 _ (by omega)]
      rcases q.ln l u with v | ⟨v, s, k, h1, h2, h3, h4⟩
      · exact .inl v
      · refine .inr ⟨v, s, k, by omega, by rw [nup_ne (by omega)]; exact h2, ?_, h4⟩
        simp only [if_neg (show s ≠ S by omega)]
        exact h3
    · have e : l = i := by omega
      subst e
      refine .inr ⟨hk, S, 0, by omega, by rw [nup_eq]; omega, ?_, h11.1⟩
      simp only [if_true]
  · rw [zkp_of e6, zcnt_t (by simpa [zkp] using hk), zsum, nup_eq, zsum_ext fun j hj => nup_ne (by omega), q.sm]
  · rw [zbg_of e6 e0, zcnt_t (by simp only [zbg, decide_eq_true_eq]; exact ⟨hk, hj⟩), ← q.ct]
theorem zses_on {F F' : Nat → Nat → Int32} {S : Nat} {gap : Int32} {i : Nat} {C : Nat → Nat → Nat} {Z : Nat → Nat} (q : zses F S gap i C Z) (hi : i < 70) (hk : 0 ≤ F 6 i) {j s : Nat} (hji : j < i) (hj : zjn F i gap i = nI j) (hs : s < S) (hjs : C s (Z s - 1) = j) (hkj : F 6 j = F 6 i) (hgap : F 0 i - F 0 j ≤ gap) (h11 : zup (F 11) (F' 11) i (nI s)) (h12 : zup (F 12) (F' 12) j (nI i)) (e13 : F' 13 = F 13) (h14 : zup (F 14) (F' 14) s (nI i)) (h15 : zup (F 15) (F' 15) s (nI (Z s + 1))) {w : Nat} (hw : w ≤ Z s + 1) (h16 : zup (F 16) (F' 16) s (nI w)) (e6 : F' 6 = F 6) (e0 : F' 0 = F 0) : zses F' S gap (i + 1) (fun u => if u = s then nup (C s) (Z s) i else C u) (nup Z s (Z s + 1)) := by
  have hle := q.le
  obtain ⟨hz0, hzi, _⟩ := q.sz s hs
  have hin : ∀ u, u < S → ∀ k, k < Z u → u ≠ s → C u k ≠ j := by
    intro u hu k hkk hne e
    have h1 := (q.el u hu k hkk).2.1
    have h2 := (q.el s hs (Z s - 1) (by omega)).2.1
    rw [hjs] at h2
    rw [e] at h1
    exact hne ((nI_eq (by omega) (by omega)).mp (h1.symm.trans h2))
  have hin2 : ∀ k d, k + d + 1 < Z s → C s k < C s (k + d + 1) := by
    intro k d
    induction d with
    | zero => intro h; exact (q.ch s hs k h).1
    | succ d ih =>
      intro h
      exact Nat.lt_trans (ih (by omega)) (q.ch s hs (k + d + 1) h).1
  have hin3 : ∀ k, k + 1 < Z s → C s k ≠ j := by
    intro k hkk e
    have := hin2 k (Z s - 1 - k - 1) (by omega)
    rw [show k + (Z s - 1 - k - 1) + 1 = Z s - 1 by omega, hjs] at this
    omega
  refine ⟨?_, ?_, ?_, ?_, ?_, ?_, ?_, ?_⟩
  · omega
  · intro u hu
    rcases Nat.lt_or_ge u s with v | v
    · rw [nup_ne (by omega), e13, h14.2 _ (by omega), h15.2 _ (by omega), h16.2 _ (by omega)]
      simp only [if_neg (show u ≠ s by omega)]
      obtain ⟨a, b, c⟩ := q.sz u hu
      exact ⟨a, by omega, c⟩
    · rcases Nat.lt_or_ge s u with v2 | v2
      · rw [nup_ne (by omega), e13, h14.2 _ (by omega), h15.2 _ (by omega), h16.2 _ (by omega)]
        simp only [if_neg (show u ≠ s by omega)]
        obtain ⟨a, b, c⟩ := q.sz u hu
        exact ⟨a, by omega, c⟩
      · have e : u = s := by omega
        subst e
        rw [nup_eq, e13, h14.1, h15.1, h16.1]
        simp only [if_true]
        refine ⟨by omega, by omega, ?_, ?_, trivial, w, hw, rfl⟩
        · rw [nup_ne (by omega)]
          exact (q.sz u hu).2.2.1
        · rw [Nat.add_sub_cancel, nup_eq]
  · intro u hu k hkk
    rw [e6]
    by_cases e : u = s
    · subst e
      rw [nup_eq] at hkk
      simp only [if_true]
      rw [nup_ne (show 0 ≠ Z u by omega)]
      rcases Nat.lt_or_ge k (Z u) with v | v
      · rw [nup_ne (by omega)]
        obtain ⟨a, b, c⟩ := q.el u hu k v
        exact ⟨by omega, by rw [h11.2 _ (by omega)]; exact b, c⟩
      · rw [show k = Z u by omega, nup_eq]
        refine ⟨by omega, h11.1, ?_⟩
        have := (q.el u hu (Z u - 1) (by omega)).2.2
        rw [hjs] at this
        rw [← hkj]
        exact this
    · rw [nup_ne e] at hkk
      simp only [if_neg e]
      obtain ⟨a, b, c⟩ := q.el u hu k hkk
      exact ⟨by omega, by rw [h11.2 _ (by omega)]; exact b, c⟩
  · intro u hu k hkk
    rw [e0]
    by_cases e : u = s
    · subst e
      rw [nup_eq] at hkk
      simp only [if_true]
      rcases Nat.lt_or_ge (k + 1) (Z u) with v | v
      · rw [nup_ne (by omega), nup_ne (by omega), h12.2 _ (hin3 k v)]
        exact q.ch u hu k v
      · have e : k = Z u - 1 := by omega
        subst e
        rw [show Z u - 1 + 1 = Z u by omega, nup_ne (by omega), nup_eq, hjs, h12.1]
        exact ⟨hji, rfl, hgap⟩
    · rw [nup_ne e] at hkk
      simp only [if_neg e]
      rw [h12.2 _ (hin u hu k (by omega) e)]
      exact q.ch u hu k hkk
  · intro u hu
    have hc : ∀ v, (if v = s then nup (C s) (Z s) i else C v) 0 = C v 0 := by
      intro v
      split
      · rename_i e
        rw [nup_ne (by omega), e]
      · rfl
    have h := q.fi u hu
    rw [← hc u, ← hc (u + 1)] at h
    exact h
  · intro l hl
    rw [e6]
    rcases Nat.lt_or_ge l i with u | u
    · rw [h11.2 _ (by omega)]
      rcases q.ln l u with v | ⟨v, t, k, h1, h2, h3, h4⟩
      · exact .inl v
      · refine .inr ⟨v, t, k, h1, ?_, ?_, h4⟩
        · unfold nup
          split
          · rename_i e
            subst e
            omega
          · exact h2
        · by_cases e : t = s
          · subst e
            simp only [if_true]
            rw [nup_ne (by omega)]
            exact h3
          · simp only [if_neg e]
            exact h3
    · have e : l = i := by omega
      subst e
      refine .inr ⟨hk, s, Z s, hs, by rw [nup_eq]; omega, ?_, h11.1⟩
      simp only [if_true]
      exact nup_eq
  · rw [zkp_of e6, zcnt_t (by simpa [zkp] using hk), ← q.sm]
    have := zsum_up (f := Z) (v := Z s + 1) hs
    omega
  · rw [zbg_of e6 e0, zcnt_f (by simp only [zbg, decide_eq_false_iff_not]; rw [hj]; exact fun v => nI_neg (by omega) v.2)]
    exact q.ct


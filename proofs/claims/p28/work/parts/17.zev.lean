
/-! runs up to a property of what they answer -/
def zev (y pc : Nat) (L : zL) (st : List Value) (h : zH) (Q : zR → Prop) : Prop := ∃ q, Q q ∧ zruns zTB y pc L st h q
section ZEV
variable {y pc pc' : Nat} {L L' : zL} {st st' : List Value} {h h' : zH} {Q Q' : zR → Prop}
theorem zev_of {y' : Nat} (k : ∀ r, zruns zTB y' pc' L' st' h' r → zruns zTB y pc L st h r) (kk : zev y' pc' L' st' h' Q) : zev y pc L st h Q := by
  obtain ⟨q, hq, hr⟩ := kk
  exact ⟨q, hq, k q hr⟩
theorem zev_ret {q : zR} (k : zruns zTB y pc L st h q) (hq : Q q) : zev y pc L st h Q := ⟨q, hq, k⟩
theorem zev_mono (k : zev y pc L st h Q) (hq : ∀ q, Q q → Q' q) : zev y pc L st h Q' := by
  obtain ⟨q, h1, h2⟩ := k
  exact ⟨q, hq q h1, h2⟩
theorem zev_calls {a : List Value} (hz : (zent a).length ≤ (zTB.2 y).2.2.1) (k : zev y 0 (zentry (zTB.2 y).2.2.1 a) [] h Q) : ∃ q, Q q ∧ zcalls zTB y a h q := by
  obtain ⟨q, h1, h2⟩ := k
  exact ⟨q, h1, zcalls_of hz h2⟩
theorem zv_icmp {cd : Jvm.ClassFile.Cond} {o : Int} {t : Nat} {x z : Int32} {ax : List Nat} (hI : zI y pc = some (.if_icmp cd o, t :: ax)) (hp : pc + 3 = pc') (kt : zcnd cd x z = true → zev y t L st h Q) (kf : zcnd cd x z = false → zev y pc' L st h Q) : zev y pc L (.int z :: .int x :: st) h Q := by
  cases hc : zcnd cd x z with
  | true =>
    obtain ⟨q, h1, h2⟩ := kt hc
    exact ⟨q, h1, zr_icmp hI hp (fun _ => h2) (fun q => by rw [hc] at q; cases q)⟩
  | false =>
    obtain ⟨q, h1, h2⟩ := kf hc
    exact ⟨q, h1, zr_icmp hI hp (fun q => by rw [hc] at q; cases q) (fun _ => h2)⟩
theorem zv_if {cd : Jvm.ClassFile.Cond} {o : Int} {t : Nat} {x : Int32} {ax : List Nat} (hI : zI y pc = some (.ifCond cd o, t :: ax)) (hp : pc + 3 = pc') (kt : zcnd cd x 0 = true → zev y t L st h Q) (kf : zcnd cd x 0 = false → zev y pc' L st h Q) : zev y pc L (.int x :: st) h Q := by
  cases hc : zcnd cd x 0 with
  | true =>
    obtain ⟨q, h1, h2⟩ := kt hc
    exact ⟨q, h1, zr_if hI hp (fun _ => h2) (fun q => by rw [hc] at q; cases q)⟩
  | false =>
    obtain ⟨q, h1, h2⟩ := kf hc
    exact ⟨q, h1, zr_if hI hp (fun q => by rw [hc] at q; cases q) (fun _ => h2)⟩
theorem zv_rclear {b k k1 n rr ix : Nat} {F : Nat → Nat → Int32} {g : Nat → Nat} {f : Nat → Int32} {ax : List Nat} (hI : zI y pc = some (.invokevirtual ix, 18 :: 0 :: 0 :: 1 :: ax)) (hb : b + 71 ≤ h.length) (e1 : (nlist b F g)[k]? = some (.inr (1, [.ref (b + k1)]))) (e2 : (nlist b F g)[k1]? = some (.inl (0, n, .inl f))) (e3 : ∀ f', (nlist b F g).set k1 (.inl (0, n, .inl f')) = nlist b (updR F rr f') g) (hk : 1 ≤ k1) (hkk : k1 ≠ k) (hn : n < 2 ^ 31) (hs : zcat8 (.ref (b + k) :: st) = true) (hp : pc + 3 = pc') (kk : ∀ f', (∀ j, j < n → f' j = 0) → zev y pc' L st (nput b (updR F rr f') g h) Q) : zev y pc L (.ref (b + k) :: st) (nput b F g h) Q := by
  have hl : k1 < 71 := (List.getElem?_eq_some_iff.mp e2).1
  obtain ⟨f', hf, hc⟩ := c_clear (nput_at hb e1) (nput_at hb e2) (by omega) (by omega) hn
  obtain ⟨q, h1, h2⟩ := kk f' hf
  refine ⟨q, h1, zr_n0 hI (nput_at hb e1) hs hc hp ?_⟩
  rw [nput_set hb hl (e3 _)]
  exact h2
end ZEV
/-- the answer is an int that has P, the heap is H -/
def zQi (H : zH) (P : Int32 → Prop) : zR → Prop := fun q => ∃ r, P r ∧ q = (some (.int r), H)
theorem zQi_out {y : Nat} {a : List Value} {h H : zH} {P : Int32 → Prop} (k : ∃ q, zQi H P q ∧ zcalls zTB y a h q) : ∃ r, P r ∧ zcalls zTB y a h (some (.int r), H) := by
  obtain ⟨q, ⟨r, hp, rfl⟩, hc⟩ := k
  exact ⟨r, hp, hc⟩
/-- no answer, the rows have P -/
def zQn (b : Nat) (h : zH) (P : (Nat → Nat → Int32) → (Nat → Nat) → Prop) : zR → Prop := fun q => ∃ F g, P F g ∧ q = (none, nput b F g h)
theorem zQn_out {b y : Nat} {a : List Value} {h H : zH} {P : (Nat → Nat → Int32) → (Nat → Nat) → Prop} (k : ∃ q, zQn b h P q ∧ zcalls zTB y a H q) : ∃ F g, P F g ∧ zcalls zTB y a H (none, nput b F g h) := by
  obtain ⟨q, ⟨F, g, hp, rfl⟩, hc⟩ := k
  exact ⟨F, g, hp, hc⟩
/-- an int, the rows have P -/
def zQm (b : Nat) (h : zH) (P : Int32 → (Nat → Nat → Int32) → (Nat → Nat) → Prop) : zR → Prop := fun q => ∃ r F g, P r F g ∧ q = (some (.int r), nput b F g h)
theorem zQm_out {b y : Nat} {a : List Value} {h H : zH} {P : Int32 → (Nat → Nat → Int32) → (Nat → Nat) → Prop} (k : ∃ q, zQm b h P q ∧ zcalls zTB y a H q) : ∃ r F g, P r F g ∧ zcalls zTB y a H (some (.int r), nput b F g h) := by
  obtain ⟨q, ⟨r, F, g, hp, rfl⟩, hc⟩ := k
  exact ⟨r, F, g, hp, hc⟩


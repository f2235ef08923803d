
/-! THE LAW'S OWL beside its Nightjar: heaps -/
abbrev zrr (n : Nat) (f : Nat → Option Nat) : zE := .inl (3, n, .inr (.inr (.inr (.inr f))))
abbrev zri (n : Nat) (f : Nat → Int32) : zE := .inl (0, n, .inl f)
abbrev zow (o dr rl nm rt : Nat) : zE := .inr (7, [.ref (o + 1), .ref 0, .int (nI dr), .ref rl, .int (nI nm), .ref (o + 73), .ref rt, .ref (o + 75)])
theorem zss_app2 (a c : zH) : zss (a ++ c) = zss a + zss c := by simp [zss]
section
variable {b : Nat} {F F' : Nat → Nat → Int32} {g g' : Nat → Nat} {h : zH}
theorem nput_app (hb : b + 71 ≤ h.length) (e : zE) : nput b F g h ++ [e] = nput b F g (h ++ [e]) := by
  unfold nput
  rw [List.take_append_of_le_length (by omega), List.drop_append_of_le_length (by omega), List.append_assoc, List.append_assoc]
theorem nput_setO (hb : b + 71 ≤ h.length) {j : Nat} (hj : j < b ∨ b + 71 ≤ j) (e : zE) : (nput b F g h).set j e = nput b F g (h.set j e) := by
  refine (nput_ext (by rw [List.length_set]; exact hb) (by rw [List.length_set, List.length_set, nput_len hb]) (fun k e' he => ?_) (fun i hi => ?_)).symm
  · have hk : k < 71 := (List.getElem?_eq_some_iff.mp he).1
    rw [List.getElem?_set_ne (by omega)]
    exact nput_at hb he
  · by_cases q : j = i
    · subst q
      by_cases w : j < h.length
      · rw [List.getElem?_set_self (by rw [nput_len hb]; exact w), List.getElem?_set_self w]
      · rw [List.getElem?_eq_none (by rw [List.length_set, nput_len hb]; omega), List.getElem?_eq_none (by rw [List.length_set]; omega)]
    · rw [List.getElem?_set_ne q, List.getElem?_set_ne q, nput_out hb hi]
theorem nlist_zss : zss (nlist b F g) ≤ 6000 := by
  have : zss (nlist b F g) = zss (nlist 0 (fun _ _ => 0) fun _ => 0) := rfl
  rw [this]
  decide +kernel
theorem nput_zle : zss (nput b F g h) ≤ zss h + 6000 := by
  have h1 : zss h = zss (h.take b) + zss (h.drop b) := by rw [← zss_app2, List.take_append_drop]
  have h2 : zss (h.drop b) = zss ((h.drop b).take 71) + zss (h.drop (b + 71)) := by
    rw [← List.drop_drop, ← zss_app2, List.take_append_drop]
  have h3 := nlist_zss (b := b) (F := F) (g := g)
  unfold nput
  rw [zss_app2, zss_app2]
  omega
theorem set_last (a e : zE) (H : zH) : (H ++ [a]).set H.length e = H ++ [e] := by
  rw [List.set_append_right _ _ (Nat.le_refl _), Nat.sub_self]
  rfl
end
section
variable {y pc pc' o : Nat} {F : Nat → Nat → Int32} {g : Nat → Nat} {h h' : zH} {L L' : zL} {st : List Value} {r : zR} {ax : List Nat}
theorem zo_at {j : Nat} {e : zE} (hb : o + 1 + 71 ≤ h.length) (hO : h[j]? = some e) (hj : j < o + 1 ∨ o + 1 + 71 ≤ j) : (nput (o + 1) F g h)[j]? = some e := by
  rw [nput_out hb hj]
  exact hO
theorem zo_at' {e : zE} (hb : o + 1 + 71 ≤ h.length) (hO : h[o]? = some e) : (nput (o + 1) F g h)[o]? = some e := zo_at hb hO (.inl (Nat.lt_succ_self _))
theorem zo_get {ix ci f : Nat} {fs : List Value} {v : Value} (hI : zI y pc = some (.getfield ix, ci :: f :: ax)) (hb : o + 1 + 71 ≤ h.length) (hO : h[o]? = some (.inr (ci, fs))) (hf : fs[f]? = some v) (hp : pc + 3 = pc') (k : zruns zTB y pc' L (v :: st) (nput (o + 1) F g h) r) : zruns zTB y pc L (.ref o :: st) (nput (o + 1) F g h) r := zr_get hI (zo_at' hb hO) hf hp k
theorem zo_put {ix ci f kd : Nat} {fs : List Value} {v : Value} (hI : zI y pc = some (.putfield ix, ci :: f :: kd :: ax)) (hb : o + 1 + 71 ≤ h.length) (ho : 1 ≤ o) (hO : h[o]? = some (.inr (ci, fs))) (hf : f < fs.length) (hk : zfits kd v = true) (hp : pc + 3 = pc') (hH : h.set o (.inr (ci, fs.set f v)) = h') (k : zruns zTB y pc' L st (nput (o + 1) F g h') r) : zruns zTB y pc L (v :: .ref o :: st) (nput (o + 1) F g h) r := zr_put hI ho (zo_at' hb hO) hf hk hp (by rw [nput_setO hb (.inl (Nat.lt_succ_self _)), hH]) k
theorem zo_alen {i n t : Nat} {f : (Nat → Int32) ⊕ (Nat → Int64) ⊕ (Nat → UInt32) ⊕ (Nat → UInt64) ⊕ (Nat → Option Nat)} (hI : zI y pc = some (.arraylength, ax)) (hb : o + 1 + 71 ≤ h.length) (hh : h[i]? = some (.inl (t, n, f))) (hi : i < o + 1 ∨ o + 1 + 71 ≤ i) (hp : pc + 1 = pc') (k : zruns zTB y pc' L (.int (nI n) :: st) (nput (o + 1) F g h) r) : zruns zTB y pc L (.ref i :: st) (nput (o + 1) F g h) r := zr_alen hI (zo_at hb hh hi) rfl hp k
theorem zo_iald {i n j : Nat} {f : Nat → Int32} {v : Int32} (hI : zI y pc = some (.iaload, ax)) (hb : o + 1 + 71 ≤ h.length) (hh : h[i]? = some (zri n f)) (hi : i < o + 1 ∨ o + 1 + 71 ≤ i) (hj : j < n) (hn : n < 2 ^ 31) (hv : f j = v) (hp : pc + 1 = pc') (k : zruns zTB y pc' L (.int v :: st) (nput (o + 1) F g h) r) : zruns zTB y pc L (.int (nI j) :: .ref i :: st) (nput (o + 1) F g h) r := zr_iald hI (zo_at hb hh hi) (nI_in hj hn) (by rw [nI_clamp (by omega)]; exact hv) hp k
theorem zo_aald {i n j q : Nat} {f : Nat → Option Nat} (hI : zI y pc = some (.aaload, ax)) (hb : o + 1 + 71 ≤ h.length) (hh : h[i]? = some (zrr n f)) (hi : i < o + 1 ∨ o + 1 + 71 ≤ i) (hj : j < n) (hn : n < 2 ^ 31) (hv : f j = some q) (hp : pc + 1 = pc') (k : zruns zTB y pc' L (.ref q :: st) (nput (o + 1) F g h) r) : zruns zTB y pc L (.int (nI j) :: .ref i :: st) (nput (o + 1) F g h) r := zr_aald hI (zo_at hb hh hi) (nI_in hj hn) (by rw [nI_clamp (by omega)]; exact hv) hp k
theorem zo_iast {i n j : Nat} {f : Nat → Int32} {v : Int32} (hI : zI y pc = some (.iastore, ax)) (hb : o + 1 + 71 ≤ h.length) (hh : h[i]? = some (zri n f)) (hi : o + 1 + 71 ≤ i) (hj : j < n) (hn : n < 2 ^ 31) (hp : pc + 1 = pc') (k : zruns zTB y pc' L st (nput (o + 1) F g (h.set i (zri n (upd f j v)))) r) : zruns zTB y pc L (.int v :: .int (nI j) :: .ref i :: st) (nput (o + 1) F g h) r := zr_iast hI (by omega) (zo_at hb hh (.inr hi)) (nI_in hj hn) hp (by rw [nI_clamp (by omega), nput_setO hb (.inr hi)]) k
theorem zo_aast {i n j q n2 : Nat} {f : Nat → Option Nat} {f2 : Nat → Int32} (hI : zI y pc = some (.aastore, ax)) (hb : o + 1 + 71 ≤ h.length) (hh : h[i]? = some (zrr n f)) (hi : o + 1 + 71 ≤ i) (hq : h[q]? = some (zri n2 f2)) (hq2 : o + 1 + 71 ≤ q) (hj : j < n) (hn : n < 2 ^ 31) (hp : pc + 1 = pc') (k : zruns zTB y pc' L st (nput (o + 1) F g (h.set i (zrr n (va_up f j (some q))))) r) : zruns zTB y pc L (.ref q :: .int (nI j) :: .ref i :: st) (nput (o + 1) F g h) r := zr_aast hI (by omega) (by omega) (zo_at hb hh (.inr hi)) (zo_at hb hq (.inr hq2)) (nI_in hj hn) hp (by rw [nI_clamp (by omega), nput_setO hb (.inr hi)]) k
theorem zo_newa {n : Nat} (hI : zI y pc = some (.newarray .int, 0 :: ax)) (hb : o + 1 + 71 ≤ h.length) (hn : n ≤ 10000) (hp : pc + 2 = pc') (k : zruns zTB y pc' L (.ref h.length :: st) (nput (o + 1) F g (h ++ [zri n fun _ => 0])) r) : zruns zTB y pc L (.int (nI n) :: st) (nput (o + 1) F g h) r := zr_newa hI (nI_pos (by omega)) (nI_clamp (by omega)) hn (nput_len hb) hp (by rw [nput_app hb]; exact k)
end
/-! the Owl's picture: A has its lines and templates as a Nightjar's rows would -/
def zln (o : Nat) (h : zH) (A : Nat → Nat → Int32) (e l p : Nat) : Prop := o + 76 ≤ p ∧ p < e ∧ ∃ c f, c ≤ 4 ∧ h[p]? = some (zri (3 + c) f) ∧ f 0 = A 0 l ∧ A 3 l = nI c ∧ ∀ k, k < c → f (3 + k) = A 4 (l * 8 + k)
def ztm (o : Nat) (h : zH) (A : Nat → Nat → Int32) (e t p : Nat) : Prop := o + 76 ≤ p ∧ p < e ∧ ∃ a f, a ≤ 8 ∧ h[p]? = some (zri a f) ∧ A 7 t = nI a ∧ ∀ k, k < a → f k = A 8 (t * 8 + k)
def zOw (o : Nat) (h : zH) (A : Nat → Nat → Int32) (nl nm nT sh gp wi bk rl rt e u d : Nat) : Prop :=
  (1 ≤ o) ∧
  (∃ dr, dr ≤ d ∧ h[o]? = some (zow o dr rl nm rt)) ∧
  (∃ f, h[o + 73]? = some (zri 70 f)) ∧
  (∃ f, h[o + 75]? = some (zri 4 f) ∧ f 0 = nI sh ∧ f 1 = nI gp ∧ f 2 = nI wi ∧ f 3 = nI bk) ∧
  (∃ L f, h[0]? = some (zri L f) ∧ L ≤ 260) ∧
  (o + 72 ≤ rl ∧ o + 72 ≤ rt ∧ rl ≠ rt ∧ rl < e ∧ rt < e ∧ o + 76 ≤ e ∧ e ≤ h.length) ∧
  (∃ lf, h[rl]? = some (zrr nl lf) ∧ ∀ l, l < nl → ∃ p, lf l = some p ∧ zln o h A e l p) ∧
  (∃ tf, h[rt]? = some (zrr nT tf) ∧ ∀ t, t < nT → ∃ p, tf t = some p ∧ ztm o h A e t p) ∧
  (h.length ≤ u ∧ zss h ≤ 100 * u)
theorem zOw.o1 {o : Nat} {h : zH} {A : Nat → Nat → Int32} {nl nm nT sh gp wi bk rl rt e u d : Nat} (q : zOw o h A nl nm nT sh gp wi bk rl rt e u d) : 1 ≤ o := q.1
theorem zOw.ob {o : Nat} {h : zH} {A : Nat → Nat → Int32} {nl nm nT sh gp wi bk rl rt e u d : Nat} (q : zOw o h A nl nm nT sh gp wi bk rl rt e u d) : ∃ dr, dr ≤ d ∧ h[o]? = some (zow o dr rl nm rt) := q.2.1
theorem zOw.ow {o : Nat} {h : zH} {A : Nat → Nat → Int32} {nl nm nT sh gp wi bk rl rt e u d : Nat} (q : zOw o h A nl nm nT sh gp wi bk rl rt e u d) : ∃ f, h[o + 73]? = some (zri 70 f) := q.2.2.1
theorem zOw.se {o : Nat} {h : zH} {A : Nat → Nat → Int32} {nl nm nT sh gp wi bk rl rt e u d : Nat} (q : zOw o h A nl nm nT sh gp wi bk rl rt e u d) : ∃ f, h[o + 75]? = some (zri 4 f) ∧ f 0 = nI sh ∧ f 1 = nI gp ∧ f 2 = nI wi ∧ f 3 = nI bk := q.2.2.2.1
theorem zOw.sc {o : Nat} {h : zH} {A : Nat → Nat → Int32} {nl nm nT sh gp wi bk rl rt e u d : Nat} (q : zOw o h A nl nm nT sh gp wi bk rl rt e u d) : ∃ L f, h[0]? = some (zri L f) ∧ L ≤ 260 := q.2.2.2.2.1
theorem zOw.rr {o : Nat} {h : zH} {A : Nat → Nat → Int32} {nl nm nT sh gp wi bk rl rt e u d : Nat} (q : zOw o h A nl nm nT sh gp wi bk rl rt e u d) : o + 72 ≤ rl ∧ o + 72 ≤ rt ∧ rl ≠ rt ∧ rl < e ∧ rt < e ∧ o + 76 ≤ e ∧ e ≤ h.length := q.2.2.2.2.2.1
theorem zOw.li {o : Nat} {h : zH} {A : Nat → Nat → Int32} {nl nm nT sh gp wi bk rl rt e u d : Nat} (q : zOw o h A nl nm nT sh gp wi bk rl rt e u d) : ∃ lf, h[rl]? = some (zrr nl lf) ∧ ∀ l, l < nl → ∃ p, lf l = some p ∧ zln o h A e l p := q.2.2.2.2.2.2.1
theorem zOw.te {o : Nat} {h : zH} {A : Nat → Nat → Int32} {nl nm nT sh gp wi bk rl rt e u d : Nat} (q : zOw o h A nl nm nT sh gp wi bk rl rt e u d) : ∃ tf, h[rt]? = some (zrr nT tf) ∧ ∀ t, t < nT → ∃ p, tf t = some p ∧ ztm o h A e t p := q.2.2.2.2.2.2.2.1
theorem zOw.bu {o : Nat} {h : zH} {A : Nat → Nat → Int32} {nl nm nT sh gp wi bk rl rt e u d : Nat} (q : zOw o h A nl nm nT sh gp wi bk rl rt e u d) : h.length ≤ u ∧ zss h ≤ 100 * u := q.2.2.2.2.2.2.2.2
section
variable {o : Nat} {h h' : zH} {A A' : Nat → Nat → Int32} {nl nm nT sh gp wi bk rl rt e u d : Nat}
theorem zOw.hb (w : zOw o h A nl nm nT sh gp wi bk rl rt e u d) : o + 1 + 71 ≤ h.length := by
  obtain ⟨_, _, _, _, _, h1, h2⟩ := w.rr
  omega
theorem zOw.hb2 (w : zOw o h A nl nm nT sh gp wi bk rl rt e u d) : o + 76 ≤ h.length := by
  obtain ⟨_, _, _, _, _, h1, h2⟩ := w.rr
  omega
/-- lines and templates as they were -/
def zAg (nl nT : Nat) (A A' : Nat → Nat → Int32) : Prop := (∀ l, l < nl → A' 0 l = A 0 l ∧ A' 3 l = A 3 l ∧ ∀ k, k < 8 → A' 4 (l * 8 + k) = A 4 (l * 8 + k)) ∧ ∀ t, t < nT → A' 7 t = A 7 t ∧ ∀ k, k < 8 → A' 8 (t * 8 + k) = A 8 (t * 8 + k)
theorem zln_mono {l p e' : Nat} (w : zln o h A e l p) (hh : h'[p]? = h[p]?) (he : e ≤ e') (hA : A' 0 l = A 0 l ∧ A' 3 l = A 3 l ∧ ∀ k, k < 8 → A' 4 (l * 8 + k) = A 4 (l * 8 + k)) : zln o h' A' e' l p := by
  obtain ⟨h1, h2, c, f, h3, h4, h5, h6, h7⟩ := w
  refine ⟨h1, by omega, c, f, h3, by rw [hh]; exact h4, by rw [hA.1]; exact h5, by rw [hA.2.1]; exact h6, fun k hk => ?_⟩
  rw [hA.2.2 k (by omega)]
  exact h7 k hk
theorem ztm_mono {t p e' : Nat} (w : ztm o h A e t p) (hh : h'[p]? = h[p]?) (he : e ≤ e') (hA : A' 7 t = A 7 t ∧ ∀ k, k < 8 → A' 8 (t * 8 + k) = A 8 (t * 8 + k)) : ztm o h' A' e' t p := by
  obtain ⟨h1, h2, a, f, h3, h4, h6, h7⟩ := w
  refine ⟨h1, by omega, a, f, h3, by rw [hh]; exact h4, by rw [hA.1]; exact h6, fun k hk => ?_⟩
  rw [hA.2 k (by omega)]
  exact h7 k hk
/-- a row of numbers is no row of rows -/
theorem zne {i j n m : Nat} {f : Nat → Int32} {f2 : Nat → Option Nat} (h1 : h[i]? = some (zri n f)) (h2 : h[j]? = some (zrr m f2)) : i ≠ j := by
  rintro rfl
  rw [h1] at h2
  cases h2
theorem zln_row {l p : Nat} (w : zln o h A e l p) : ∃ n f, h[p]? = some (zri n f) := by
  obtain ⟨_, _, c, f, _, h4, _⟩ := w
  exact ⟨_, f, h4⟩
theorem ztm_row {t p : Nat} (w : ztm o h A e t p) : ∃ n f, h[p]? = some (zri n f) := by
  obtain ⟨_, _, c, f, _, h4, _⟩ := w
  exact ⟨_, f, h4⟩
/-- nothing that it stands on is changed, but its own cell -/
theorem zOw_fr {nm' d' u' : Nat} (w : zOw o h A nl nm nT sh gp wi bk rl rt e u d) (hag : ∀ i, i < e → i ≠ o → h'[i]? = h[i]?) (hob : ∃ dr, dr ≤ d' ∧ h'[o]? = some (zow o dr rl nm' rt)) (hl : h.length ≤ h'.length) (hbu : h'.length ≤ u' ∧ zss h' ≤ 100 * u') (hA : zAg nl nT A A') : zOw o h' A' nl nm' nT sh gp wi bk rl rt e u' d' := by
  obtain ⟨q1, q2, ⟨f5, q3⟩, ⟨f6, q4, q5⟩, ⟨L, f7, q6, q7⟩, ⟨r1, r2, r3, r4, r5, r6, r7⟩, ⟨lf, l1, l2⟩, ⟨tf, t1, t2⟩, _⟩ := w
  refine ⟨q1, hob, ⟨f5, by rw [hag _ (by omega) (by omega)]; exact q3⟩, ⟨f6, by rw [hag _ (by omega) (by omega)]; exact q4, q5⟩, ⟨L, f7, by rw [hag _ (by omega) (by omega)]; exact q6, q7⟩, ⟨r1, r2, r3, r4, r5, r6, by omega⟩, ⟨lf, by rw [hag _ r4 (by omega)]; exact l1, fun l hl => ?_⟩, ⟨tf, by rw [hag _ r5 (by omega)]; exact t1, fun t ht => ?_⟩, hbu⟩
  · obtain ⟨p, p1, p2⟩ := l2 l hl
    exact ⟨p, p1, zln_mono p2 (hag _ p2.2.1 (by have := p2.1; omega)) (Nat.le_refl _) (hA.1 l hl)⟩
  · obtain ⟨p, p1, p2⟩ := t2 t ht
    exact ⟨p, p1, ztm_mono p2 (hag _ p2.2.1 (by have := p2.1; omega)) (Nat.le_refl _) (hA.2 t ht)⟩
theorem zAg_rf {nl nT : Nat} : zAg nl nT A A := ⟨fun _ _ => ⟨rfl, rfl, fun _ _ => rfl⟩, fun _ _ => ⟨rfl, fun _ _ => rfl⟩⟩
/-- one line more, in a new row of rows -/
theorem zOw_li {d' u' rl' p : Nat} {lf : Nat → Option Nat} (w : zOw o h A nl nm nT sh gp wi bk rl rt e u d) (hag : ∀ i, i < e → i ≠ o → h'[i]? = h[i]?) (hob : ∃ dr, dr ≤ d' ∧ h'[o]? = some (zow o dr rl' nm rt)) (hl : h.length ≤ h'.length) (hbu : h'.length ≤ u' ∧ zss h' ≤ 100 * u') (hA : zAg nl nT A A') (hr : e ≤ rl' ∧ rl' < h'.length) (hlf : h'[rl']? = some (zrr (nl + 1) lf)) (hold : ∀ lf0, h[rl]? = some (zrr nl lf0) → ∀ l, l < nl → lf l = lf0 l) (hnew : lf nl = some p ∧ zln o h' A' h'.length nl p) : zOw o h' A' (nl + 1) nm nT sh gp wi bk rl' rt h'.length u' d' := by
  obtain ⟨q1, q2, ⟨f5, q3⟩, ⟨f6, q4, q5⟩, ⟨L, f7, q6, q7⟩, ⟨r1, r2, r3, r4, r5, r6, r7⟩, ⟨lf0, l1, l2⟩, ⟨tf, t1, t2⟩, _⟩ := w
  refine ⟨q1, hob, ⟨f5, by rw [hag _ (by omega) (by omega)]; exact q3⟩, ⟨f6, by rw [hag _ (by omega) (by omega)]; exact q4, q5⟩, ⟨L, f7, by rw [hag _ (by omega) (by omega)]; exact q6, q7⟩, ⟨by omega, r2, by omega, hr.2, by omega, by omega, Nat.le_refl _⟩, ⟨lf, hlf, fun l hl2 => ?_⟩, ⟨tf, by rw [hag _ r5 (by omega)]; exact t1, fun t ht => ?_⟩, hbu⟩
  · rcases Nat.lt_or_ge l nl with k | k
    · obtain ⟨p, p1, p2⟩ := l2 l k
      exact ⟨p, by rw [hold _ l1 l k]; exact p1, zln_mono p2 (hag _ p2.2.1 (by have := p2.1; omega)) (by omega) (hA.1 l k)⟩
    · obtain rfl : l = nl := by omega
      exact ⟨p, hnew⟩
  · obtain ⟨p, p1, p2⟩ := t2 t ht
    exact ⟨p, p1, ztm_mono p2 (hag _ p2.2.1 (by have := p2.1; omega)) (by omega) (hA.2 t ht)⟩
/-- its templates are others -/
theorem zOw_te {d' u' rt' nT' : Nat} {tf : Nat → Option Nat} (w : zOw o h A nl nm nT sh gp wi bk rl rt e u d) (hag : ∀ i, i < e → i ≠ o → i ≠ rt → h'[i]? = h[i]?) (hob : ∃ dr, dr ≤ d' ∧ h'[o]? = some (zow o dr rl nm rt')) (hl : h.length ≤ h'.length) (hbu : h'.length ≤ u' ∧ zss h' ≤ 100 * u') (hA : ∀ l, l < nl → A' 0 l = A 0 l ∧ A' 3 l = A 3 l ∧ ∀ k, k < 8 → A' 4 (l * 8 + k) = A 4 (l * 8 + k)) (hr : o + 72 ≤ rt' ∧ rt' ≠ rl ∧ rt' < h'.length) (htf : h'[rt']? = some (zrr nT' tf)) (hnew : ∀ t, t < nT' → ∃ p, tf t = some p ∧ ztm o h' A' h'.length t p) : zOw o h' A' nl nm nT' sh gp wi bk rl rt' h'.length u' d' := by
  obtain ⟨q1, q2, ⟨f5, q3⟩, ⟨f6, q4, q5⟩, ⟨L, f7, q6, q7⟩, ⟨r1, r2, r3, r4, r5, r6, r7⟩, ⟨lf0, l1, l2⟩, ⟨tf0, t1, t2⟩, _⟩ := w
  refine ⟨q1, hob, ⟨f5, by rw [hag _ (by omega) (by omega) (zne q3 t1)]; exact q3⟩, ⟨f6, by rw [hag _ (by omega) (by omega) (zne q4 t1)]; exact q4, q5⟩, ⟨L, f7, by rw [hag _ (by omega) (by omega) (by omega)]; exact q6, q7⟩, ⟨r1, hr.1, Ne.symm hr.2.1, by omega, hr.2.2, by omega, Nat.le_refl _⟩, ⟨lf0, by rw [hag _ r4 (by omega) r3]; exact l1, fun l hl2 => ?_⟩, ⟨tf, htf, hnew⟩, hbu⟩
  obtain ⟨p, p1, p2⟩ := l2 l hl2
  obtain ⟨n, f, p3⟩ := zln_row p2
  exact ⟨p, p1, zln_mono p2 (hag _ p2.2.1 (by have := p2.1; omega) (zne p3 t1)) (by omega) (hA l hl2)⟩
/-- at rest: what it has is what its Nightjar has -/
def zOW (o U : Nat) (H : zH) : Prop := ∃ h F g x sh gp wi bk rl rt e, zOk F g x sh gp wi bk ∧ (∀ i, i < g 0 → x i ≤ 24 * (i + 1)) ∧ zOw o h F (g 0) (g 1) (g 2) sh gp wi bk rl rt e (100 * U) (30 * U) ∧ H = nput (o + 1) F g h
def zQo (o U : Nat) : zR → Prop := fun q => ∃ H, zOW o U H ∧ q = (some (.int 1), H)
theorem zQo_out {y U : Nat} {a : List Value} {H : zH} (k : ∃ q, zQo o U q ∧ zcalls zTB y a H q) : ∃ H', zOW o U H' ∧ zcalls zTB y a H (some (.int 1), H') := by
  obtain ⟨q, ⟨H', hp, rfl⟩, hc⟩ := k
  exact ⟨H', hp, hc⟩
end


/-! THE MACHINE'S HEAP AND THE PURE CELLS: cell i stands at the address al i; the script is cell 0, and is never written -/
def zv (al : Nat → Nat) : Value → Value
  | .ref i => .ref (al i)
  | v => v
theorem zv_cat (al : Nat → Nat) (v : Value) : (zv al v).category = v.category := by cases v <;> rfl
theorem zv_cats (al : Nat → Nat) (st : List Value) : ((st.map (zv al)).map fun v => v.category).sum = (st.map fun v => v.category).sum := by
  rw [List.map_map]
  congr 1
  exact List.map_congr_left fun v _ => zv_cat al v
def zca (al : Nat → Nat) (a : vp_A) : vp_A := (a.1, match a.2 with
  | .inr (.inr (.inr (.inr f))) => .inr (.inr (.inr (.inr (fun j => (f j).map al))))
  | x => x)
def zmc (al : Nat → Nat) (CA : Nat → ClassId) : zE → va_E
  | .inl a => .inl (CA a.1, zca al a.2)
  | .inr o => .inr (o.1, o.2.map (zv al))
def zkty : Nat → FieldType
  | 0 => .int
  | 1 => .long
  | 2 => .boolean
  | _ => .array .int
def zAw (al : Nat → Nat) (CA : Nat → ClassId) (D : va_G) (i : Nat) (e : zE) (H : Heap) : Prop := (∀ a, e = .inl a → a.1 ∈ zkin) ∧ va_at D zcl (al i, zmc al CA e) H
/-- the script's cell: a row of numbers that the caller made (CA 9 is its class) -/
def zScr (CA : Nat → ClassId) (a : Addr) (n : Nat) (f : Nat → Int32) (H : Heap) : Prop := ∃ scr : Cell, H[a]? = some scr ∧ scr.cls = CA 9 ∧ (∀ k, scr.vm ≠ .statics k) ∧ scr.vm ≠ .unknown ∧ scr.slots.size = n ∧ ∀ j, j < n → scr.slots[j]? = some (.int (f j))
def zS0 (al : Nat → Nat) (CA : Nat → ClassId) (i : Nat) (e : zE) (H : Heap) : Prop := i = 0 ∧ ∃ (n : Nat) (f : Nat → Int32), e = .inl (0, n, .inl f) ∧ zScr CA (al 0) n f H
def zAt (al : Nat → Nat) (CA : Nat → ClassId) (D : va_G) (i : Nat) (e : zE) (H : Heap) : Prop := zAw al CA D i e H ∨ zS0 al CA i e H
def zHH (al : Nat → Nat) (CA : Nat → ClassId) (D : va_G) (h : zH) (H : Heap) : Prop := (1 ≤ h.length ∧ ∀ i, h.length ≤ i → al (i + 1) = al i + 1) ∧ H.size = al h.length ∧ ∀ (i : Nat) (e : zE), h[i]? = some e → zAt al CA D i e H
/-- the numbering: no two cells at one address (new cells stand behind each other: zHH) -/
def zal (al : Nat → Nat) : Prop := (∀ i j, al i = al j → i = j) ∧ True
/-- the cells that may be written -/
def zA (al : Nat → Nat) : Addr → Prop := fun q => ∃ i, 1 ≤ i ∧ al i ≤ q
def zK3 (CA : Nat → ClassId) (U : State) : Prop := (∃ (k kc : Class), U.vm.classes[CA 3]? = some k ∧ k.kind = .array (CA 0) (.array .int) ∧ U.vm.classes[CA 0]? = some kc) ∧ (Jvm.Cond.arrayOver (.array .int)).before #[] U = true
/-- the script's class -/
def zK9 (CA : Nat → ClassId) (U : State) : Prop := ∃ (k : Class) (cp : ClassId), U.vm.classes[CA 9]? = some k ∧ k.kind = .array cp .int
/-- what the tables say, at any state of the run -/
def zK (D : va_G) (CA : Nat → ClassId) (U : State) : Prop := va_K D zcl [] U ∧ (∀ t ∈ zkin, ArrOfT U (CA t) (zkty t) ∧ U.vm.findClass ("[" ++ (zkty t).toString) = some (CA t)) ∧ (3 ∈ zkin → zK3 CA U) ∧ (∀ q ∈ znest, va_Nw (.methodLinkNest q.1 q.2.1 q.2.2.1 q.2.2.2) U) ∧ zK9 CA U
theorem zAO_moved {u U : State} (hvm : u.vm.Alike U.vm) (h : (Jvm.Cond.arrayOver (.array .int)).before #[] u = true) : (Jvm.Cond.arrayOver (.array .int)).before #[] U = true := by
  obtain ⟨comp, c, k, h1, h2, h3, h4, h5⟩ := arrayOverA_spec h
  obtain ⟨k', hk', he⟩ := hvm.2.2 _ _ h3
  have key := va_idx_bare U.vm comp
  have key2 := va_idx_bare u.vm comp
  have hb : U.vm.bare = u.vm.bare := by first | exact hvm.bare_eq.symm | exact hvm.bare_eq
  rw [hb] at key
  have hi := key.symm.trans (key2.trans h2)
  have hkind : k'.kind = .array comp (.array .int) := by rw [he]; exact h4
  have f1 : U.vm.findClass (FieldType.array .int).toString = some comp := by rw [hvm.findClass]; exact h1
  have f2 : U.vm.findClass ("[" ++ (FieldType.array .int).toString) = some c := by rw [hvm.findClass]; exact h5
  unfold Jvm.Cond.before Jvm.Cond.holds
  simp only [Jvm.Cond.value]
  rw [f1, Option.bind_some]
  refine (congrArg (fun o : Option Nat => (o.bind (fun c => (U.vm.classes[c]?).map fun (k : Class) => match k.kind with | .array _ ty => decide (ty = FieldType.array .int) && decide (U.vm.findClass ("[" ++ (FieldType.array .int).toString) = some c) | _ => false) == some true)) hi).trans ?_
  simp [hk', hkind, f2]
theorem zK3_moved {CA : Nat → ClassId} {u U : State} (hvm : u.vm.Alike U.vm) (h : zK3 CA u) : zK3 CA U := by
  obtain ⟨⟨k, kc, h1, h2, h3⟩, h4⟩ := h
  obtain ⟨k', hk', he⟩ := hvm.2.2 _ _ h1
  obtain ⟨kc', hkc', -⟩ := hvm.2.2 _ _ h3
  exact ⟨⟨k', kc', hk', by rw [he]; exact h2, hkc'⟩, zAO_moved hvm h4⟩
theorem zK9_moved {CA : Nat → ClassId} {u U : State} (hvm : u.vm.Alike U.vm) (h : zK9 CA u) : zK9 CA U := by
  obtain ⟨k, cp, h1, h2⟩ := h
  obtain ⟨k', hk', he⟩ := hvm.2.2 _ _ h1
  exact ⟨k', cp, hk', by rw [he]; exact h2⟩
theorem zK9_is {CA : Nat → ClassId} {U : State} {scr : Cell} (h : zK9 CA U) (h1 : scr.cls = CA 9) (h2 : ∀ k, scr.vm ≠ .statics k) : U.isArrayOf scr .int := by
  obtain ⟨k, cp, g1, g2⟩ := h
  exact ⟨h2, k, by rw [h1]; exact g1, cp, g2⟩
theorem zK_warm {D : va_G} {CA : Nat → ClassId} {s U : State} (hW : s.WarmedH U.vm) (h : zK D CA s) : zK D CA U := by
  obtain ⟨h1, h2, h3, h4, h5⟩ := h
  have hvm : s.vm.Alike U.vm := hW.alike
  refine ⟨va_K.moved hvm h1, fun t ht => ⟨arrOfT_moved hvm (h2 t ht).1, ?_⟩, fun h => zK3_moved hvm (h3 h), fun q hq => va_Nw.warmM hW (h4 q hq), zK9_moved hvm h5⟩
  rw [hvm.findClass]
  exact (h2 t ht).2
theorem zK_same {D : va_G} {CA : Nat → ClassId} {u U : State} (hvm : u.vm = U.vm) (h : zK D CA u) : zK D CA U := by
  obtain ⟨h1, h2, h3, h4, h5⟩ := h
  have ha : u.vm.Alike U.vm := hvm ▸ Vm.Alike.refl _
  refine ⟨va_K.moved ha h1, fun t ht => ⟨arrOfT_moved ha (h2 t ht).1, ?_⟩, fun h => zK3_moved ha (h3 h), fun q hq => va_Nw.same rfl hvm (h4 q hq), zK9_moved ha h5⟩
  rw [← hvm]
  exact (h2 t ht).2
theorem zAt_lt {al : Nat → Nat} {CA : Nat → ClassId} {D : va_G} {i : Nat} {e : zE} {H : Heap} (h : zAt al CA D i e H) : al i < H.size := by
  rcases h with h | ⟨rfl, n, f, -, scr, h, -⟩
  · exact h.2.lt
  · exact (Array.getElem?_eq_some_iff.mp h).1
theorem zAt_kept {al : Nat → Nat} {CA : Nat → ClassId} {D : va_G} {i : Nat} {e : zE} {H H1 : Heap} (h : zAt al CA D i e H) (hq : H1[al i]? = H[al i]?) : zAt al CA D i e H1 := by
  rcases h with h | ⟨rfl, n, f, e1, scr, h, h2⟩
  · exact Or.inl ⟨h.1, h.2.kept hq⟩
  · exact Or.inr ⟨rfl, n, f, e1, scr, hq.trans h, h2⟩
theorem zAs {al : Nat → Nat} {CA : Nat → ClassId} {D : va_G} {i : Nat} {e : zE} {H : Heap} (h : zAt al CA D (i + 1) e H) : zAw al CA D (i + 1) e H := h.resolve_right fun q => absurd q.1 (Nat.succ_ne_zero i)
theorem zAo {al : Nat → Nat} {CA : Nat → ClassId} {D : va_G} {i : Nat} {o : Nat × List Value} {H : Heap} (h : zAt al CA D i (.inr o) H) : zAw al CA D i (.inr o) H := h.resolve_right fun ⟨_, _, _, q, _⟩ => by cases q
theorem zAk {al : Nat → Nat} {CA : Nat → ClassId} {D : va_G} {i k : Nat} {a : vp_A} {H : Heap} (h : zAt al CA D i (.inl (k, a)) H) (hk : k ≠ 0) : zAw al CA D i (.inl (k, a)) H := h.resolve_right fun ⟨_, _, _, q, _⟩ => by
  cases q
  exact hk rfl
theorem zHH_set {al : Nat → Nat} {CA : Nat → ClassId} {D : va_G} {h : zH} {H H1 : Heap} {i : Nat} {e' : zE} (ha : zal al) (hH : zHH al CA D h H) (hi : i < h.length) (z : H1.size = H.size) (oq : ∀ q, q ≠ al i → H1[q]? = H[q]?) (he : zAw al CA D i e' H1) : zHH al CA D (h.set i e') H1 := by
  refine ⟨by rw [List.length_set]; exact hH.1, by rw [List.length_set, z]; exact hH.2.1, fun j e hj => ?_⟩
  by_cases hij : i = j
  · subst hij
    rw [List.getElem?_set_self hi] at hj
    cases hj
    exact Or.inl he
  · rw [List.getElem?_set_ne hij] at hj
    exact zAt_kept (hH.2.2 j e hj) (oq _ fun q => hij (ha.1 _ _ q).symm)
theorem zHH_app {al : Nat → Nat} {CA : Nat → ClassId} {D : va_G} {h : zH} {H H1 : Heap} {e' : zE} (ha : zal al) (hH : zHH al CA D h H) (z : H1.size = H.size + 1) (oq : ∀ q, q < H.size → H1[q]? = H[q]?) (he : zAw al CA D h.length e' H1) : zHH al CA D (h ++ [e']) H1 := by
  refine ⟨⟨by simp, fun i hi => hH.1.2 i (by rw [List.length_append] at hi; omega)⟩, by rw [List.length_append, z, hH.2.1]; exact (hH.1.2 _ (Nat.le_refl _)).symm, fun j e hj => ?_⟩
  by_cases hl : j < h.length
  · rw [List.getElem?_append_left hl] at hj
    exact zAt_kept (hH.2.2 j e hj) (oq _ (zAt_lt (hH.2.2 j e hj)))
  · rw [List.getElem?_append_right (by omega)] at hj
    have hz : j - h.length < 1 := (List.getElem?_eq_some_iff.mp hj).1
    have hj2 : j = h.length := by omega
    subst hj2
    rw [Nat.sub_self] at hj
    cases hj
    exact Or.inl he
/-- the locals -/
def zLl (al : Nat → Nat) (L : zL) : List (Nat × Value) := (List.range L.length).filterMap fun i => (zget L i).map fun v => (i, zv al v)
def zLh (al : Nat → Nat) (ls : Array Slot) (n : Nat) (L : zL) : Prop := L.length = n ∧ lv_has ls n (zLl al L)
theorem zget_some {L : zL} {i : Nat} {v : Value} : zget L i = some v ↔ L[i]? = some (some v) := by
  unfold zget
  cases h : L[i]? with
  | none => simp
  | some o => cases o <;> simp
theorem zLl_mem {al : Nat → Nat} {L : zL} {i : Nat} {w : Value} : (i, w) ∈ zLl al L ↔ ∃ v, L[i]? = some (some v) ∧ w = zv al v := by
  unfold zLl
  rw [List.mem_filterMap]
  constructor
  · rintro ⟨j, -, hj⟩
    cases hg : zget L j with
    | none => rw [hg] at hj; simp at hj
    | some v =>
      rw [hg] at hj
      simp only [Option.map_some, Option.some.injEq, Prod.mk.injEq] at hj
      obtain ⟨rfl, rfl⟩ := hj
      exact ⟨v, zget_some.mp hg, rfl⟩
  · rintro ⟨v, hv, rfl⟩
    exact ⟨i, List.mem_range.mpr (List.getElem?_eq_some_iff.mp hv).1, by rw [zget_some.mpr hv]; rfl⟩
theorem zLh_at {al : Nat → Nat} {ls : Array Slot} {n : Nat} {L : zL} (h : zLh al ls n L) {i : Nat} {v : Value} (hv : L[i]? = some (some v)) : ls[i]? = some (.val (zv al v)) := h.2.2.2 (i, zv al v) (zLl_mem.mpr ⟨v, hv, rfl⟩)
theorem zkill_len (L : zL) (i : Nat) : (zkill L i).length = L.length := by
  unfold zkill
  split
  · rfl
  · split <;> simp
theorem zkill_get {L : zL} {i j : Nat} {v : Value} (h : (zkill L i)[j]? = some (some v)) : L[j]? = some (some v) ∧ (j + 1 = i → v.category ≠ 2) := by
  unfold zkill at h
  split at h
  · exact ⟨h, fun q => by omega⟩
  · rename_i k
    split at h
    · by_cases hj : k = j
      · subst hj
        rw [List.getElem?_set_self (by rename_i q; exact (List.getElem?_eq_some_iff.mp q).1)] at h
        simp at h
      · rw [List.getElem?_set_ne hj] at h
        exact ⟨h, fun q => by omega⟩
    · by_cases hj : k = j
      · subst hj
        rw [List.getElem?_set_self (by rename_i q; exact (List.getElem?_eq_some_iff.mp q).1)] at h
        simp at h
      · rw [List.getElem?_set_ne hj] at h
        exact ⟨h, fun q => by omega⟩
    · rename_i n1 n2
      refine ⟨h, fun q hc => ?_⟩
      have hk : j = k := by omega
      subst hk
      cases v <;> simp [Value.category] at hc
      · exact n1 _ h
      · exact n2 _ h
theorem zst1_has {al : Nat → Nat} {ls' : Array Slot} {n : Nat} {L : zL} {i : Nat} {v : Value} (hL : L.length = n) (hi : i < n) (h : lv_has ls' n ((i, zv al v) :: (zLl al L).filter (fun q => !(q.1 == i) && !(q.1 + 1 == i && q.2.category == 2)))) : zLh al ls' n (zst1 L i v) := by
  refine ⟨by unfold zst1; rw [List.length_set, zkill_len]; exact hL, h.1, h.2.1, ?_⟩
  rintro ⟨j, w⟩ hw
  obtain ⟨x, hx, rfl⟩ := zLl_mem.mp hw
  refine h.2.2 (j, zv al x) ?_
  unfold zst1 at hx
  by_cases hij : i = j
  · subst hij
    rw [List.getElem?_set_self (by rw [zkill_len]; omega)] at hx
    cases hx
    exact List.mem_cons_self
  · rw [List.getElem?_set_ne hij] at hx
    obtain ⟨h1, h2⟩ := zkill_get hx
    refine List.mem_cons_of_mem _ (List.mem_filter.mpr ⟨zLl_mem.mpr ⟨x, h1, rfl⟩, ?_⟩)
    simp only [zv_cat, Bool.and_eq_true, Bool.not_eq_true', beq_eq_false_iff_ne, ne_eq, Bool.and_eq_false_iff]
    refine ⟨fun q => hij q.symm, ?_⟩
    by_cases hji : j + 1 = i
    · exact Or.inr (h2 hji)
    · exact Or.inl hji
theorem zst2_has {al : Nat → Nat} {ls' : Array Slot} {n : Nat} {L : zL} {i : Nat} {v : Value} (hL : L.length = n) (hi : i + 1 < n) (h : lv_has ls' n ((i, zv al v) :: (zLl al L).filter (fun q => !(q.1 == i) && (!(q.1 == i + 1) && !(q.1 + 1 == i && q.2.category == 2))))) : zLh al ls' n (zst2 L i v) := by
  refine ⟨by unfold zst2; rw [List.length_set, List.length_set, zkill_len]; exact hL, h.1, h.2.1, ?_⟩
  rintro ⟨j, w⟩ hw
  obtain ⟨x, hx, rfl⟩ := zLl_mem.mp hw
  refine h.2.2 (j, zv al x) ?_
  unfold zst2 at hx
  by_cases hi1 : i + 1 = j
  · subst hi1
    rw [List.getElem?_set_self (by rw [List.length_set, zkill_len]; omega)] at hx
    cases hx
  · rw [List.getElem?_set_ne hi1] at hx
    by_cases hij : i = j
    · subst hij
      rw [List.getElem?_set_self (by rw [zkill_len]; omega)] at hx
      cases hx
      exact List.mem_cons_self
    · rw [List.getElem?_set_ne hij] at hx
      obtain ⟨h1, h2⟩ := zkill_get hx
      refine List.mem_cons_of_mem _ (List.mem_filter.mpr ⟨zLl_mem.mpr ⟨x, h1, rfl⟩, ?_⟩)
      simp only [zv_cat, Bool.and_eq_true, Bool.not_eq_true', beq_eq_false_iff_ne, ne_eq, Bool.and_eq_false_iff]
      refine ⟨fun q => hij q.symm, fun q => hi1 q.symm, ?_⟩
      by_cases hji : j + 1 = i
      · exact Or.inr (h2 hji)
      · exact Or.inl hji
/-- a method's locals at its entry -/
theorem zent_sl (al : Nat → Nat) : ∀ (vs : List Value), (lg_sl (vs.map (zv al))).length = (zent vs).length
  | [] => rfl
  | v :: vs => by
    have ih := zent_sl al vs
    cases v <;> simp [lg_sl, zent, zv, Value.category] at ih ⊢ <;> omega
theorem zent_get : ∀ (vs : List Value) (i : Nat) (v : Value) (k : Nat), (zent vs)[i]? = some (some v) → (k + i, v) ∈ lv_args k vs
  | [], i, v, k, h => by simp [zent] at h
  | w :: vs, i, v, k, h => by
    have ih := zent_get vs
    have one : zent (w :: vs) = some w :: zent vs → lv_args k (w :: vs) = (k, w) :: lv_args (k + 1) vs → (k + i, v) ∈ lv_args k (w :: vs) := fun e1 e2 => by
      rw [e1] at h
      rw [e2]
      rcases i with _ | i
      · simp at h
        subst h
        simp
      · refine List.mem_cons_of_mem _ ?_
        have := ih i v (k + 1) (by simpa using h)
        rwa [show k + (i + 1) = k + 1 + i by omega]
    have two : zent (w :: vs) = some w :: none :: zent vs → lv_args k (w :: vs) = (k, w) :: lv_args (k + 2) vs → (k + i, v) ∈ lv_args k (w :: vs) := fun e1 e2 => by
      rw [e1] at h
      rw [e2]
      rcases i with _ | _ | i
      · simp at h
        subst h
        simp
      · simp at h
      · refine List.mem_cons_of_mem _ ?_
        have := ih i v (k + 2) (by simpa using h)
        rwa [show k + (i + 1 + 1) = k + 2 + i by omega]
    cases w
    case long => exact two rfl rfl
    case double => exact two rfl rfl
    all_goals exact one rfl rfl
theorem zargs_map (al : Nat → Nat) : ∀ (vs : List Value) (k : Nat) (i : Nat) (v : Value), (i, v) ∈ lv_args k vs → (i, zv al v) ∈ lv_args k (vs.map (zv al))
  | [], k, i, v, h => by simp [lv_args] at h
  | w :: vs, k, i, v, h => by
    simp only [lv_args, List.map_cons, zv_cat] at h ⊢
    rcases List.mem_cons.mp h with h | h
    · cases h
      exact List.mem_cons_self
    · exact List.mem_cons_of_mem _ (zargs_map al vs _ i v h)
theorem zentry_has (al : Nat → Nat) (vs : List Value) {n : Nat} (h : (zent vs).length ≤ n) : zLh al ((lg_sl (vs.map (zv al)) ++ List.replicate (n - (lg_sl (vs.map (zv al))).length) Slot.unset).toArray) n (zentry n vs) := by
  have hl := lv_entry (vs.map (zv al)) (n := n) (by rw [zent_sl]; exact h)
  refine ⟨by unfold zentry; rw [List.length_append, List.length_replicate]; omega, hl.1, hl.2.1, ?_⟩
  rintro ⟨j, w⟩ hw
  obtain ⟨x, hx, rfl⟩ := zLl_mem.mp hw
  refine hl.2.2 (j, zv al x) (zargs_map al vs 0 j x ?_)
  unfold zentry at hx
  by_cases hj : j < (zent vs).length
  · rw [List.getElem?_append_left hj] at hx
    have := zent_get vs j x 0 hx
    rwa [Nat.zero_add] at this
  · rw [List.getElem?_append_right (by omega)] at hx
    have := List.eq_of_mem_replicate (List.mem_of_getElem? hx)
    cases this

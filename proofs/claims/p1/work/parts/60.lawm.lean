def zLAW : Nat := 178
/-! THE LAW'S BODY: stretches of pure steps, calls of wrappers between them -/
def zclH (n : Nat) (h : zH) : Bool := h.all fun e => match e with
  | .inl (_, _, .inr (.inr (.inr (.inr _)))) => false
  | .inl _ => true
  | .inr (_, fs) => fs.all fun x => match x with
    | .ref i => Nat.blt i n
    | _ => true
def zclL (n : Nat) (L : zL) : Bool := L.all fun o => match o with
  | some (.ref i) => Nat.blt i n
  | _ => true
def zclV (n : Nat) (L : List Value) : Bool := L.all fun o => match o with
  | .ref i => Nat.blt i n
  | _ => true
theorem zv_alike {al al' : Nat → Nat} {n : Nat} (ha : ∀ i, i < n → al' i = al i) {x : Value} (hx : (match x with
    | .ref i => Nat.blt i n
    | _ => true) = true) : zv al' x = zv al x := by
  cases x <;> first | rfl | (simp only [zv]; rw [ha _ (Nat.blt_eq.mp hx)])
theorem zmap_alike {al al' : Nat → Nat} {n : Nat} (ha : ∀ i, i < n → al' i = al i) {vs : List Value} (hx : zclV n vs = true) : vs.map (zv al') = vs.map (zv al) :=
  List.map_congr_left fun x hm => zv_alike ha (List.all_eq_true.mp hx x hm)
theorem zmc_alike {al al' : Nat → Nat} {CA : Nat → ClassId} {n : Nat} (ha : ∀ i, i < n → al' i = al i) {h : zH} (hc : zclH n h = true) {i : Nat} {e : zE} (he : h[i]? = some e) : zmc al' CA e = zmc al CA e := by
  have h1 := List.all_eq_true.mp hc e (List.mem_of_getElem? he)
  rcases e with ⟨k, n2, a⟩ | ⟨c, fs⟩
  · rcases a with a | a | a | a | a <;> first | rfl | (simp at h1)
  · show Sum.inr (c, fs.map (zv al')) = Sum.inr (c, fs.map (zv al))
    rw [zmap_alike ha (vs := fs) h1]
theorem zLh_alike {al al' : Nat → Nat} {n k : Nat} (ha : ∀ i, i < n → al' i = al i) {ls : Array Slot} {L : zL} (hc : zclL n L = true) (h : zLh al ls k L) : zLh al' ls k L := by
  refine ⟨h.1, h.2.1, h.2.2.1, ?_⟩
  rintro ⟨i, w⟩ hw
  obtain ⟨v, hv, rfl⟩ := zLl_mem.mp hw
  have h1 := List.all_eq_true.mp hc _ (List.mem_of_getElem? hv)
  have h2 : zv al' v = zv al v := by
    cases v <;> first | rfl | (simp only [zv]; rw [ha _ (Nat.blt_eq.mp h1)])
  rw [h2]
  exact h.2.2.2 _ (zLl_mem.mpr ⟨v, hv, rfl⟩)
/-- from this state of the law's body the machine comes to its end with 1; x: how many were caught -/
def zLw (x pc : Nat) (L : zL) (st : List Value) (h : zH) : Prop := ∀ (p : Program) (l : Launch) (e : Env) (s : State) (m : MethodId) (args : Array Value) (below : List Frame) (meth : Method) (c : Code) (al : Nat → Nat) (CA : Nat → ClassId) (D : va_G) (H : Heap) (locs : List Loc) (cells slots : Nat) (Q : State → Prop) (ls : Array Slot), l.stackTraces = false → zCtx p room_1 s m args meth c al CA D zLAW → zHH al CA D h H → zLh al ls (zMt zLAW).2.2.1 L → (∀ q ∈ locs, zA al q.base) → (∀ i, 1 ≤ i → al 1 ≤ al i) → zX al s s.heap → cells ≤ h.length + x → slots ≤ zss h + 6 * x →
  (∀ (pc : Nat) (H : Heap) (ls : Array Slot) (locs : List Loc) (cells slots : Nat), decode (zMt zLAW).2.1 pc = .ok (.ireturn, 1) → (∀ q ∈ locs, al 1 ≤ q.base) → cells ≤ 600002 → slots ≤ 7302232 → W p l e room_1 s m args below meth c H locs cells slots Q (F0 m pc ls [.int 1])) → W p l e room_1 s m args below meth c H locs cells slots Q (F0 m pc ls (st.map (zv al)))
theorem zLw_use {x pc : Nat} {L : zL} {st : List Value} {h : zH} (k : zLw x pc L st h) {p : Program} {l : Launch} {e : Env} {s : State} {m : MethodId} {args : Array Value} {below : List Frame} {meth : Method} {c : Code} {al : Nat → Nat} {CA : Nat → ClassId} {D : va_G} {H : Heap} {locs : List Loc} {cells slots : Nat} {Q : State → Prop} {ls : Array Slot} : l.stackTraces = false → zCtx p room_1 s m args meth c al CA D zLAW → zHH al CA D h H → zLh al ls (zMt zLAW).2.2.1 L → (∀ q ∈ locs, zA al q.base) → (∀ i, 1 ≤ i → al 1 ≤ al i) → zX al s s.heap → cells ≤ h.length + x → slots ≤ zss h + 6 * x →
  (∀ (pc : Nat) (H : Heap) (ls : Array Slot) (locs : List Loc) (cells slots : Nat), decode (zMt zLAW).2.1 pc = .ok (.ireturn, 1) → (∀ q ∈ locs, al 1 ≤ q.base) → cells ≤ 600002 → slots ≤ 7302232 → W p l e room_1 s m args below meth c H locs cells slots Q (F0 m pc ls [.int 1])) → W p l e room_1 s m args below meth c H locs cells slots Q (F0 m pc ls (st.map (zv al))) := k p l e s m args below meth c al CA D H locs cells slots Q ls
theorem zA_iff {al : Nat → Nat} (hm : ∀ i, 1 ≤ i → al 1 ≤ al i) {q : Nat} (h : zA al q) : al 1 ≤ q := by
  obtain ⟨i, h1, h2⟩ := h
  exact Nat.le_trans (hm i h1) h2
theorem zLw_pure {x pc : Nat} {L : zL} {st : List Value} {h h3 : zH} (k : zruns zTB zLAW pc L st h (some (.int 1), h3)) (hr : h3.length + h.length + x ≤ 600002 ∧ zss h3 + zss h + 6 * x ≤ 7302232) : zLw x pc L st h := by
  intro p l e s m args below meth c al CA D H locs cells slots Q ls _ X hH hL hlo hm _ hc hs hend
  obtain ⟨n, hn⟩ := k
  have hR : room_1.cells = 600002 ∧ room_1.slots = 7302232 := ⟨rfl, rfl⟩
  refine zwalk l n zLAW pc L st h _ (by decide) hn X hH hL hlo ⟨?_, ?_⟩ ?_
  · show cells + (h3.length - h.length) ≤ room_1.cells
    rw [hR.1]; omega
  · show slots + (zss h3 - zss h) ≤ room_1.slots
    rw [hR.2]; omega
  · intro pc' i ax L' st' H' ls' locs' hok hrt hH' hlo'
    rcases zbase_ret hrt with ⟨hi, v2, rfl, hrr, hk⟩ | ⟨hi, v2, rfl, hrr, hk⟩ | ⟨hi, v2, rfl, hrr, hk⟩ | ⟨hi, v2, rfl, hrr, hk⟩ | ⟨hi, rfl, hrr, hk⟩
    · have hv2 : v2 = 1 := by
        have := congrArg Prod.fst hrr
        simp at this
        exact this.symm
      subst hv2
      subst hi
      exact hend pc' H' ls' locs' _ _ (zdc_of hok rfl) (fun q hq => zA_iff hm (hlo' q hq)) (by show cells + (h3.length - h.length) ≤ 600002; omega) (by show slots + (zss h3 - zss h) ≤ 7302232; omega)
    · simp at hrr
    · simp at hrr
    · simp at hrr
    · simp at hrr
theorem zgt_le {y pc : Nat} {L : zL} {st : List Value} {h : zH} {S : zS} (k : zgt y pc L st h S) : zle h S.2.2.2 := by
  obtain ⟨m0, n, hn⟩ := k
  exact zgoes_le n hn
theorem zLw_gt {x pc : Nat} {L : zL} {st : List Value} {h : zH} {S : zS} (k : zgt zLAW pc L st h S) (hr : S.2.2.2.length + x ≤ 600002 ∧ zss S.2.2.2 + 6 * x ≤ 7302232) (kk : zLw x S.1 S.2.1 S.2.2.1 S.2.2.2) : zLw x pc L st h := by
  intro p l e s m args below meth c al CA D H locs cells slots Q ls hl X hH hL hlo hm hx hc hs hend
  have hle := zgt_le k
  have h1 := hle.1
  have h2 := hle.2
  refine zgtW k (by decide) X hH hL hlo ⟨?_, ?_⟩ ?_
  · show cells + (S.2.2.2.length - h.length) ≤ 600002
    omega
  · show slots + (zss S.2.2.2 - zss h) ≤ 7302232
    omega
  · intro H' ls' locs' hH' hL' hlo'
    exact zLw_use kk hl X hH' hL' hlo' hm hx (by omega) (by omega) hend
/-- what a call of a wrapper wants of the tables -/
def zWok (w ix pc n : Nat) (hh : List (Nat × Nat × Nat × Nat)) : Prop := w < znm ∧ Cond.methodLink "NightjarLaw" ix (zMt w).1 ∈ zall ∧ Cond.static (zMt w).1 ∈ zall ∧ Cond.initialized (zMt w).1.cls ∈ zall ∧ Cond.codeWith (zMt w).1 (zMt w).2.1 (zMt w).2.2.1 (zMt w).2.2.2.1 hh ∈ zall ∧ decode (zMt zLAW).2.1 pc = .ok (.invokestatic ix, 3) ∧ ((zMt w).1.cls ≠ "java/lang/invoke/MethodHandle" ∧ (zMt w).1.cls ≠ "java/lang/invoke/VarHandle" ∧ (parseMethodDescriptor (zMt w).1.desc).map (fun d => d.parameters.length) = some n) ∧ (zMt w).2.2.2.2.1 ≤ 7 ∧ (zMt w).2.2.1 ≤ 10 ∧ (zMt w).2.2.2.2.2 ≤ 200
theorem zWok_in {w ix pc n : Nat} {hh : List (Nat × Nat × Nat × Nat)} (k : zWok w ix pc n hh) : GoodIn zall (va_wsS "NightjarLaw" ix (zMt w).1 (zwsW w hh)) := by
  obtain ⟨-, k1, k2, k3, k4, -⟩ := k
  have hg : ∀ x : Jvm.Cond, x ∈ zall → x ∈ zall ∧ ((x.onTables && x.keeps) = true ∨ ∃ ty, x = .arrayClass ty) := fun x hx => ⟨hx, zgood hx⟩
  intro x hx
  unfold va_wsS zwsW at hx
  rcases List.mem_append.mp hx with hx | hx
  · simp only [List.mem_cons, List.not_mem_nil, or_false] at hx
    rcases hx with rfl | rfl | rfl
    · exact hg _ k1
    · exact hg _ k2
    · exact hg _ k3
  · rcases List.mem_cons.mp hx with rfl | hx
    · exact hg _ k4
    · exact hg _ hx
theorem zLw_ret {x pc w ix n : Nat} {L : zL} {As : List Value} {h h' : zH} {v : Int32} {hh : List (Nat × Nat × Nat × Nat)} (kw : zWok w ix pc n hh) (hn : As.length = n) (hret : (zMt w).2.2.2.1 = some .int) (hc : zcalls zTB w As h (some (.int v), h')) (hr : h'.length + x ≤ 600002 ∧ zss h' + 6 * x ≤ 7302232) (kk : zLw x (pc + 3) L [.int v] h') : zLw x pc L As.reverse h := by
  intro p l e s m args below meth c al CA D H locs cells slots Q ls hl X hH hL hlo hm hx hcl hsl hend
  have hM := zmetWR (l := l) (hh := hh) kw.1 hret hc al CA D X.2.2.2.2.2.2.1
  have hle : zle h h' := by
    obtain ⟨_, n, hn⟩ := hc
    exact zrun_le n hn
  have h1 := hle.1
  have h2 := hle.2
  have X0 := X
  obtain ⟨hx0, hb, hml, hown, hts, hK, hal, hfr, hlc, -⟩ := X
  obtain ⟨w1, w2, w3, w4, w5, w6, w7, w8, w9, w10⟩ := id kw
  have key : va_Run p l e room_1 s m args below meth c H locs cells slots (h'.length - h.length) (zss h' - zss h) (F0 m pc ls (As.reverse.map (zv al))) ([] : List Value) (zQ al CA D (some (.int v), h') (As.map (zv al)).toArray) (zA al) :=
    vx_runSW (own := "NightjarLaw") (As := As.map (zv al)) (rest := []) (n := n) (index := ix) ⟨hx0, hb, hml, hown, hts⟩ hM (vx_cwSW n hts (zWok_in kw) rfl rfl rfl w7 ⟨by show (zMt w).2.2.2.2.1 + 1 ≤ 11; omega, by show 8 + ((zMt w).2.2.1 + 11) + (zMt w).2.2.2.2.2 ≤ 406; omega⟩) ⟨zPc_blind, zPre hK hH _ rfl⟩ rfl (by rw [List.length_map]; exact hn) hL.2.1 (by show As.reverse.map (zv al) = _; rw [List.map_reverse, List.append_nil]) (by show 2 * 0 + 0 ≤ 8; omega) w6 ⟨by show cells + (h'.length - h.length) ≤ 600002; omega, by show slots + (zss h' - zss h) ≤ 7302232; omega⟩
  refine zrunW key hlo fun H' locs' hH' hlo' => ?_
  exact zLw_use kk hl X0 hH' hL hlo' hm hx (by omega) (by omega) hend
theorem zLw_catch {x pc w ix n : Nat} {L : zL} {As : List Value} {h : zH} {v : Int32} {hh : List (Nat × Nat × Nat × Nat)} (kw : zWok w ix pc n hh) (hn : As.length = n) (hM0 : ∀ l : Launch, l.stackTraces = false → ∀ (al : Nat → Nat) (CA : Nat → ClassId) (D : va_G), zal al → Met l (zMt w).1 (zwsW w hh) (zrmW w) (zPcX al CA D As h) (zQX al CA D v h) 1 6 (zA al)) (hcl : zclH h.length h = true) (hcL : zclL h.length L = true) (h1 : 2 ≤ h.length) (hr : h.length + x + 1 ≤ 600002 ∧ zss h + 6 * x + 6 ≤ 7302232) (kk : zLw (x + 1) (pc + 3) L [.int v] h) : zLw x pc L As.reverse h := by
  intro p l e s m args below meth c al CA D H locs cells slots Q ls hl X hH hL hlo hm hx hcc hsl hend
  have hM := hM0 l hl al CA D X.2.2.2.2.2.2.1
  obtain ⟨hx0, hb, hml, hown, hts, hK, hal, hfr, hlc, hinit⟩ := X
  obtain ⟨w1, w2, w3, w4, w5, w6, w7, w8, w9, w10⟩ := id kw
  refine zW_frame fun f1 f2 => ?_
  have hkeep : ∀ q : Nat, q < s.heap.size → ¬ zA al q → H[q]? = s.heap[q]? := fun q hq hnz => f2 q hq fun z hz hbz => hnz (hbz ▸ hlo z hz)
  have key : va_Run p l e room_1 s m args below meth c H locs cells slots 1 6 (F0 m pc ls (As.reverse.map (zv al))) ([] : List Value) (zQX al CA D v h (As.map (zv al)).toArray) (zA al) :=
    vx_runSW (own := "NightjarLaw") (As := As.map (zv al)) (rest := []) (n := n) (index := ix) ⟨hx0, hb, hml, hown, hts⟩ hM (vx_cwSW n hts (zWok_in kw) rfl rfl rfl w7 ⟨by show max (zMt w).2.2.2.2.1 7 + 1 ≤ 11; omega, by show 8 + ((zMt w).2.2.1 + 11) + max (zMt w).2.2.2.2.2 130 ≤ 406; omega⟩) ⟨zPcX_blind, fun U hU hW => ⟨rfl, ⟨by rw [hU]; exact hH, zK_warm hW hK⟩, zX_at hW hkeep hU hx⟩⟩ rfl (by rw [List.length_map]; exact hn) hL.2.1 (by show As.reverse.map (zv al) = _; rw [List.map_reverse, List.append_nil]) (by show 2 * 0 + 0 ≤ 8; omega) w6 ⟨by show cells + 1 ≤ 600002; omega, by show slots + 6 ≤ 7302232; omega⟩
  intro T hT XT
  obtain ⟨v2, st₀, t, T', L1, h0, X', hL1, e1, e2, hq, st⟩ := key T hT XT
  obtain ⟨ho, hsz, hcells⟩ := hq
  have hv2 : v2 = some (.int v) := by simpa using ho
  subst hv2
  rw [← e1] at hsz hcells
  obtain ⟨al', hal'⟩ : ∃ al' : Nat → Nat, al' = fun i => if i < h.length then al i else T'.heap.size + (i - h.length) := ⟨_, rfl⟩
  have ha1 : ∀ i, i < h.length → al' i = al i := fun i hi => by rw [hal']; exact if_pos hi
  have ha2 : ∀ i, h.length ≤ i → al' i = T'.heap.size + (i - h.length) := fun i hi => by rw [hal']; exact if_neg (by omega)
  have hlt : ∀ i, i < h.length → al i < T'.heap.size := fun i hi => zAt_lt (hcells i _ (List.getElem?_eq_getElem hi))
  have hzal : zal al' := by
    refine ⟨fun i j hij => ?_, trivial⟩
    rcases Nat.lt_or_ge i h.length with hi | hi <;> rcases Nat.lt_or_ge j h.length with hj | hj
    · rw [ha1 i hi, ha1 j hj] at hij
      exact hal.1 i j hij
    · rw [ha1 i hi, ha2 j hj] at hij
      have := hlt i hi
      omega
    · rw [ha2 i hi, ha1 j hj] at hij
      have := hlt j hj
      omega
    · rw [ha2 i hi, ha2 j hj] at hij
      omega
  have hm' : ∀ i, 1 ≤ i → al' 1 ≤ al' i := fun i hi => by
    rw [ha1 1 (by omega)]
    rcases Nat.lt_or_ge i h.length with q | q
    · rw [ha1 i q]
      exact hm i hi
    · rw [ha2 i q]
      have := hlt 1 (by omega)
      omega
  have hA : ∀ q, zA al' q → zA al q := fun q hq => ⟨1, Nat.le_refl 1, by
    have := zA_iff hm' hq
    rwa [ha1 1 (by omega)] at this⟩
  have hA2 : ∀ q, zA al q → zA al' q := fun q hq => ⟨1, Nat.le_refl 1, by
    rw [ha1 1 (by omega)]
    exact zA_iff hm hq⟩
  have hHH : zHH al' CA D h T'.heap := by
    refine ⟨⟨by omega, fun i hi => by rw [ha2 i hi, ha2 (i + 1) (by omega)]; omega⟩, by rw [ha2 _ (Nat.le_refl _)]; omega, fun i e0 he => ?_⟩
    have hi : i < h.length := (List.getElem?_eq_some_iff.mp he).1
    rcases hcells i e0 he with ⟨g1, g2⟩ | ⟨rfl, n1, f1, e1, g2⟩
    · refine Or.inl ⟨g1, ?_⟩
      rw [ha1 i hi, zmc_alike ha1 hcl he]
      exact g2
    · exact Or.inr ⟨rfl, n1, f1, e1, by rw [ha1 0 hi]; exact g2⟩
  have hX' : zX al' s s.heap := ⟨hx.1.narrow hA, hx.2.1.narrow hA, hx.2.2⟩
  obtain ⟨t2, a1, b1⟩ := zLw_use kk (al := al') (cells := cells + 1) (slots := slots + 6) (locs := locs ++ L1) (Q := Q) (ls := ls) hl ⟨hx0, hb, hml, hown, hts, hK, hzal, hfr, hlc, hinit⟩ hHH (zLh_alike ha1 hcL hL) (fun q hq => hA2 _ ((List.mem_append.mp hq).elim (hlo q) (hL1 q))) hm' hX' (by omega) (by omega) (fun pc2 H2 ls2 locs2 c2 s2 g1 g2 g3 g4 => hend pc2 H2 ls2 locs2 c2 s2 g1 (by rw [ha1 1 (by omega)] at g2; exact g2) g3 g4) T' rfl X'
  exact ⟨t2, st t2 a1, b1⟩

/-! one instruction of the pure machine, on the machine -/
theorem zdc_of {y pc : Nat} {i : Instr} {ax : List Nat} (h : zOK y pc i ax = true) (hw : zsw i = false) : decode (zMt y).2.1 pc = .ok (i, zlen i) := by
  simp only [zOK, Bool.and_eq_true] at h
  have h1 := h.1
  unfold zdc at h1
  split at h1
  · rename_i q hq
    simp only [Bool.and_eq_true, decide_eq_true_eq, Bool.or_eq_true, hw, Bool.false_eq_true, false_or] at h1
    exact hq.trans (congrArg Except.ok (Prod.ext h1.1 h1.2))
  · simp at h1
theorem zdc_sw {y pc : Nat} {i : Instr} {ax : List Nat} (h : zOK y pc i ax = true) : ∃ n, decode (zMt y).2.1 pc = .ok (i, n) := by
  simp only [zOK, Bool.and_eq_true] at h
  have h1 := h.1
  unfold zdc at h1
  split at h1
  · rename_i q hq
    simp only [Bool.and_eq_true, decide_eq_true_eq] at h1
    exact ⟨q.2, by rw [hq, ← h1.1]⟩
  · simp at h1
theorem zw_mem {p : Nat} {w : Jvm.Cond} (h : zw p w = true) : w ∈ zall := by
  unfold zw at h
  simp only [decide_eq_true_eq] at h
  exact zchk_in _ w (List.mem_of_getElem? h)
theorem zcl_at {c : Nat} (h : c < zcl.length) : zcl[c]? = some (zcN c, zcF c, zcK c) := by
  unfold zcN zcF zcK
  rw [List.getD_eq_getElem?_getD, List.getElem?_eq_getElem h]
  rfl
/-- what holds all along a method's run -/
def zCtx (p : Program) (R : Room) (s : State) (m : MethodId) (args : Array Value) (meth : Method) (c : Code) (al : Nat → Nat) (CA : Nat → ClassId) (D : va_G) (y : Nat) : Prop :=
  p.tables.exec = Jvm.exec ∧ c.code = (zMt y).2.1 ∧ c.maxLocals = (zMt y).2.2.1 ∧ s.vm.findClass (zMt y).1.cls = some m.cls ∧ (∀ w ∈ zall, w.before args s = true) ∧ zK D CA s ∧ zal al ∧ (zMt y).2.2.2.2.1 ≤ R.frames ∧ (zMt y).2.2.2.2.2 ≤ R.locals ∧ ((zMt y).1.name = "<init>" → meth.name = "<init>")
section ZST
variable {p : Program} {l : Launch} {e : Env} {R : Room} {s : State} {m : MethodId} {args : Array Value} {below : List Frame} {meth : Method} {c : Code} {H : Heap} {locs : List Loc} {cells slots : Nat} {Q : State → Prop}
variable {al : Nat → Nat} {CA : Nat → ClassId} {D : va_G} {y pc : Nat} {ls : Array Slot} {ax : List Nat} {L : zL} {st : List Value} {h : zH} {x : zR ⊕ zS} {kr : Nat}
/-- how it goes on -/
def zGo (p : Program) (l : Launch) (e : Env) (R : Room) (s : State) (m : MethodId) (args : Array Value) (below : List Frame) (meth : Method) (c : Code) (cells slots : Nat) (Q : State → Prop) (al : Nat → Nat) (CA : Nat → ClassId) (D : va_G) (y : Nat) (h : zH) (x : zR ⊕ zS) : Prop :=
  ∀ (pc' : Nat) (L' : zL) (st' : List Value) (h' : zH), x = .inr (pc', L', st', h') → ∀ (H' : Heap) (ls' : Array Slot) (locs' : List Loc), zHH al CA D h' H' → zLh al ls' (zMt y).2.2.1 L' → (∀ q ∈ locs', zA al q.base) → W p l e R s m args below meth c H' locs' (cells + (h'.length - h.length)) (slots + (zss h' - zss h)) Q (F0 m pc' ls' (st'.map (zv al)))
theorem zGo.same (k : zGo p l e R s m args below meth c cells slots Q al CA D y h x) (hH : zHH al CA D h H) (hlo : ∀ q ∈ locs, zA al q.base) {pc' : Nat} {L' : zL} {st' : List Value} (hx : some (Sum.inr (pc', L', st', h) : zR ⊕ zS) = some x) {ls' : Array Slot} (hL : zLh al ls' (zMt y).2.2.1 L') : W p l e R s m args below meth c H locs cells slots Q (F0 m pc' ls' (st'.map (zv al))) := by
  have := k pc' L' st' h (Option.some.inj hx).symm H ls' locs hH hL hlo
  rwa [Nat.sub_self, Nat.sub_self, Nat.add_zero, Nat.add_zero] at this
theorem zGo.put (k : zGo p l e R s m args below meth c cells slots Q al CA D y h x) {H' : Heap} {locs' : List Loc} {i : Nat} {e0 e' : zE} (he : h[i]? = some e0) (hz : zsz e' = zsz e0) (hH : zHH al CA D (h.set i e') H') (hlo : ∀ q ∈ locs', zA al q.base) {pc' : Nat} {L' : zL} {st' : List Value} (hx : some (Sum.inr (pc', L', st', h.set i e') : zR ⊕ zS) = some x) {ls' : Array Slot} (hL : zLh al ls' (zMt y).2.2.1 L') : W p l e R s m args below meth c H' locs' cells slots Q (F0 m pc' ls' (st'.map (zv al))) := by
  have := k pc' L' st' _ (Option.some.inj hx).symm H' ls' locs' hH hL hlo
  rwa [List.length_set, zss_set h i e0 e' he hz, Nat.sub_self, Nat.sub_self, Nat.add_zero, Nat.add_zero] at this
theorem zGo.app (k : zGo p l e R s m args below meth c cells slots Q al CA D y h x) {H' : Heap} {e' : zE} (hH : zHH al CA D (h ++ [e']) H') (hlo : ∀ q ∈ locs, zA al q.base) {pc' : Nat} {L' : zL} {st' : List Value} (hx : some (Sum.inr (pc', L', st', h ++ [e']) : zR ⊕ zS) = some x) {ls' : Array Slot} (hL : zLh al ls' (zMt y).2.2.1 L') : W p l e R s m args below meth c H' locs (cells + 1) (slots + zsz e') Q (F0 m pc' ls' (st'.map (zv al))) := by
  have := k pc' L' st' _ (Option.some.inj hx).symm H' ls' locs hH hL hlo
  rwa [List.length_append, zss_app, Nat.add_sub_cancel_left, Nat.add_sub_cancel_left] at this

theorem zs_iconst {n : Int} (X : zCtx p R s m args meth c al CA D y) (hok : zOK y pc (.iconst n) ax = true) (hs : zbase kr pc (.iconst n) ax L st h = some x) (hH : zHH al CA D h H) (hL : zLh al ls (zMt y).2.2.1 L) (hlo : ∀ q ∈ locs, zA al q.base) (k : zGo p l e R s m args below meth c cells slots Q al CA D y h x) : W p l e R s m args below meth c H locs cells slots Q (F0 m pc ls (st.map (zv al))) := by
  have hd := zdc_of hok rfl
  obtain ⟨hx, hb, -⟩ := X
  simp only [zbase, zgo] at hs
  exact lv_iconst hx hb hd rfl (k.same hH hlo hs hL)
theorem zs_bipush {n : Int} (X : zCtx p R s m args meth c al CA D y) (hok : zOK y pc (.bipush n) ax = true) (hs : zbase kr pc (.bipush n) ax L st h = some x) (hH : zHH al CA D h H) (hL : zLh al ls (zMt y).2.2.1 L) (hlo : ∀ q ∈ locs, zA al q.base) (k : zGo p l e R s m args below meth c cells slots Q al CA D y h x) : W p l e R s m args below meth c H locs cells slots Q (F0 m pc ls (st.map (zv al))) := by
  have hd := zdc_of hok rfl
  obtain ⟨hx, hb, -⟩ := X
  simp only [zbase, zgo] at hs
  exact lv_bipush hx hb hd rfl (k.same hH hlo hs hL)
theorem zs_sipush {n : Int} (X : zCtx p R s m args meth c al CA D y) (hok : zOK y pc (.sipush n) ax = true) (hs : zbase kr pc (.sipush n) ax L st h = some x) (hH : zHH al CA D h H) (hL : zLh al ls (zMt y).2.2.1 L) (hlo : ∀ q ∈ locs, zA al q.base) (k : zGo p l e R s m args below meth c cells slots Q al CA D y h x) : W p l e R s m args below meth c H locs cells slots Q (F0 m pc ls (st.map (zv al))) := by
  have hd := zdc_of hok rfl
  obtain ⟨hx, hb, -⟩ := X
  simp only [zbase, zgo] at hs
  exact lv_sipush hx hb hd rfl (k.same hH hlo hs hL)
theorem zs_lconst {n : Fin 2} (X : zCtx p R s m args meth c al CA D y) (hok : zOK y pc (.lconst n) ax = true) (hs : zbase kr pc (.lconst n) ax L st h = some x) (hH : zHH al CA D h H) (hL : zLh al ls (zMt y).2.2.1 L) (hlo : ∀ q ∈ locs, zA al q.base) (k : zGo p l e R s m args below meth c cells slots Q al CA D y h x) : W p l e R s m args below meth c H locs cells slots Q (F0 m pc ls (st.map (zv al))) := by
  have hd := zdc_of hok rfl
  obtain ⟨hx, hb, -⟩ := X
  simp only [zbase, zgo] at hs
  exact lv_lconst hx hb hd rfl (k.same hH hlo hs hL)
theorem zs_dconst {n : Fin 2} (X : zCtx p R s m args meth c al CA D y) (hok : zOK y pc (.dconst n) ax = true) (hs : zbase kr pc (.dconst n) ax L st h = some x) (hH : zHH al CA D h H) (hL : zLh al ls (zMt y).2.2.1 L) (hlo : ∀ q ∈ locs, zA al q.base) (k : zGo p l e R s m args below meth c cells slots Q al CA D y h x) : W p l e R s m args below meth c H locs cells slots Q (F0 m pc ls (st.map (zv al))) := by
  have hd := zdc_of hok rfl
  obtain ⟨hx, hb, -⟩ := X
  simp only [zbase, zgo] at hs
  split at hs
  · rename_i q
    subst q
    exact lv_dconst0 hx hb hd (k.same hH hlo hs hL)
  · simp at hs
theorem zs_ldc {n : Nat} (X : zCtx p R s m args meth c al CA D y) (hok : zOK y pc (.ldc n) ax = true) (hs : zbase kr pc (.ldc n) ax L st h = some x) (hH : zHH al CA D h H) (hL : zLh al ls (zMt y).2.2.1 L) (hlo : ∀ q ∈ locs, zA al q.base) (k : zGo p l e R s m args below meth c cells slots Q al CA D y h x) : W p l e R s m args below meth c H locs cells slots Q (F0 m pc ls (st.map (zv al))) := by
  have hd := zdc_of hok rfl
  obtain ⟨hx, hb, -, hown, hts, -⟩ := X
  simp only [zbase, zgo] at hs
  split at hs
  · rename_i v r
    simp only [zOK, Bool.and_eq_true] at hok
    have h2 := hok.2
    cases r with
    | nil => simp at h2
    | cons q r => exact lv_ldc hx hb hown (hts _ (zw_mem h2)) hd (k.same hH hlo hs hL)
  · simp at hs
theorem zs_ldc_w {n : Nat} (X : zCtx p R s m args meth c al CA D y) (hok : zOK y pc (.ldc_w n) ax = true) (hs : zbase kr pc (.ldc_w n) ax L st h = some x) (hH : zHH al CA D h H) (hL : zLh al ls (zMt y).2.2.1 L) (hlo : ∀ q ∈ locs, zA al q.base) (k : zGo p l e R s m args below meth c cells slots Q al CA D y h x) : W p l e R s m args below meth c H locs cells slots Q (F0 m pc ls (st.map (zv al))) := by
  have hd := zdc_of hok rfl
  obtain ⟨hx, hb, -, hown, hts, -⟩ := X
  simp only [zbase, zgo] at hs
  split at hs
  · rename_i v r
    simp only [zOK, Bool.and_eq_true] at hok
    have h2 := hok.2
    cases r with
    | nil => simp at h2
    | cons q r => exact lv_ldcw hx hb hown (hts _ (zw_mem h2)) hd (k.same hH hlo hs hL)
  · simp at hs
theorem zs_ldc2_w {n : Nat} (X : zCtx p R s m args meth c al CA D y) (hok : zOK y pc (.ldc2_w n) ax = true) (hs : zbase kr pc (.ldc2_w n) ax L st h = some x) (hH : zHH al CA D h H) (hL : zLh al ls (zMt y).2.2.1 L) (hlo : ∀ q ∈ locs, zA al q.base) (k : zGo p l e R s m args below meth c cells slots Q al CA D y h x) : W p l e R s m args below meth c H locs cells slots Q (F0 m pc ls (st.map (zv al))) := by
  have hd := zdc_of hok rfl
  obtain ⟨hx, hb, -, hown, hts, -⟩ := X
  simp only [zbase, zgo] at hs
  split at hs
  · rename_i v r
    simp only [zOK, Bool.and_eq_true] at hok
    have h2 := hok.2
    cases r with
    | nil => simp at h2
    | cons q r => exact lv_ldc2 hx hb hown (hts _ (zw_mem h2)) hd (k.same hH hlo hs hL)
  · simp at hs
theorem zs_iload {n : Nat} (X : zCtx p R s m args meth c al CA D y) (hok : zOK y pc (.iload n) ax = true) (hs : zbase kr pc (.iload n) ax L st h = some x) (hH : zHH al CA D h H) (hL : zLh al ls (zMt y).2.2.1 L) (hlo : ∀ q ∈ locs, zA al q.base) (k : zGo p l e R s m args below meth c cells slots Q al CA D y h x) : W p l e R s m args below meth c H locs cells slots Q (F0 m pc ls (st.map (zv al))) := by
  have hd := zdc_of hok rfl
  obtain ⟨hx, hb, -⟩ := X
  simp only [zbase, zloadI, zgo] at hs
  split at hs
  · rename_i v hv
    exact lv_iload hx hb hd (zLh_at hL hv) (k.same hH hlo hs hL)
  · simp at hs
theorem zs_iload_n {n : Fin 4} (X : zCtx p R s m args meth c al CA D y) (hok : zOK y pc (.iload_n n) ax = true) (hs : zbase kr pc (.iload_n n) ax L st h = some x) (hH : zHH al CA D h H) (hL : zLh al ls (zMt y).2.2.1 L) (hlo : ∀ q ∈ locs, zA al q.base) (k : zGo p l e R s m args below meth c cells slots Q al CA D y h x) : W p l e R s m args below meth c H locs cells slots Q (F0 m pc ls (st.map (zv al))) := by
  have hd := zdc_of hok rfl
  obtain ⟨hx, hb, -⟩ := X
  simp only [zbase, zloadI, zgo] at hs
  split at hs
  · rename_i v hv
    exact lv_iload_n hx hb hd rfl (zLh_at hL hv) (k.same hH hlo hs hL)
  · simp at hs
theorem zs_lload {n : Nat} (X : zCtx p R s m args meth c al CA D y) (hok : zOK y pc (.lload n) ax = true) (hs : zbase kr pc (.lload n) ax L st h = some x) (hH : zHH al CA D h H) (hL : zLh al ls (zMt y).2.2.1 L) (hlo : ∀ q ∈ locs, zA al q.base) (k : zGo p l e R s m args below meth c cells slots Q al CA D y h x) : W p l e R s m args below meth c H locs cells slots Q (F0 m pc ls (st.map (zv al))) := by
  have hd := zdc_of hok rfl
  obtain ⟨hx, hb, -⟩ := X
  simp only [zbase, zloadL, zgo] at hs
  split at hs
  · rename_i v hv
    exact lv_lload hx hb hd (zLh_at hL hv) (k.same hH hlo hs hL)
  · simp at hs
theorem zs_lload_n {n : Fin 4} (X : zCtx p R s m args meth c al CA D y) (hok : zOK y pc (.lload_n n) ax = true) (hs : zbase kr pc (.lload_n n) ax L st h = some x) (hH : zHH al CA D h H) (hL : zLh al ls (zMt y).2.2.1 L) (hlo : ∀ q ∈ locs, zA al q.base) (k : zGo p l e R s m args below meth c cells slots Q al CA D y h x) : W p l e R s m args below meth c H locs cells slots Q (F0 m pc ls (st.map (zv al))) := by
  have hd := zdc_of hok rfl
  obtain ⟨hx, hb, -⟩ := X
  simp only [zbase, zloadL, zgo] at hs
  split at hs
  · rename_i v hv
    exact lv_lload_n hx hb hd rfl (zLh_at hL hv) (k.same hH hlo hs hL)
  · simp at hs
theorem zs_dload {n : Nat} (X : zCtx p R s m args meth c al CA D y) (hok : zOK y pc (.dload n) ax = true) (hs : zbase kr pc (.dload n) ax L st h = some x) (hH : zHH al CA D h H) (hL : zLh al ls (zMt y).2.2.1 L) (hlo : ∀ q ∈ locs, zA al q.base) (k : zGo p l e R s m args below meth c cells slots Q al CA D y h x) : W p l e R s m args below meth c H locs cells slots Q (F0 m pc ls (st.map (zv al))) := by
  have hd := zdc_of hok rfl
  obtain ⟨hx, hb, -⟩ := X
  simp only [zbase, zloadD, zgo] at hs
  split at hs
  · rename_i v hv
    exact lv_dload hx hb hd (zLh_at hL hv) (k.same hH hlo hs hL)
  · simp at hs
theorem zs_dload_n {n : Fin 4} (X : zCtx p R s m args meth c al CA D y) (hok : zOK y pc (.dload_n n) ax = true) (hs : zbase kr pc (.dload_n n) ax L st h = some x) (hH : zHH al CA D h H) (hL : zLh al ls (zMt y).2.2.1 L) (hlo : ∀ q ∈ locs, zA al q.base) (k : zGo p l e R s m args below meth c cells slots Q al CA D y h x) : W p l e R s m args below meth c H locs cells slots Q (F0 m pc ls (st.map (zv al))) := by
  have hd := zdc_of hok rfl
  obtain ⟨hx, hb, -⟩ := X
  simp only [zbase, zloadD, zgo] at hs
  split at hs
  · rename_i v hv
    exact lv_dload_n hx hb hd rfl (zLh_at hL hv) (k.same hH hlo hs hL)
  · simp at hs
theorem zs_aload {n : Nat} (X : zCtx p R s m args meth c al CA D y) (hok : zOK y pc (.aload n) ax = true) (hs : zbase kr pc (.aload n) ax L st h = some x) (hH : zHH al CA D h H) (hL : zLh al ls (zMt y).2.2.1 L) (hlo : ∀ q ∈ locs, zA al q.base) (k : zGo p l e R s m args below meth c cells slots Q al CA D y h x) : W p l e R s m args below meth c H locs cells slots Q (F0 m pc ls (st.map (zv al))) := by
  have hd := zdc_of hok rfl
  obtain ⟨hx, hb, -⟩ := X
  simp only [zbase, zloadA, zgo] at hs
  split at hs
  · rename_i v hv
    exact lv_aload hx hb hd (zLh_at hL hv) (k.same hH hlo hs hL)
  · simp at hs
theorem zs_aload_n {n : Fin 4} (X : zCtx p R s m args meth c al CA D y) (hok : zOK y pc (.aload_n n) ax = true) (hs : zbase kr pc (.aload_n n) ax L st h = some x) (hH : zHH al CA D h H) (hL : zLh al ls (zMt y).2.2.1 L) (hlo : ∀ q ∈ locs, zA al q.base) (k : zGo p l e R s m args below meth c cells slots Q al CA D y h x) : W p l e R s m args below meth c H locs cells slots Q (F0 m pc ls (st.map (zv al))) := by
  have hd := zdc_of hok rfl
  obtain ⟨hx, hb, -⟩ := X
  simp only [zbase, zloadA, zgo] at hs
  split at hs
  · rename_i v hv
    exact lv_aload_n hx hb hd rfl (zLh_at hL hv) (k.same hH hlo hs hL)
  · simp at hs
theorem zs_istore {n : Nat} (X : zCtx p R s m args meth c al CA D y) (hok : zOK y pc (.istore n) ax = true) (hs : zbase kr pc (.istore n) ax L st h = some x) (hH : zHH al CA D h H) (hL : zLh al ls (zMt y).2.2.1 L) (hlo : ∀ q ∈ locs, zA al q.base) (k : zGo p l e R s m args below meth c cells slots Q al CA D y h x) : W p l e R s m args below meth c H locs cells slots Q (F0 m pc ls (st.map (zv al))) := by
  have hd := zdc_of hok rfl
  obtain ⟨hx, hb, -⟩ := X
  simp only [zbase, zstoreI, zgo] at hs
  split at hs
  · split at hs
    · rename_i v _ hn
      rw [hL.1] at hn
      exact lv_istore hx hb hd hL.2 hn rfl (fun ls2 h2 => k.same hH hlo hs (zst1_has hL.1 hn h2))
    · simp at hs
  · simp at hs
theorem zs_istore_n {n : Fin 4} (X : zCtx p R s m args meth c al CA D y) (hok : zOK y pc (.istore_n n) ax = true) (hs : zbase kr pc (.istore_n n) ax L st h = some x) (hH : zHH al CA D h H) (hL : zLh al ls (zMt y).2.2.1 L) (hlo : ∀ q ∈ locs, zA al q.base) (k : zGo p l e R s m args below meth c cells slots Q al CA D y h x) : W p l e R s m args below meth c H locs cells slots Q (F0 m pc ls (st.map (zv al))) := by
  have hd := zdc_of hok rfl
  obtain ⟨hx, hb, -⟩ := X
  simp only [zbase, zstoreI, zgo] at hs
  split at hs
  · split at hs
    · rename_i v _ hn
      rw [hL.1] at hn
      exact lv_istore_n hx hb hd rfl hL.2 hn rfl (fun ls2 h2 => k.same hH hlo hs (zst1_has hL.1 hn h2))
    · simp at hs
  · simp at hs
theorem zs_astore {n : Nat} (X : zCtx p R s m args meth c al CA D y) (hok : zOK y pc (.astore n) ax = true) (hs : zbase kr pc (.astore n) ax L st h = some x) (hH : zHH al CA D h H) (hL : zLh al ls (zMt y).2.2.1 L) (hlo : ∀ q ∈ locs, zA al q.base) (k : zGo p l e R s m args below meth c cells slots Q al CA D y h x) : W p l e R s m args below meth c H locs cells slots Q (F0 m pc ls (st.map (zv al))) := by
  have hd := zdc_of hok rfl
  obtain ⟨hx, hb, -⟩ := X
  simp only [zbase, zstoreA, zgo] at hs
  split at hs
  · split at hs
    · rename_i v _ hn
      rw [hL.1] at hn
      exact lv_astore hx hb hd hL.2 hn rfl (fun ls2 h2 => k.same hH hlo hs (zst1_has hL.1 hn h2))
    · simp at hs
  · simp at hs
theorem zs_astore_n {n : Fin 4} (X : zCtx p R s m args meth c al CA D y) (hok : zOK y pc (.astore_n n) ax = true) (hs : zbase kr pc (.astore_n n) ax L st h = some x) (hH : zHH al CA D h H) (hL : zLh al ls (zMt y).2.2.1 L) (hlo : ∀ q ∈ locs, zA al q.base) (k : zGo p l e R s m args below meth c cells slots Q al CA D y h x) : W p l e R s m args below meth c H locs cells slots Q (F0 m pc ls (st.map (zv al))) := by
  have hd := zdc_of hok rfl
  obtain ⟨hx, hb, -⟩ := X
  simp only [zbase, zstoreA, zgo] at hs
  split at hs
  · split at hs
    · rename_i v _ hn
      rw [hL.1] at hn
      exact lv_astore_n hx hb hd rfl hL.2 hn rfl (fun ls2 h2 => k.same hH hlo hs (zst1_has hL.1 hn h2))
    · simp at hs
  · simp at hs
theorem zs_lstore {n : Nat} (X : zCtx p R s m args meth c al CA D y) (hok : zOK y pc (.lstore n) ax = true) (hs : zbase kr pc (.lstore n) ax L st h = some x) (hH : zHH al CA D h H) (hL : zLh al ls (zMt y).2.2.1 L) (hlo : ∀ q ∈ locs, zA al q.base) (k : zGo p l e R s m args below meth c cells slots Q al CA D y h x) : W p l e R s m args below meth c H locs cells slots Q (F0 m pc ls (st.map (zv al))) := by
  have hd := zdc_of hok rfl
  obtain ⟨hx, hb, -⟩ := X
  simp only [zbase, zstoreL, zgo] at hs
  split at hs
  · split at hs
    · rename_i v _ hn
      rw [hL.1] at hn
      exact lv_lstore hx hb hd hL.2 hn rfl (fun ls2 h2 => k.same hH hlo hs (zst2_has hL.1 hn h2))
    · simp at hs
  · simp at hs
theorem zs_lstore_n {n : Fin 4} (X : zCtx p R s m args meth c al CA D y) (hok : zOK y pc (.lstore_n n) ax = true) (hs : zbase kr pc (.lstore_n n) ax L st h = some x) (hH : zHH al CA D h H) (hL : zLh al ls (zMt y).2.2.1 L) (hlo : ∀ q ∈ locs, zA al q.base) (k : zGo p l e R s m args below meth c cells slots Q al CA D y h x) : W p l e R s m args below meth c H locs cells slots Q (F0 m pc ls (st.map (zv al))) := by
  have hd := zdc_of hok rfl
  obtain ⟨hx, hb, -⟩ := X
  simp only [zbase, zstoreL, zgo] at hs
  split at hs
  · split at hs
    · rename_i v _ hn
      rw [hL.1] at hn
      exact lv_lstore_n hx hb hd rfl hL.2 hn rfl (fun ls2 h2 => k.same hH hlo hs (zst2_has hL.1 hn h2))
    · simp at hs
  · simp at hs
theorem zs_dstore {n : Nat} (X : zCtx p R s m args meth c al CA D y) (hok : zOK y pc (.dstore n) ax = true) (hs : zbase kr pc (.dstore n) ax L st h = some x) (hH : zHH al CA D h H) (hL : zLh al ls (zMt y).2.2.1 L) (hlo : ∀ q ∈ locs, zA al q.base) (k : zGo p l e R s m args below meth c cells slots Q al CA D y h x) : W p l e R s m args below meth c H locs cells slots Q (F0 m pc ls (st.map (zv al))) := by
  have hd := zdc_of hok rfl
  obtain ⟨hx, hb, -⟩ := X
  simp only [zbase, zstoreD, zgo] at hs
  split at hs
  · split at hs
    · rename_i v _ hn
      rw [hL.1] at hn
      exact lv_dstore hx hb hd hL.2 hn rfl (fun ls2 h2 => k.same hH hlo hs (zst2_has hL.1 hn h2))
    · simp at hs
  · simp at hs
theorem zs_dstore_n {n : Fin 4} (X : zCtx p R s m args meth c al CA D y) (hok : zOK y pc (.dstore_n n) ax = true) (hs : zbase kr pc (.dstore_n n) ax L st h = some x) (hH : zHH al CA D h H) (hL : zLh al ls (zMt y).2.2.1 L) (hlo : ∀ q ∈ locs, zA al q.base) (k : zGo p l e R s m args below meth c cells slots Q al CA D y h x) : W p l e R s m args below meth c H locs cells slots Q (F0 m pc ls (st.map (zv al))) := by
  have hd := zdc_of hok rfl
  obtain ⟨hx, hb, -⟩ := X
  simp only [zbase, zstoreD, zgo] at hs
  split at hs
  · split at hs
    · rename_i v _ hn
      rw [hL.1] at hn
      exact lv_dstore_n hx hb hd rfl hL.2 hn rfl (fun ls2 h2 => k.same hH hlo hs (zst2_has hL.1 hn h2))
    · simp at hs
  · simp at hs
theorem zs_iinc {n : Nat} {z : Int} (X : zCtx p R s m args meth c al CA D y) (hok : zOK y pc (.iinc n z) ax = true) (hs : zbase kr pc (.iinc n z) ax L st h = some x) (hH : zHH al CA D h H) (hL : zLh al ls (zMt y).2.2.1 L) (hlo : ∀ q ∈ locs, zA al q.base) (k : zGo p l e R s m args below meth c cells slots Q al CA D y h x) : W p l e R s m args below meth c H locs cells slots Q (F0 m pc ls (st.map (zv al))) := by
  have hd := zdc_of hok rfl
  obtain ⟨hx, hb, -⟩ := X
  simp only [zbase, zgo] at hs
  split at hs
  · rename_i v hv
    split at hs
    · rename_i hn
      rw [hL.1] at hn
      obtain ⟨j, hj⟩ := List.getElem?_of_mem (zLl_mem (al := al).mpr ⟨_, hv, rfl⟩)
      exact lv_iinc hx hb hd hL.2 hj rfl hn rfl (fun ls2 h2 => k.same hH hlo hs (zst1_has (v := .int _) hL.1 hn h2))
    · simp at hs
  · simp at hs
theorem zs_iadd  (X : zCtx p R s m args meth c al CA D y) (hok : zOK y pc .iadd ax = true) (hs : zbase kr pc .iadd ax L st h = some x) (hH : zHH al CA D h H) (hL : zLh al ls (zMt y).2.2.1 L) (hlo : ∀ q ∈ locs, zA al q.base) (k : zGo p l e R s m args below meth c cells slots Q al CA D y h x) : W p l e R s m args below meth c H locs cells slots Q (F0 m pc ls (st.map (zv al))) := by
  have hd := zdc_of hok rfl
  obtain ⟨hx, hb, -⟩ := X
  simp only [zbase, zii, zgo] at hs
  split at hs
  · exact lv_iadd hx hb hd (k.same hH hlo hs hL)
  · simp at hs
theorem zs_isub  (X : zCtx p R s m args meth c al CA D y) (hok : zOK y pc .isub ax = true) (hs : zbase kr pc .isub ax L st h = some x) (hH : zHH al CA D h H) (hL : zLh al ls (zMt y).2.2.1 L) (hlo : ∀ q ∈ locs, zA al q.base) (k : zGo p l e R s m args below meth c cells slots Q al CA D y h x) : W p l e R s m args below meth c H locs cells slots Q (F0 m pc ls (st.map (zv al))) := by
  have hd := zdc_of hok rfl
  obtain ⟨hx, hb, -⟩ := X
  simp only [zbase, zii, zgo] at hs
  split at hs
  · exact lv_isub hx hb hd (k.same hH hlo hs hL)
  · simp at hs
theorem zs_imul  (X : zCtx p R s m args meth c al CA D y) (hok : zOK y pc .imul ax = true) (hs : zbase kr pc .imul ax L st h = some x) (hH : zHH al CA D h H) (hL : zLh al ls (zMt y).2.2.1 L) (hlo : ∀ q ∈ locs, zA al q.base) (k : zGo p l e R s m args below meth c cells slots Q al CA D y h x) : W p l e R s m args below meth c H locs cells slots Q (F0 m pc ls (st.map (zv al))) := by
  have hd := zdc_of hok rfl
  obtain ⟨hx, hb, -⟩ := X
  simp only [zbase, zii, zgo] at hs
  split at hs
  · exact lv_imul hx hb hd (k.same hH hlo hs hL)
  · simp at hs
theorem zs_iand  (X : zCtx p R s m args meth c al CA D y) (hok : zOK y pc .iand ax = true) (hs : zbase kr pc .iand ax L st h = some x) (hH : zHH al CA D h H) (hL : zLh al ls (zMt y).2.2.1 L) (hlo : ∀ q ∈ locs, zA al q.base) (k : zGo p l e R s m args below meth c cells slots Q al CA D y h x) : W p l e R s m args below meth c H locs cells slots Q (F0 m pc ls (st.map (zv al))) := by
  have hd := zdc_of hok rfl
  obtain ⟨hx, hb, -⟩ := X
  simp only [zbase, zii, zgo] at hs
  split at hs
  · exact lv_iand hx hb hd (k.same hH hlo hs hL)
  · simp at hs
theorem zs_ior  (X : zCtx p R s m args meth c al CA D y) (hok : zOK y pc .ior ax = true) (hs : zbase kr pc .ior ax L st h = some x) (hH : zHH al CA D h H) (hL : zLh al ls (zMt y).2.2.1 L) (hlo : ∀ q ∈ locs, zA al q.base) (k : zGo p l e R s m args below meth c cells slots Q al CA D y h x) : W p l e R s m args below meth c H locs cells slots Q (F0 m pc ls (st.map (zv al))) := by
  have hd := zdc_of hok rfl
  obtain ⟨hx, hb, -⟩ := X
  simp only [zbase, zii, zgo] at hs
  split at hs
  · exact lv_ior hx hb hd (k.same hH hlo hs hL)
  · simp at hs
theorem zs_ishl  (X : zCtx p R s m args meth c al CA D y) (hok : zOK y pc .ishl ax = true) (hs : zbase kr pc .ishl ax L st h = some x) (hH : zHH al CA D h H) (hL : zLh al ls (zMt y).2.2.1 L) (hlo : ∀ q ∈ locs, zA al q.base) (k : zGo p l e R s m args below meth c cells slots Q al CA D y h x) : W p l e R s m args below meth c H locs cells slots Q (F0 m pc ls (st.map (zv al))) := by
  have hd := zdc_of hok rfl
  obtain ⟨hx, hb, -⟩ := X
  simp only [zbase, zii, zgo] at hs
  split at hs
  · exact lv_ishl hx hb hd (k.same hH hlo hs hL)
  · simp at hs
theorem zs_ishr  (X : zCtx p R s m args meth c al CA D y) (hok : zOK y pc .ishr ax = true) (hs : zbase kr pc .ishr ax L st h = some x) (hH : zHH al CA D h H) (hL : zLh al ls (zMt y).2.2.1 L) (hlo : ∀ q ∈ locs, zA al q.base) (k : zGo p l e R s m args below meth c cells slots Q al CA D y h x) : W p l e R s m args below meth c H locs cells slots Q (F0 m pc ls (st.map (zv al))) := by
  have hd := zdc_of hok rfl
  obtain ⟨hx, hb, -⟩ := X
  simp only [zbase, zii, zgo] at hs
  split at hs
  · exact lv_ishr hx hb hd (k.same hH hlo hs hL)
  · simp at hs
theorem zs_iushr  (X : zCtx p R s m args meth c al CA D y) (hok : zOK y pc .iushr ax = true) (hs : zbase kr pc .iushr ax L st h = some x) (hH : zHH al CA D h H) (hL : zLh al ls (zMt y).2.2.1 L) (hlo : ∀ q ∈ locs, zA al q.base) (k : zGo p l e R s m args below meth c cells slots Q al CA D y h x) : W p l e R s m args below meth c H locs cells slots Q (F0 m pc ls (st.map (zv al))) := by
  have hd := zdc_of hok rfl
  obtain ⟨hx, hb, -⟩ := X
  simp only [zbase, zii, zgo] at hs
  split at hs
  · exact lv_iushr hx hb hd rfl (k.same hH hlo hs hL)
  · simp at hs
theorem zs_idiv  (X : zCtx p R s m args meth c al CA D y) (hok : zOK y pc .idiv ax = true) (hs : zbase kr pc .idiv ax L st h = some x) (hH : zHH al CA D h H) (hL : zLh al ls (zMt y).2.2.1 L) (hlo : ∀ q ∈ locs, zA al q.base) (k : zGo p l e R s m args below meth c cells slots Q al CA D y h x) : W p l e R s m args below meth c H locs cells slots Q (F0 m pc ls (st.map (zv al))) := by
  have hd := zdc_of hok rfl
  obtain ⟨hx, hb, -⟩ := X
  simp only [zbase, zgo] at hs
  split at hs
  · split at hs
    · simp at hs
    · rename_i hne
      exact lv_idiv hx hb hd hne (k.same hH hlo hs hL)
  · simp at hs
theorem zs_irem  (X : zCtx p R s m args meth c al CA D y) (hok : zOK y pc .irem ax = true) (hs : zbase kr pc .irem ax L st h = some x) (hH : zHH al CA D h H) (hL : zLh al ls (zMt y).2.2.1 L) (hlo : ∀ q ∈ locs, zA al q.base) (k : zGo p l e R s m args below meth c cells slots Q al CA D y h x) : W p l e R s m args below meth c H locs cells slots Q (F0 m pc ls (st.map (zv al))) := by
  have hd := zdc_of hok rfl
  obtain ⟨hx, hb, -⟩ := X
  simp only [zbase, zgo] at hs
  split at hs
  · split at hs
    · simp at hs
    · rename_i hne
      exact lv_irem hx hb hd hne (k.same hH hlo hs hL)
  · simp at hs
theorem zs_ladd  (X : zCtx p R s m args meth c al CA D y) (hok : zOK y pc .ladd ax = true) (hs : zbase kr pc .ladd ax L st h = some x) (hH : zHH al CA D h H) (hL : zLh al ls (zMt y).2.2.1 L) (hlo : ∀ q ∈ locs, zA al q.base) (k : zGo p l e R s m args below meth c cells slots Q al CA D y h x) : W p l e R s m args below meth c H locs cells slots Q (F0 m pc ls (st.map (zv al))) := by
  have hd := zdc_of hok rfl
  obtain ⟨hx, hb, -⟩ := X
  simp only [zbase, zll, zgo] at hs
  split at hs
  · exact lv_ladd hx hb hd (k.same hH hlo hs hL)
  · simp at hs
theorem zs_lmul  (X : zCtx p R s m args meth c al CA D y) (hok : zOK y pc .lmul ax = true) (hs : zbase kr pc .lmul ax L st h = some x) (hH : zHH al CA D h H) (hL : zLh al ls (zMt y).2.2.1 L) (hlo : ∀ q ∈ locs, zA al q.base) (k : zGo p l e R s m args below meth c cells slots Q al CA D y h x) : W p l e R s m args below meth c H locs cells slots Q (F0 m pc ls (st.map (zv al))) := by
  have hd := zdc_of hok rfl
  obtain ⟨hx, hb, -⟩ := X
  simp only [zbase, zll, zgo] at hs
  split at hs
  · exact lv_lmul hx hb hd (k.same hH hlo hs hL)
  · simp at hs
theorem zs_lcmp  (X : zCtx p R s m args meth c al CA D y) (hok : zOK y pc .lcmp ax = true) (hs : zbase kr pc .lcmp ax L st h = some x) (hH : zHH al CA D h H) (hL : zLh al ls (zMt y).2.2.1 L) (hlo : ∀ q ∈ locs, zA al q.base) (k : zGo p l e R s m args below meth c cells slots Q al CA D y h x) : W p l e R s m args below meth c H locs cells slots Q (F0 m pc ls (st.map (zv al))) := by
  have hd := zdc_of hok rfl
  obtain ⟨hx, hb, -⟩ := X
  simp only [zbase, zgo] at hs
  split at hs
  · exact W.lcmp hx hb hd (k.same hH hlo hs hL)
  · simp at hs
theorem zs_i2l  (X : zCtx p R s m args meth c al CA D y) (hok : zOK y pc .i2l ax = true) (hs : zbase kr pc .i2l ax L st h = some x) (hH : zHH al CA D h H) (hL : zLh al ls (zMt y).2.2.1 L) (hlo : ∀ q ∈ locs, zA al q.base) (k : zGo p l e R s m args below meth c cells slots Q al CA D y h x) : W p l e R s m args below meth c H locs cells slots Q (F0 m pc ls (st.map (zv al))) := by
  have hd := zdc_of hok rfl
  obtain ⟨hx, hb, -⟩ := X
  simp only [zbase, zgo] at hs
  split at hs
  · exact lv_i2l hx hb hd rfl (k.same hH hlo hs hL)
  · simp at hs
theorem zs_i2d  (X : zCtx p R s m args meth c al CA D y) (hok : zOK y pc .i2d ax = true) (hs : zbase kr pc .i2d ax L st h = some x) (hH : zHH al CA D h H) (hL : zLh al ls (zMt y).2.2.1 L) (hlo : ∀ q ∈ locs, zA al q.base) (k : zGo p l e R s m args below meth c cells slots Q al CA D y h x) : W p l e R s m args below meth c H locs cells slots Q (F0 m pc ls (st.map (zv al))) := by
  have hd := zdc_of hok rfl
  obtain ⟨hx, hb, -⟩ := X
  simp only [zbase, zgo] at hs
  split at hs
  · exact lv_i2d hx hb hd (k.same hH hlo hs hL)
  · simp at hs
theorem zs_ddiv  (X : zCtx p R s m args meth c al CA D y) (hok : zOK y pc .ddiv ax = true) (hs : zbase kr pc .ddiv ax L st h = some x) (hH : zHH al CA D h H) (hL : zLh al ls (zMt y).2.2.1 L) (hlo : ∀ q ∈ locs, zA al q.base) (k : zGo p l e R s m args below meth c cells slots Q al CA D y h x) : W p l e R s m args below meth c H locs cells slots Q (F0 m pc ls (st.map (zv al))) := by
  have hd := zdc_of hok rfl
  obtain ⟨hx, hb, -⟩ := X
  simp only [zbase, zgo] at hs
  split at hs
  · split at hs
    · rename_i hne
      exact lv_ddiv hx hb hd hne (k.same hH hlo hs hL)
    · simp at hs
  · simp at hs
theorem zs_dcmp {n : CmpOp} (X : zCtx p R s m args meth c al CA D y) (hok : zOK y pc (.dcmp n) ax = true) (hs : zbase kr pc (.dcmp n) ax L st h = some x) (hH : zHH al CA D h H) (hL : zLh al ls (zMt y).2.2.1 L) (hlo : ∀ q ∈ locs, zA al q.base) (k : zGo p l e R s m args below meth c cells slots Q al CA D y h x) : W p l e R s m args below meth c H locs cells slots Q (F0 m pc ls (st.map (zv al))) := by
  have hd := zdc_of hok rfl
  obtain ⟨hx, hb, -⟩ := X
  simp only [zbase, zgo] at hs
  split at hs
  · exact lv_dcmp hx hb hd (k.same hH hlo hs hL)
  · simp at hs
theorem zs_dup  (X : zCtx p R s m args meth c al CA D y) (hok : zOK y pc .dup ax = true) (hs : zbase kr pc .dup ax L st h = some x) (hH : zHH al CA D h H) (hL : zLh al ls (zMt y).2.2.1 L) (hlo : ∀ q ∈ locs, zA al q.base) (k : zGo p l e R s m args below meth c cells slots Q al CA D y h x) : W p l e R s m args below meth c H locs cells slots Q (F0 m pc ls (st.map (zv al))) := by
  have hd := zdc_of hok rfl
  obtain ⟨hx, hb, -⟩ := X
  simp only [zbase, zgo] at hs
  split at hs
  · split at hs
    · rename_i hc
      exact lv_dup hx hb hd (by rw [zv_cat]; exact hc) (k.same hH hlo hs hL)
    · simp at hs
  · simp at hs
theorem zs_pop  (X : zCtx p R s m args meth c al CA D y) (hok : zOK y pc .pop ax = true) (hs : zbase kr pc .pop ax L st h = some x) (hH : zHH al CA D h H) (hL : zLh al ls (zMt y).2.2.1 L) (hlo : ∀ q ∈ locs, zA al q.base) (k : zGo p l e R s m args below meth c cells slots Q al CA D y h x) : W p l e R s m args below meth c H locs cells slots Q (F0 m pc ls (st.map (zv al))) := by
  have hd := zdc_of hok rfl
  obtain ⟨hx, hb, -⟩ := X
  simp only [zbase, zgo] at hs
  split at hs
  · split at hs
    · rename_i hc
      exact lv_pop hx hb hd (by rw [zv_cat]; exact hc) (k.same hH hlo hs hL)
    · simp at hs
  · simp at hs
theorem zs_dup_x1  (X : zCtx p R s m args meth c al CA D y) (hok : zOK y pc .dup_x1 ax = true) (hs : zbase kr pc .dup_x1 ax L st h = some x) (hH : zHH al CA D h H) (hL : zLh al ls (zMt y).2.2.1 L) (hlo : ∀ q ∈ locs, zA al q.base) (k : zGo p l e R s m args below meth c cells slots Q al CA D y h x) : W p l e R s m args below meth c H locs cells slots Q (F0 m pc ls (st.map (zv al))) := by
  have hd := zdc_of hok rfl
  obtain ⟨hx, hb, -⟩ := X
  simp only [zbase, zgo] at hs
  split at hs
  · split at hs
    · rename_i hc
      exact lv_dup_x1 hx hb hd (by rw [zv_cat]; exact hc.1) (by rw [zv_cat]; exact hc.2) (k.same hH hlo hs hL)
    · simp at hs
  · simp at hs
theorem zs_dup2  (X : zCtx p R s m args meth c al CA D y) (hok : zOK y pc .dup2 ax = true) (hs : zbase kr pc .dup2 ax L st h = some x) (hH : zHH al CA D h H) (hL : zLh al ls (zMt y).2.2.1 L) (hlo : ∀ q ∈ locs, zA al q.base) (k : zGo p l e R s m args below meth c cells slots Q al CA D y h x) : W p l e R s m args below meth c H locs cells slots Q (F0 m pc ls (st.map (zv al))) := by
  have hd := zdc_of hok rfl
  obtain ⟨hx, hb, -⟩ := X
  simp only [zbase, zgo] at hs
  split at hs
  · split at hs
    · rename_i hc
      exact lv_dup2_11 hx hb hd (by rw [zv_cat]; exact hc.1) (by rw [zv_cat]; exact hc.2) (k.same hH hlo hs hL)
    · simp at hs
  · simp at hs
theorem zs_dup_x2  (X : zCtx p R s m args meth c al CA D y) (hok : zOK y pc .dup_x2 ax = true) (hs : zbase kr pc .dup_x2 ax L st h = some x) (hH : zHH al CA D h H) (hL : zLh al ls (zMt y).2.2.1 L) (hlo : ∀ q ∈ locs, zA al q.base) (k : zGo p l e R s m args below meth c cells slots Q al CA D y h x) : W p l e R s m args below meth c H locs cells slots Q (F0 m pc ls (st.map (zv al))) := by
  have hd := zdc_of hok rfl
  obtain ⟨hx, hb, -⟩ := X
  simp only [zbase, zgo] at hs
  split at hs
  · split at hs
    · rename_i hc
      exact lv_dup_x2 hx hb hd (by rw [zv_cat]; exact hc.1) (by rw [zv_cat]; exact hc.2.1) (by rw [zv_cat]; exact hc.2.2) (k.same hH hlo hs hL)
    · simp at hs
  · simp at hs
theorem zs_ifCond {cd : Jvm.ClassFile.Cond} {off : Int} (X : zCtx p R s m args meth c al CA D y) (hok : zOK y pc (.ifCond cd off) ax = true) (hs : zbase kr pc (.ifCond cd off) ax L st h = some x) (hH : zHH al CA D h H) (hL : zLh al ls (zMt y).2.2.1 L) (hlo : ∀ q ∈ locs, zA al q.base) (k : zGo p l e R s m args below meth c cells slots Q al CA D y h x) : W p l e R s m args below meth c H locs cells slots Q (F0 m pc ls (st.map (zv al))) := by
  have hd := zdc_of hok rfl
  obtain ⟨hx, hb, -⟩ := X
  simp only [zbase] at hs
  split at hs
  · simp only [zif] at hs
    split at hs
    · rename_i t r
      simp only [zOK, Bool.and_eq_true, decide_eq_true_eq] at hok
      have ht := hok.2
      cases cd
      · exact lv_if_eq hx hb hd ht (fun q => k.same hH hlo (by simpa [zcnd, q] using hs) hL) (fun q => k.same hH hlo (by simpa [zcnd, q] using hs) hL)
      · exact lv_if_ne hx hb hd ht (fun q => k.same hH hlo (by simpa [zcnd, q] using hs) hL) (fun q => k.same hH hlo (by simpa [zcnd, q] using hs) hL)
      · exact lv_if_lt hx hb hd ht (fun q => k.same hH hlo (by simpa [zcnd, q] using hs) hL) (fun q => k.same hH hlo (by simpa [zcnd, q] using hs) hL)
      · exact lv_if_ge hx hb hd ht (fun q => k.same hH hlo (by simpa [zcnd, q] using hs) hL) (fun q => k.same hH hlo (by simpa [zcnd, q] using hs) hL)
      · exact lv_if_gt hx hb hd ht (fun q => k.same hH hlo (by simpa [zcnd, q] using hs) hL) (fun q => k.same hH hlo (by simpa [zcnd, q] using hs) hL)
      · exact lv_if_le hx hb hd ht (fun q => k.same hH hlo (by simpa [zcnd, q] using hs) hL) (fun q => k.same hH hlo (by simpa [zcnd, q] using hs) hL)
    · simp at hs
  · simp at hs
theorem zs_if_icmp {cd : Jvm.ClassFile.Cond} {off : Int} (X : zCtx p R s m args meth c al CA D y) (hok : zOK y pc (.if_icmp cd off) ax = true) (hs : zbase kr pc (.if_icmp cd off) ax L st h = some x) (hH : zHH al CA D h H) (hL : zLh al ls (zMt y).2.2.1 L) (hlo : ∀ q ∈ locs, zA al q.base) (k : zGo p l e R s m args below meth c cells slots Q al CA D y h x) : W p l e R s m args below meth c H locs cells slots Q (F0 m pc ls (st.map (zv al))) := by
  have hd := zdc_of hok rfl
  obtain ⟨hx, hb, -⟩ := X
  simp only [zbase] at hs
  split at hs
  · simp only [zif] at hs
    split at hs
    · rename_i t r
      simp only [zOK, Bool.and_eq_true, decide_eq_true_eq] at hok
      have ht := hok.2
      cases cd
      · exact lv_icmp_eq hx hb hd ht (fun q => k.same hH hlo (by simpa [zcnd, q] using hs) hL) (fun q => k.same hH hlo (by simpa [zcnd, q] using hs) hL)
      · exact lv_icmp_ne hx hb hd ht (fun q => k.same hH hlo (by simpa [zcnd, q] using hs) hL) (fun q => k.same hH hlo (by simpa [zcnd, q] using hs) hL)
      · exact lv_icmp_lt hx hb hd ht (fun q => k.same hH hlo (by simpa [zcnd, q] using hs) hL) (fun q => k.same hH hlo (by simpa [zcnd, q] using hs) hL)
      · exact lv_icmp_ge hx hb hd ht (fun q => k.same hH hlo (by simpa [zcnd, q] using hs) hL) (fun q => k.same hH hlo (by simpa [zcnd, q] using hs) hL)
      · exact lv_icmp_gt hx hb hd ht (fun q => k.same hH hlo (by simpa [zcnd, q] using hs) hL) (fun q => k.same hH hlo (by simpa [zcnd, q] using hs) hL)
      · exact lv_icmp_le hx hb hd ht (fun q => k.same hH hlo (by simpa [zcnd, q] using hs) hL) (fun q => k.same hH hlo (by simpa [zcnd, q] using hs) hL)
    · simp at hs
  · simp at hs
theorem zs_goto {off : Int} (X : zCtx p R s m args meth c al CA D y) (hok : zOK y pc (.goto off) ax = true) (hs : zbase kr pc (.goto off) ax L st h = some x) (hH : zHH al CA D h H) (hL : zLh al ls (zMt y).2.2.1 L) (hlo : ∀ q ∈ locs, zA al q.base) (k : zGo p l e R s m args below meth c cells slots Q al CA D y h x) : W p l e R s m args below meth c H locs cells slots Q (F0 m pc ls (st.map (zv al))) := by
  have hd := zdc_of hok rfl
  obtain ⟨hx, hb, -⟩ := X
  simp only [zbase, zjump] at hs
  split at hs
  · rename_i t ht
    cases ax with
    | nil => simp at ht
    | cons t2 r =>
      simp only [List.getElem?_cons_zero, Option.some.injEq] at ht
      subst ht
      simp only [zOK, Bool.and_eq_true, decide_eq_true_eq] at hok
      exact lv_goto hx hb hd hok.2 (k.same hH hlo hs hL)
  · simp at hs
end ZST

/-! THROWS: a method of the class that ends with 'throw new E(text)', over the pure cells -/
def zX (al : Nat → Nat) (U : State) (H : Heap) : Prop := vx_Zq Bundle.tN "UNASSIGNED_STACK" Bundle.steD (zA al) U H ∧ vx_Zq Bundle.tN "SUPPRESSED_SENTINEL" Bundle.listD (zA al) U H ∧ (∀ x ∈ zdecl, va_Nw (.declares x) U) ∧ (∀ q ∈ zcast, va_Nw (.castable q.1 q.2) U) ∧ (∀ q ∈ zncast, va_Nc q.1 q.2 U) ∧ ∀ q ∈ zstr, ∃ a, vk_R q.1 q.2.1 q.2.2 a U
theorem zX_same {al : Nat → Nat} {u U : State} {H : Heap} (hvm : u.vm = U.vm) (h : zX al u H) : zX al U H := by
  obtain ⟨h1, h2, h3, h4, h5, h6⟩ := h
  have ha : u.vm.Alike U.vm := hvm ▸ Vm.Alike.refl _
  exact ⟨vx_Zq.moved ha h1, vx_Zq.moved ha h2, fun x hx => va_Nw.same rfl hvm (h3 x hx), fun x hx => va_Nw.same rfl hvm (h4 x hx), fun x hx => va_Nc.moved ha (h5 x hx), fun q hq => (h6 q hq).imp fun a ha => vk_R.same hvm.symm ha⟩
theorem zX_at {al : Nat → Nat} {s U : State} {H : Heap} (hW : s.WarmedH U.vm) (hq : ∀ a : Nat, a < s.heap.size → ¬ zA al a → H[a]? = s.heap[a]?) (hU : U.heap = H) (h : zX al s s.heap) : zX al U U.heap := by
  obtain ⟨h1, h2, h3, h4, h5, h6⟩ := h
  have ha : s.vm.Alike U.vm := hW.alike
  rw [hU]
  exact ⟨vx_Zq.moved ha (h1.kept hq), vx_Zq.moved ha (h2.kept hq), fun x hx => va_Nw.warmD hW (h3 x hx), fun x hx => va_Nw.warmC hW (h4 x hx), fun x hx => va_Nc.moved ha (h5 x hx), fun q hq => (h6 q hq).imp fun a ha => vk_R.warm hW ha⟩
def zrmX (y : Nat) : Room := { frames := max (zMt y).2.2.2.2.1 6, cells := 1, slots := 6, locals := max (zMt y).2.2.2.2.2 90 }
def zPcX (al : Nat → Nat) (CA : Nat → ClassId) (D : va_G) (a : List Value) (h : zH) : Array Value → State → Prop := va_Pc (a.map (zv al)) (fun U => (zHH al CA D h U.heap ∧ zK D CA U) ∧ zX al U U.heap)
/-- the pure cells stand there, and there may be more behind them -/
def zHX (al : Nat → Nat) (CA : Nat → ClassId) (D : va_G) (h : zH) (H : Heap) : Prop := al h.length ≤ H.size ∧ ∀ (i : Nat) (e : zE), h[i]? = some e → zAt al CA D i e H
def zXC (al : Nat → Nat) (CA : Nat → ClassId) (D : va_G) (h : zH) (E : String) : String → State → State → Prop := fun E' _ t => E' = E ∧ zHX al CA D h t.heap
/-- method y, called with a over h, throws E and leaves h as it was -/
def zMetX (l : Launch) (y : Nat) (a : List Value) (h : zH) (E : String) : Prop := ∀ (al : Nat → Nat) (CA : Nat → ClassId) (D : va_G), zal al → vx_Met l (zMt y).1 (zws y) (zrmX y) (zPcX al CA D a h) (fun _ _ _ _ => False) (zXC al CA D h E) 1 6 (zA al)
theorem zPcX_blind {al : Nat → Nat} {CA : Nat → ClassId} {D : va_G} {a : List Value} {h : zH} : FrameBlind (zPcX al CA D a h) := fun _ U g mk q => ⟨q.1, ⟨q.2.1.1, zK_same (u := U) (U := U.calling g mk _) rfl q.2.1.2⟩, zX_same (u := U) (U := U.calling g mk _) rfl q.2.2⟩
theorem zdc_to {b : ByteArray} {pc : Nat} {i : Instr} (h : zdc b pc i = true) (hs : zsw i = false) : decode b pc = .ok (i, zlen i) := by
  unfold zdc at h
  split at h
  · rename_i q hq
    simp only [hs, Bool.false_or, Bool.and_eq_true, decide_eq_true_eq] at h
    obtain ⟨q1, q2⟩ := q
    obtain ⟨e1, e2⟩ := h
    simp only at e1 e2
    rw [hq, e2, e1]
  · simp at h
/-- what the tables say of the class E -/
def zEx (E : String) (ik ic : Nat) : Prop := Bundle.fit E = true ∧ Cond.classLink "Nightjar" ik E ∈ zall ∧ Cond.initialized E ∈ zall ∧ (∀ w ∈ vx_atS "Nightjar" ic E zexn, w ∈ zall ∨ w ∈ zexw) ∧ ∀ w ∈ Cond.classLink "Nightjar" ik E :: Cond.initialized E :: vx_atS "Nightjar" ic E zexn, vx_ot w = true
theorem zEx_of {E : String} {ik ic p1 p2 : Nat} {g b : List Nat} (hf : Bundle.fit E = true) (h1 : (vx_atS "Nightjar" ic E zexn).filter goodWord = zpk g) (h2 : (vx_atS "Nightjar" ic E zexn).filter (fun w => !goodWord w) = b.filterMap (fun i => zexw[i]?)) (h3 : (Cond.classLink "Nightjar" ik E :: Cond.initialized E :: vx_atS "Nightjar" ic E zexn).all vx_ot = true) (h4 : zw p1 (.classLink "Nightjar" ik E) = true) (h5 : zw p2 (.initialized E) = true) : zEx E ik ic := by
  refine ⟨hf, zw_mem h4, zw_mem h5, fun w hw => ?_, fun w hw => List.all_eq_true.mp h3 w hw⟩
  by_cases hg : goodWord w = true
  · refine Or.inl (zpk_in (ps := g) ?_)
    rw [← h1]
    exact List.mem_filter.mpr ⟨hw, hg⟩
  · have h9 : w ∈ (vx_atS "Nightjar" ic E zexn).filter (fun w => !goodWord w) := List.mem_filter.mpr ⟨hw, by cases hq : goodWord w with
      | false => rfl
      | true => exact absurd hq hg⟩
    rw [h2] at h9
    obtain ⟨i, -, hi⟩ := List.mem_filterMap.mp h9
    exact Or.inr (List.mem_of_getElem? hi)
theorem zEx_IAE : zEx "java/lang/IllegalArgumentException" 64 68 := zEx_of (by decide +kernel) zexg_IAE zexb_IAE zexo_IAE zexk_IAE zexi_IAE
theorem zEx_ISE : zEx "java/lang/IllegalStateException" 75 79 := zEx_of (by decide +kernel) zexg_ISE zexb_ISE zexo_ISE zexk_ISE zexi_ISE
theorem zEx_IOB : zEx "java/lang/IndexOutOfBoundsException" 139 143 := zEx_of (by decide +kernel) zexg_IOB zexb_IOB zexo_IOB zexk_IOB zexi_IOB
/-- the rows of 'throw new E(text)' -/
def zsite (y pc ik ic is : Nat) (wide : Bool) : Bool := zdc (zMt y).2.1 pc (.new ik) && (zdc (zMt y).2.1 (pc + 3) .dup && (bif wide then zdc (zMt y).2.1 (pc + 4) (.ldc_w is) && (zdc (zMt y).2.1 (pc + 7) (.invokespecial ic) && zdc (zMt y).2.1 (pc + 10) .athrow) else zdc (zMt y).2.1 (pc + 4) (.ldc is) && (zdc (zMt y).2.1 (pc + 6) (.invokespecial ic) && zdc (zMt y).2.1 (pc + 9) .athrow)))
section ZT
variable {p : Program} {l : Launch} {e : Env} {R : Room} {s : State} {m : MethodId} {args : Array Value} {below : List Frame} {meth : Method} {c : Code} {H : Heap} {locs : List Loc} {cells slots : Nat} {Q : State → Prop}
/-- what was there at the entry is there still, but for what is written down -/
theorem zW_frame {g : JFrame} (k : s.heap.size ≤ H.size → (∀ q : Nat, q < s.heap.size → (∀ z ∈ locs, z.base ≠ q) → H[q]? = s.heap[q]?) → W p l e R s m args below meth c H locs cells slots Q g) : W p l e R s m args below meth c H locs cells slots Q g := by
  intro T hT X
  have hf := vx_frame (U := T) X.same
  rw [hT] at hf
  exact k hf.1 hf.2 T hT X
end ZT
set_option maxHeartbeats 1000000 in
theorem zmetX {l : Launch} (hl : l.stackTraces = false) {y pc ik ic is : Nat} {wide : Bool} {a : List Value} {h : zH} {L : zL} {E text : String} (hy : y < znm) (hz : (zent a).length ≤ (zMt y).2.2.1) (hcls : (zMt y).1.cls = "Nightjar") (k : zgt y 0 (zentry (zMt y).2.2.1 a) [] h (pc, L, [], h)) (hE : zEx E ik ic) (hs : zsite y pc ik ic is wide = true) (hst : ("Nightjar", is, text) ∈ zstr) : zMetX l y a h E := by
  intro al CA D hal
  have hm := zcm_all y hy
  simp only [zMok, Bool.and_eq_true] at hm
  refine vx_ofW (cc := (zMt y).2.1) (maxL := (zMt y).2.2.1) (ret := (zMt y).2.2.2.1) hm.1.1 rfl ?_
  intro p e s m args below meth c s₁ B hml ht hv
  obtain ⟨rfl, ⟨hH, hK⟩, hX⟩ := hv
  have hts := atoms_spec (ws := zws y) B.pre
  have hown : s.vm.findClass (zMt y).1.cls = some m.cls := findClass_of_methodNamed B.named
  have hlocks := B.notSynchronized
  rw [lg_entry_eq]
  have hent := zentry_has al a hz
  have X : zCtx p (headSpec (zws y) (zrmX y)).room s m (a.map (zv al)).toArray meth c al CA D y := ⟨B.exec, B.bytes, hml, hown, fun w hw => hts w (List.mem_cons_of_mem _ hw), hK, hal, Nat.le_max_left _ _, Nat.le_max_left _ _, fun q => by rw [(name_of_methodNamed B.named B.method).1]; exact q⟩
  refine zgtW k hy X hH hent (fun q hq => by cases hq) ⟨by simp only [Nat.sub_self]; exact Nat.zero_le _, by simp only [Nat.sub_self]; exact Nat.zero_le _⟩ ?_
  intro H' ls' locs' hH' hL' hlo'
  simp only [Nat.sub_self, Nat.add_zero] at *
  refine zW_frame fun f1 f2 => ?_
  have hS : va_S (zA al) s.heap H' locs' := ⟨f1, fun q hq hn => f2 q hq fun z hz hb => hn (hb ▸ hlo' z hz), hlo'⟩
  obtain ⟨hfit, hk, hini, hat, hgood⟩ := hE
  have hw : ∀ w ∈ zall, w.before (a.map (zv al)).toArray s = true := fun w hw => hts w (List.mem_cons_of_mem _ hw)
  have hat2 : ∀ w ∈ vx_atS "Nightjar" ic E zexn, w.before (a.map (zv al)).toArray s = true := fun w hw2 => by
    rcases hat w hw2 with q | q
    · exact hw w q
    · rcases List.mem_append.mp q with q | q
      · obtain ⟨x, hx, rfl⟩ := List.mem_map.mp q
        exact va_Nw.use rfl (hX.2.2.1 x hx)
      · obtain ⟨x, hx, rfl⟩ := List.mem_map.mp q
        exact va_Nw.use rfl (hX.2.2.2.1 x hx)
  obtain ⟨sa, hsa⟩ := hX.2.2.2.2.2 _ hst
  rw [hcls] at hown
  have hnames : ∀ n ∈ zexn, Bundle.fit n = true := by decide +kernel
  have hout : ∀ (pc : Nat), ∀ x ∈ c.exceptionTable.toList, covers x pc = false := fun _ x hx => (ht x hx).elim
  have hxc : ∀ t : State, s.vm.Alike t.vm → H'.size ≤ t.heap.size → (∀ q : Nat, q < H'.size → t.heap[q]? = H'[q]?) → zXC al CA D h E E s t := fun t _ h1 h2 => ⟨rfl, by rw [← hH'.2.1]; exact h1, fun i e0 he => zAt_kept (hH'.2.2 i e0 he) (h2 _ (zAt_lt (hH'.2.2 i e0 he)))⟩
  have hrf : zexn.length + 3 < (headSpec (zws y) (zrmX y)).room.frames := Nat.lt_of_lt_of_le (show 5 < 6 by omega) (Nat.le_max_right _ _)
  have hrl : (([] : List Value).map fun v => v.category).sum + (13 * (zexn.length + 1) + 43) ≤ (headSpec (zws y) (zrmX y)).room.locals := Nat.le_trans (show 82 ≤ 90 by omega) (Nat.le_max_right _ _)
  have hsize : ls'.size = c.maxLocals := by rw [hml]; exact hL'.2.1
  simp only [zsite, Bool.and_eq_true] at hs
  obtain ⟨d0, d3, d4⟩ := hs
  cases wide with
  | false =>
    simp only [cond_false, Bool.and_eq_true] at d4
    exact vx_throwS (A := zA al) (names := zexn) B.exec B.bytes hl hown hfit hnames (hw _ hk) (hw _ hini) hsa hat2 hgood hX.1 hX.2.1 hS hsize (zdc_to d0 rfl) (zdc_to d3 rfl) (zdc_to d4.1 rfl) (zdc_to d4.2.1 rfl) (zdc_to d4.2.2 rfl) (hout _) hrf hrl (Nat.le_refl 1) (Nat.le_refl 6) hlocks hxc hlo' (Nat.le_refl 1) (Nat.le_refl 6)
  | true =>
    simp only [cond_true, Bool.and_eq_true] at d4
    exact vx_throwSW (A := zA al) (names := zexn) B.exec B.bytes hl hown hfit hnames (hw _ hk) (hw _ hini) hsa hat2 hgood hX.1 hX.2.1 hS hsize (zdc_to d0 rfl) (zdc_to d3 rfl) (zdc_to d4.1 rfl) (zdc_to d4.2.1 rfl) (zdc_to d4.2.2 rfl) (hout _) hrf hrl (Nat.le_refl 1) (Nat.le_refl 6) hlocks hxc hlo' (Nat.le_refl 1) (Nat.le_refl 6)

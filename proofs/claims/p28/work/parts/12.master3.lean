/-! the calls of the library, the dispatch, and the whole -/
section ZD
variable {p : Program} {l : Launch} {e : Env} {R : Room} {s : State} {m : MethodId} {args : Array Value} {below : List Frame} {meth : Method} {c : Code} {H : Heap} {locs : List Loc} {cells slots : Nat} {Q : State → Prop}
variable {al : Nat → Nat} {CA : Nat → ClassId} {D : va_G} {y pc : Nat} {ls : Array Slot} {ax : List Nat} {L : zL} {st : List Value} {h : zH} {x : zR ⊕ zS} {kr : Nat}
theorem zobjW {ix kind z p1 p2 p3 : Nat} (X : zCtx p R s m args meth c al CA D y) (hok : zcallOK y ix kind [z, 5, p1, p2, p3] = true) (hd : decode (zMt y).2.1 pc = .ok (if kind = 0 then .invokevirtual ix else if kind = 1 then .invokestatic ix else .invokespecial ix, 3)) (hs : zobj pc L st h = some x) (hH : zHH al CA D h H) (hL : zLh al ls (zMt y).2.2.1 L) (hlo : ∀ q ∈ locs, zA al q.base) (k : zGo p l e R s m args below meth c cells slots Q al CA D y h x) : W p l e R s m args below meth c H locs cells slots Q (F0 m pc ls (st.map (zv al))) := by
  obtain ⟨hx, hb, hml, hown, hts, hK, hal, hfr, hlc, -⟩ := X
  simp only [zcallOK, Bool.and_eq_true, decide_eq_true_eq] at hok
  obtain ⟨⟨⟨⟨⟨rfl, h1⟩, h2⟩, h3⟩, h4⟩, h5⟩ := hok
  simp only [zobj, zgo] at hs
  split at hs
  · split at hs
    · simp at hs
    · rename_i b st2 hsum
      refine W.objInit hx hb hown (hts _ (zw_mem h1)) (hts _ (zw_mem h2)) (hts _ (zw_mem h3)) rfl (by rw [hml]; exact hL.2.1) rfl hd (Nat.le_trans h4 hfr) ?_ (W.eq (g2 := F0 m (pc + 3) ls (st2.map (zv al))) rfl (k.same hH hlo hs hL))
      have := zv_cats al st2
      show 2 * 0 + _ + 12 ≤ _
      omega
  · simp at hs
theorem zmaxW {ix kind z p1 p2 p3 p4 : Nat} (X : zCtx p R s m args meth c al CA D y) (hok : zcallOK y ix kind [z, 4, p1, p2, p3, p4] = true) (hd : decode (zMt y).2.1 pc = .ok (if kind = 0 then .invokevirtual ix else if kind = 1 then .invokestatic ix else .invokespecial ix, 3)) (hs : zmax pc L st h = some x) (hH : zHH al CA D h H) (hL : zLh al ls (zMt y).2.2.1 L) (hlo : ∀ q ∈ locs, zA al q.base) (hr : cells + ((zhp x).length - h.length) ≤ R.cells ∧ slots + (zss (zhp x) - zss h) ≤ R.slots) (k : zGo p l e R s m args below meth c cells slots Q al CA D y h x) : W p l e R s m args below meth c H locs cells slots Q (F0 m pc ls (st.map (zv al))) := by
  obtain ⟨hx, hb, hml, hown, hts, hK, hal, hfr, hlc, -⟩ := X
  simp only [zcallOK, Bool.and_eq_true, decide_eq_true_eq] at hok
  obtain ⟨⟨⟨⟨⟨⟨rfl, h1⟩, h2⟩, h3⟩, h4⟩, h5⟩, h6⟩ := hok
  simp only [zmax, zgo] at hs
  split at hs
  · split at hs
    · simp at hs
    · rename_i b a st2 hsum
      have hxe := Option.some.inj hs
      rw [← hxe] at hr
      simp only [zhp, Nat.sub_self, Nat.add_zero] at hr
      refine va_mmax hx hb (by rw [hml]; exact hL.2.1.symm) hown (hts _ (zw_mem h1)) (hts _ (zw_mem h2)) (hts _ (zw_mem h3)) (hts _ (zw_mem h4)) (Nat.le_trans h5 hfr) ?_ hr.1 hr.2 hd (k.same hH hlo hs hL)
      have := zv_cats al st2
      omega
  · simp at hs
end ZD
section ZE
variable {l : Launch}
/-- the contract out of the walk -/
theorem zmet_of {n y : Nat} {a : List Value} {h : zH} {r : zR} (hy : y < znm) (hz : (zent a).length ≤ (zMt y).2.2.1)
    (hwalk : ∀ {p : Program} {e : Env} {R : Room} {s : State} {m : MethodId} {args : Array Value} {below : List Frame} {meth : Method} {c : Code} {H : Heap} {locs : List Loc} {cells slots : Nat} {Q : State → Prop} {al : Nat → Nat} {CA : Nat → ClassId} {D : va_G} {ls : Array Slot}, zCtx p R s m args meth c al CA D y → zHH al CA D h H → zLh al ls (zMt y).2.2.1 (zentry (zMt y).2.2.1 a) → (∀ q ∈ locs, zA al q.base) → (cells + (r.2.length - h.length) ≤ R.cells ∧ slots + (zss r.2 - zss h) ≤ R.slots) → (∀ (pc' : Nat) (i : Instr) (ax : List Nat) (L' : zL) (st' : List Value) (H' : Heap) (ls' : Array Slot) (locs' : List Loc), zOK y pc' i ax = true → zbase (zkr (zMt y).2.2.2.1) pc' i ax L' st' r.2 = some (.inl r) → zHH al CA D r.2 H' → (∀ q ∈ locs', zA al q.base) → W p l e R s m args below meth c H' locs' (cells + (r.2.length - h.length)) (slots + (zss r.2 - zss h)) Q (F0 m pc' ls' (st'.map (zv al)))) → W p l e R s m args below meth c H locs cells slots Q (F0 m 0 ls ([].map (zv al)))) : zMet l y a h r := by
  intro al CA D hal
  have hm := zcm_all y hy
  simp only [zMok, Bool.and_eq_true] at hm
  refine Met.ofW (cc := (zMt y).2.1) (maxL := (zMt y).2.2.1) (ret := (zMt y).2.2.2.1) hm.1.1 rfl ?_
  intro p e s m args below meth c s₁ B hml hv
  obtain ⟨rfl, hH, hK⟩ := hv
  have hts := atoms_spec (ws := zws y) B.pre
  have hown : s.vm.findClass (zMt y).1.cls = some m.cls := findClass_of_methodNamed B.named
  have hlocks := B.notSynchronized
  rw [lg_entry_eq]
  have hent := zentry_has al a hz
  have X : zCtx p (headSpec (zws y) (zrm y (r.2.length - h.length) (zss r.2 - zss h))).room s m (a.map (zv al)).toArray meth c al CA D y := ⟨B.exec, B.bytes, hml, hown, fun w hw => hts w (List.mem_cons_of_mem _ hw), hK, hal, Nat.le_refl _, Nat.le_refl _, fun q => by rw [(name_of_methodNamed B.named B.method).1]; exact q⟩
  refine hwalk X hH hent (fun q hq => by cases hq) ⟨by rw [Nat.zero_add]; exact Nat.le_refl _, by rw [Nat.zero_add]; exact Nat.le_refl _⟩ ?_
  intro pc' i ax L' st' H' ls' locs' hok hret hH' hlo'
  rw [Nat.zero_add, Nat.zero_add]
  have hr := B.returns
  have hd : ∀ j, i = j → zsw j = false → decode (zMt y).2.1 pc' = .ok (j, zlen j) := fun j e h2 => by subst e; exact zdc_of hok h2
  rcases zbase_ret hret with ⟨hi, v, rfl, hrr, hk⟩ | ⟨hi, v, rfl, hrr, hk⟩ | ⟨hi, v, rfl, hrr, hk⟩ | ⟨hi, v, rfl, hrr, hk⟩ | ⟨hi, rfl, hrr, hk⟩
  · have hq : ∀ t : State, t.heap = H' → s.WarmedH t.vm → zQ al CA D r (a.map (zv al)).toArray s (.returned (some (.int v))) t := fun t ht hW => ⟨by rw [hrr]; rfl, by rw [ht]; exact hH'⟩
    cases hret2 : (zMt y).2.2.2.1 with
    | none => rw [hret2] at hk; simp [zkr] at hk
    | some ty =>
      rw [hret2] at hk hr
      refine W.zret B.exec B.bytes hr ?_ hq hlo' (hd _ hi rfl)
      cases ty <;> simp [zkr] at hk <;> first | rfl | (rcases hk with rfl | rfl <;> rfl)
  · cases hret2 : (zMt y).2.2.2.1 with
    | none => rw [hret2] at hk; simp [zkr] at hk
    | some ty =>
      rw [hret2] at hk hr
      cases ty <;> simp [zkr] at hk
      exact W.lret B.exec B.bytes hr (fun t ht hW => ⟨by rw [hrr]; rfl, by rw [ht]; exact hH'⟩) hlo' (hd _ hi rfl)
  · cases hret2 : (zMt y).2.2.2.1 with
    | none => rw [hret2] at hk; simp [zkr] at hk
    | some ty =>
      rw [hret2] at hk hr
      cases ty <;> simp [zkr] at hk
      exact W.dret B.exec B.bytes hr (fun t ht hW => ⟨by rw [hrr]; rfl, by rw [ht]; exact hH'⟩) hlo' (hd _ hi rfl)
  · cases hret2 : (zMt y).2.2.2.1 with
    | none => rw [hret2] at hk; simp [zkr] at hk
    | some ty =>
      rw [hret2] at hk hr
      cases ty <;> simp [zkr] at hk
      · exact W.aret B.exec B.bytes hr (Or.inl ⟨_, rfl⟩) (Or.inr ⟨_, rfl⟩) (fun t ht hW => ⟨by rw [hrr]; rfl, by rw [ht]; exact hH'⟩) hlo' (hd _ hi rfl)
      · exact W.aret B.exec B.bytes hr (Or.inr ⟨_, rfl⟩) (Or.inr ⟨_, rfl⟩) (fun t ht hW => ⟨by rw [hrr]; rfl, by rw [ht]; exact hH'⟩) hlo' (hd _ hi rfl)
  · cases hret2 : (zMt y).2.2.2.1 with
    | some ty => rw [hret2] at hk; cases ty <;> simp [zkr] at hk
    | none =>
      rw [hret2] at hr
      exact W.vret B.exec B.bytes hr (fun t ht hW => ⟨by rw [hrr]; rfl, by rw [ht]; exact hH'⟩) hlo' (hd _ hi rfl)
end ZE
theorem zI_ok {y pc : Nat} {i : Instr} {ax : List Nat} (hy : y < znm) (h : zI y pc = some (i, ax)) : zOK y pc i ax = true := by
  unfold zI at h
  cases hf : (zcs.getD y []).find? (fun e => e.1 == pc) with
  | none => rw [hf] at h; simp at h
  | some q =>
    rw [hf] at h
    simp only [Option.map_some, Option.some.injEq] at h
    have h1 := List.find?_some hf
    have h2 := List.mem_of_find?_eq_some hf
    simp only [beq_iff_eq] at h1
    have h3 := List.all_eq_true.mp (zck_all y hy) q h2
    rw [h1, h] at h3
    exact h3
theorem zstep_base {C : Nat → List Value → zH → Option zR} {kr pc : Nat} {i : Instr} {ax : List Nat} {L : zL} {st : List Value} {h : zH} (h1 : ∀ n, i ≠ .invokevirtual n) (h2 : ∀ n, i ≠ .invokestatic n) (h3 : ∀ n, i ≠ .invokespecial n) : zstep C kr pc i ax L st h = zbase kr pc i ax L st h := by
  unfold zstep
  split
  · exact absurd rfl (h1 _)
  · exact absurd rfl (h2 _)
  · exact absurd rfl (h3 _)
  · rfl

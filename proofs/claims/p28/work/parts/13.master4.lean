def zWalk (l : Launch) (n : Nat) : Prop := ∀ (y pc : Nat) (L : zL) (st : List Value) (h : zH) (r : zR), y < znm → zrun zTB n y pc L st h = some r →
  ∀ {p : Program} {e : Env} {R : Room} {s : State} {m : MethodId} {args : Array Value} {below : List Frame} {meth : Method} {c : Code} {H : Heap} {locs : List Loc} {cells slots : Nat} {Q : State → Prop} {al : Nat → Nat} {CA : Nat → ClassId} {D : va_G} {ls : Array Slot}, zCtx p R s m args meth c al CA D y → zHH al CA D h H → zLh al ls (zMt y).2.2.1 L → (∀ q ∈ locs, zA al q.base) → (cells + (r.2.length - h.length) ≤ R.cells ∧ slots + (zss r.2 - zss h) ≤ R.slots) →
  (∀ (pc' : Nat) (i : Instr) (ax : List Nat) (L' : zL) (st' : List Value) (H' : Heap) (ls' : Array Slot) (locs' : List Loc), zOK y pc' i ax = true → zbase (zkr (zMt y).2.2.2.1) pc' i ax L' st' r.2 = some (.inl r) → zHH al CA D r.2 H' → (∀ q ∈ locs', zA al q.base) → W p l e R s m args below meth c H' locs' (cells + (r.2.length - h.length)) (slots + (zss r.2 - zss h)) Q (F0 m pc' ls' (st'.map (zv al)))) → W p l e R s m args below meth c H locs cells slots Q (F0 m pc ls (st.map (zv al)))
theorem zinv_ax {y ix kind : Nat} {ax : List Nat} (hok : zcallOK y ix kind ax = true) : (∃ z p1 p2 p3, ax = [z, 5, p1, p2, p3]) ∨ (∃ z p1 p2 p3 p4, ax = [z, 3, p1, p2, p3, p4]) ∨ (∃ z p1 p2 p3 p4, ax = [z, 4, p1, p2, p3, p4]) ∨ (∀ a m r, ax = a :: m :: r → m ≠ 3 ∧ m ≠ 4 ∧ m ≠ 5) := by
  unfold zcallOK at hok
  split at hok
  · exact Or.inl ⟨_, _, _, _, rfl⟩
  · exact Or.inr (Or.inl ⟨_, _, _, _, _, rfl⟩)
  · exact Or.inr (Or.inr (Or.inl ⟨_, _, _, _, _, rfl⟩))
  · refine Or.inr (Or.inr (Or.inr ?_))
    rename_i y' mode n ci p1 p2 p3 p4 lk lp
    intro a m r e
    simp only [List.cons.injEq] at e
    obtain ⟨rfl, rfl, -⟩ := e
    refine ⟨fun q => ?_, fun q => ?_, fun q => ?_⟩ <;> (subst q; simp at hok)
  · simp at hok
set_option maxHeartbeats 1000000 in
theorem zwalk (l : Launch) : ∀ n, zWalk l n
  | 0 => fun y pc L st h r _ hrun => by simp [zrun] at hrun
  | n + 1 => by
    have IH := zwalk l n
    intro y pc L st h r hy hrun p e R s m args below meth c H locs cells slots Q al CA D ls X hH hL hlo hr kend
    rw [zrun_succ] at hrun
    cases hI : zTB.1 y pc with
    | none => rw [hI] at hrun; simp at hrun
    | some q =>
      obtain ⟨i, ax⟩ := q
      rw [hI] at hrun
      simp only at hrun
      have hok := zI_ok hy (show zI y pc = some (i, ax) from hI)
      generalize hC0 : (fun (y' : Nat) (a : List Value) (h' : zH) => if (zent a).length ≤ (zTB.2 y').2.2.1 then zrun zTB n y' 0 (zentry (zTB.2 y').2.2.1 a) [] h' else none) = C at hrun
      have hCle : ∀ y' a h' r', C y' a h' = some r' → zle h' r'.2 := fun y' a h' r' hc => by
        rw [← hC0] at hc
        simp only at hc
        split at hc
        · exact zrun_le n hc
        · simp at hc
      have hCM : ∀ y' a h' r', y' < znm → C y' a h' = some r' → zMet l y' a h' r' := fun y' a h' r' hy' hc => by
        rw [← hC0] at hc
        simp only at hc
        split at hc
        · rename_i hz
          exact zmet_of (n := n) hy' hz (fun X hH hL hlo hr kend => IH y' 0 _ [] h' r' hy' hc X hH hL hlo hr kend)
        · simp at hc
      cases hz : zstep C (zkr (zTB.2 y).2.2.2.1) pc i ax L st h with
      | none => rw [hz] at hrun; simp at hrun
      | some x =>
        rw [hz] at hrun
        have hle := zstep_le hCle hz
        cases x with
        | inl r' =>
          simp only [Option.some.injEq] at hrun
          subst hrun
          have hb : zbase (zkr (zMt y).2.2.2.1) pc i ax L st h = some (.inl r') := by
            rw [← zstep_base (C := C) (fun n q => by subst q; exact zcall_ret hz) (fun n q => by subst q; exact zcall_ret hz) (fun n q => by subst q; exact zcall_ret hz)]
            exact hz
          have hh : r'.2 = h := by rcases zbase_ret hb with ⟨-, v, -, q, -⟩ | ⟨-, v, -, q, -⟩ | ⟨-, v, -, q, -⟩ | ⟨-, v, -, q, -⟩ | ⟨-, -, q, -⟩ <;> rw [q]
          have := kend pc i ax L st H ls locs hok (by rw [hh]; exact hb) (by rw [hh]; exact hH) hlo
          rwa [hh, Nat.sub_self, Nat.sub_self, Nat.add_zero, Nat.add_zero] at this
        | inr s' =>
          simp only at hrun
          have hle2 := zrun_le n hrun
          have hle3 : zle h s'.2.2.2 := hle
          have hr2 : cells + ((zhp (.inr s')).length - h.length) ≤ R.cells ∧ slots + (zss (zhp (.inr s')) - zss h) ≤ R.slots := by
            have h1 := hle2.1
            have h2 := hle2.2
            have h3 := hle3.1
            have h4 := hle3.2
            show cells + (s'.2.2.2.length - h.length) ≤ R.cells ∧ slots + (zss s'.2.2.2 - zss h) ≤ R.slots
            omega
          have k : zGo p l e R s m args below meth c cells slots Q al CA D y h (.inr s') := by
            intro pc' L' st' h' hx H' ls' locs' hH' hL' hlo'
            cases hx
            refine IH y pc' L' st' h' r hy hrun X hH' hL' hlo' ?_ ?_
            · have h1 := hle2.1
              have h2 := hle2.2
              have h3 := hle3.1
              have h4 := hle3.2
              simp only at h1 h2 h3 h4
              omega
            · intro pc2 i2 ax2 L2 st2 H2 ls2 locs2 g1 g2 g3 g4
              have h1 := hle2.1
              have h2 := hle2.2
              have h3 := hle3.1
              have h4 := hle3.2
              simp only at h1 h2 h3 h4
              rw [show cells + (h'.length - h.length) + (r.2.length - h'.length) = cells + (r.2.length - h.length) by omega, show slots + (zss h' - zss h) + (zss r.2 - zss h') = slots + (zss r.2 - zss h) by omega]
              exact kend pc2 i2 ax2 L2 st2 H2 ls2 locs2 g1 g2 g3 g4
          have calls : ∀ (ix kind : Nat), zcallOK y ix kind ax = true → decode (zMt y).2.1 pc = .ok (if kind = 0 then .invokevirtual ix else if kind = 1 then .invokestatic ix else .invokespecial ix, 3) → zcall C pc ax L st h = some (.inr s') → W p l e R s m args below meth c H locs cells slots Q (F0 m pc ls (st.map (zv al))) := by
            intro ix kind hk hd hs
            rcases zinv_ax hk with ⟨z, p1, p2, p3, rfl⟩ | ⟨z, p1, p2, p3, p4, rfl⟩ | ⟨z, p1, p2, p3, p4, rfl⟩ | h345
            · exact zobjW X hk hd hs hH hL hlo k
            · exact zcopyW X hk hd hs hH hL hlo k
            · exact zmaxW X hk hd hs hH hL hlo hr2 k
            · refine zinvW hCM X hk hd h345 ?_ hH hL hlo hr2 k
              unfold zcall at hs
              split at hs
              · exact absurd rfl (h345 _ _ _ rfl).1
              · exact absurd rfl (h345 _ _ _ rfl).2.1
              · exact absurd rfl (h345 _ _ _ rfl).2.2
              · exact hs
          by_cases h1 : ∃ ix, i = .invokevirtual ix
          · obtain ⟨ix, rfl⟩ := h1
            refine calls ix 0 ?_ (zdc_of hok rfl) hz
            simp only [zOK, Bool.and_eq_true] at hok
            exact hok.2
          · by_cases h2 : ∃ ix, i = .invokestatic ix
            · obtain ⟨ix, rfl⟩ := h2
              refine calls ix 1 ?_ (zdc_of hok rfl) hz
              simp only [zOK, Bool.and_eq_true] at hok
              exact hok.2
            · by_cases h3 : ∃ ix, i = .invokespecial ix
              · obtain ⟨ix, rfl⟩ := h3
                refine calls ix 2 ?_ (zdc_of hok rfl) hz
                simp only [zOK, Bool.and_eq_true] at hok
                exact hok.2
              · rw [zstep_base (fun n q => h1 ⟨n, q⟩) (fun n q => h2 ⟨n, q⟩) (fun n q => h3 ⟨n, q⟩)] at hz
                exact zbaseW X hok rfl hz hH hL hlo hr2 k
/-- a run of the pure machine gives its contract -/
theorem zmet (l : Launch) {y : Nat} {a : List Value} {h : zH} {r : zR} (hy : y < znm) (hc : zcalls zTB y a h r) : zMet l y a h r := by
  obtain ⟨hz, n, hn⟩ := hc
  exact zmet_of (n := n) hy hz (fun X hH hL hlo hr kend => zwalk l n y 0 _ [] h r hy hn X hH hL hlo hr kend)

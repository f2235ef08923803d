/-! RUNS UP TO AN INSTRUCTION: k steps of method y, its callees at most m deep in steps -/
def zgoes (T : zT) (m : Nat) : Nat → Nat → zS → Option zS
  | 0, _, s => some s
  | k + 1, y, s => match T.1 y s.1 with
    | none => none
    | some (i, ax) => match zstep (fun y' a h' => if (zent a).length ≤ (T.2 y').2.2.1 then zrun T m y' 0 (zentry (T.2 y').2.2.1 a) [] h' else none) (zkr (T.2 y).2.2.2.1) s.1 i ax s.2.1 s.2.2.1 s.2.2.2 with
      | none => none
      | some (.inl _) => none
      | some (.inr s') => zgoes T m k y s'
/-- from here the method comes to the state S -/
def zgt (y pc : Nat) (L : zL) (st : List Value) (h : zH) (S : zS) : Prop := ∃ m k, zgoes zTB m k y (pc, L, st, h) = some S
theorem zgoes_succ (T : zT) (m k y : Nat) (s : zS) : zgoes T m (k + 1) y s = match T.1 y s.1 with
    | none => none
    | some (i, ax) => match zstep (fun y' a h' => if (zent a).length ≤ (T.2 y').2.2.1 then zrun T m y' 0 (zentry (T.2 y').2.2.1 a) [] h' else none) (zkr (T.2 y).2.2.2.1) s.1 i ax s.2.1 s.2.2.1 s.2.2.2 with
      | none => none
      | some (.inl _) => none
      | some (.inr s') => zgoes T m k y s' := rfl
theorem zgoes_mono {T : zT} {m m' : Nat} (hm : m ≤ m') : ∀ (k : Nat) {y : Nat} {s S : zS}, zgoes T m k y s = some S → zgoes T m' k y s = some S
  | 0, _, _, _, hs => hs
  | k + 1, y, s, S, hs => by
    rw [zgoes_succ] at hs ⊢
    have hC : ∀ y' a h' r', (if (zent a).length ≤ (T.2 y').2.2.1 then zrun T m y' 0 (zentry (T.2 y').2.2.1 a) [] h' else none) = some r' → (if (zent a).length ≤ (T.2 y').2.2.1 then zrun T m' y' 0 (zentry (T.2 y').2.2.1 a) [] h' else none) = some r' := fun y' a h' r' hc => by
      split at hc
      · rename_i hz
        rw [if_pos hz]
        exact zrun_mono hc hm
      · simp at hc
    cases hI : T.1 y s.1 with
    | none => rw [hI] at hs; simp at hs
    | some q =>
      obtain ⟨i, ax⟩ := q
      rw [hI] at hs
      simp only at hs ⊢
      split at hs
      · simp at hs
      · simp at hs
      · rename_i hq
        rw [zstep_mono hC hq]
        exact zgoes_mono hm k hs
theorem zgoes_le {T : zT} {m : Nat} : ∀ (k : Nat) {y : Nat} {s S : zS}, zgoes T m k y s = some S → zle s.2.2.2 S.2.2.2
  | 0, _, _, _, hs => by
    simp only [zgoes, Option.some.injEq] at hs
    subst hs
    exact zle_rf _
  | k + 1, y, s, S, hs => by
    rw [zgoes_succ] at hs
    split at hs
    · simp at hs
    · split at hs
      · simp at hs
      · simp at hs
      · rename_i hq
        have hl := zstep_le (fun y' a h' r' hc => by
          split at hc
          · exact zrun_le m hc
          · simp at hc) hq
        exact zle_tr hl (zgoes_le k hs)
theorem zgt_here (y pc : Nat) (L : zL) (st : List Value) (h : zH) : zgt y pc L st h (pc, L, st, h) := ⟨0, 0, rfl⟩
theorem zgt_step {y pc pc' : Nat} {L L' : zL} {st st' : List Value} {h h' : zH} {r : zS} {i : Instr} {ax : List Nat} (hI : zTB.1 y pc = some (i, ax)) (hs : ∀ C, zstep C (zkr (zTB.2 y).2.2.2.1) pc i ax L st h = some (.inr (pc', L', st', h'))) (k : zgt y pc' L' st' h' r) : zgt y pc L st h r := by
  obtain ⟨m, n, hn⟩ := k
  refine ⟨m, n + 1, ?_⟩
  rw [zgoes_succ]
  simp only [hI, hs]
  exact hn
theorem zgt_call {y y' pc pc' : Nat} {a : List Value} {L L' : zL} {st st' : List Value} {h h' h1 : zH} {q : zR} {r : zS} {i : Instr} {ax : List Nat} (hI : zTB.1 y pc = some (i, ax)) (hc : zcalls zTB y' a h1 q) (hs : ∀ C : Nat → List Value → zH → Option zR, C y' a h1 = some q → zstep C (zkr (zTB.2 y).2.2.2.1) pc i ax L st h = some (.inr (pc', L', st', h'))) (k : zgt y pc' L' st' h' r) : zgt y pc L st h r := by
  obtain ⟨m, n, hn⟩ := k
  obtain ⟨hz, m2, hm⟩ := hc
  refine ⟨max m m2, n + 1, ?_⟩
  rw [zgoes_succ]
  simp only [hI]
  rw [hs _ (by rw [if_pos hz]; exact zrun_mono hm (Nat.le_max_right m m2))]
  exact zgoes_mono (Nat.le_max_left m m2) n hn
theorem zgt_trans {y pc : Nat} {L : zL} {st : List Value} {h : zH} {S S' : zS} (k : zgt y pc L st h S) (k2 : zgt y S.1 S.2.1 S.2.2.1 S.2.2.2 S') : zgt y pc L st h S' := by
  obtain ⟨m2, n2, h2⟩ := k2
  obtain ⟨m1, n1, h1⟩ := k
  have key : ∀ (n : Nat) (s : zS), zgoes zTB (max m1 m2) n y s = some S → zgoes zTB (max m1 m2) (n + n2) y s = some S' := by
    intro n
    induction n with
    | zero =>
      intro s hs
      simp only [zgoes, Option.some.injEq] at hs
      subst hs
      rw [Nat.zero_add]
      exact zgoes_mono (Nat.le_max_right m1 m2) n2 h2
    | succ n ih =>
      intro s hs
      rw [show n + 1 + n2 = n + n2 + 1 by omega, zgoes_succ]
      rw [zgoes_succ] at hs
      cases hI : zTB.1 y s.1 with
      | none => rw [hI] at hs; simp at hs
      | some q =>
        obtain ⟨i, ax⟩ := q
        rw [hI] at hs
        simp only at hs ⊢
        split at hs
        · simp at hs
        · simp at hs
        · exact ih _ hs
  exact ⟨max m1 m2, n1 + n2, key n1 _ (zgoes_mono (Nat.le_max_left m1 m2) n1 h1)⟩
/-- from a run's start to its state: the machine walks there -/
def zGoW (l : Launch) (m0 k : Nat) : Prop := ∀ (y : Nat) (s0 s1 : zS), y < znm → zgoes zTB m0 k y s0 = some s1 →
  ∀ {p : Program} {e : Env} {R : Room} {s : State} {m : MethodId} {args : Array Value} {below : List Frame} {meth : Method} {c : Code} {H : Heap} {locs : List Loc} {cells slots : Nat} {Q : State → Prop} {al : Nat → Nat} {CA : Nat → ClassId} {D : va_G} {ls : Array Slot}, zCtx p R s m args meth c al CA D y → zHH al CA D s0.2.2.2 H → zLh al ls (zMt y).2.2.1 s0.2.1 → (∀ q ∈ locs, zA al q.base) → (cells + (s1.2.2.2.length - s0.2.2.2.length) ≤ R.cells ∧ slots + (zss s1.2.2.2 - zss s0.2.2.2) ≤ R.slots) →
  (∀ (H' : Heap) (ls' : Array Slot) (locs' : List Loc), zHH al CA D s1.2.2.2 H' → zLh al ls' (zMt y).2.2.1 s1.2.1 → (∀ q ∈ locs', zA al q.base) → W p l e R s m args below meth c H' locs' (cells + (s1.2.2.2.length - s0.2.2.2.length)) (slots + (zss s1.2.2.2 - zss s0.2.2.2)) Q (F0 m s1.1 ls' (s1.2.2.1.map (zv al)))) → W p l e R s m args below meth c H locs cells slots Q (F0 m s0.1 ls (s0.2.2.1.map (zv al)))
set_option maxHeartbeats 1000000 in
theorem zgoW (l : Launch) (m0 : Nat) : ∀ k, zGoW l m0 k
  | 0 => by
    intro y s0 s1 hy hrun p e R s m args below meth c H locs cells slots Q al CA D ls X hH hL hlo hr kend
    simp only [zgoes, Option.some.injEq] at hrun
    subst hrun
    have := kend H ls locs hH hL hlo
    rwa [Nat.sub_self, Nat.sub_self, Nat.add_zero, Nat.add_zero] at this
  | k + 1 => by
    have IH := zgoW l m0 k
    intro y s0 s1 hy hrun p e R s m args below meth c H locs cells slots Q al CA D ls X hH hL hlo hr kend
    obtain ⟨pc, L, st, h⟩ := s0
    rw [zgoes_succ] at hrun
    cases hI : zTB.1 y pc with
    | none => simp only [hI] at hrun; simp at hrun
    | some q =>
      obtain ⟨i, ax⟩ := q
      simp only [hI] at hrun
      have hok := zI_ok hy (show zI y pc = some (i, ax) from hI)
      generalize hC0 : (fun (y' : Nat) (a : List Value) (h' : zH) => if (zent a).length ≤ (zTB.2 y').2.2.1 then zrun zTB m0 y' 0 (zentry (zTB.2 y').2.2.1 a) [] h' else none) = C at hrun
      have hCle : ∀ y' a h' r', C y' a h' = some r' → zle h' r'.2 := fun y' a h' r' hc => by
        rw [← hC0] at hc
        simp only at hc
        split at hc
        · exact zrun_le m0 hc
        · simp at hc
      have hCM : ∀ y' a h' r', y' < znm → C y' a h' = some r' → zMet l y' a h' r' := fun y' a h' r' hy' hc => by
        rw [← hC0] at hc
        simp only at hc
        split at hc
        · rename_i hz
          exact zmet_of (n := m0) hy' hz (fun X hH hL hlo hr kend => zwalk l m0 y' 0 _ [] h' r' hy' hc X hH hL hlo hr kend)
        · simp at hc
      cases hz : zstep C (zkr (zTB.2 y).2.2.2.1) pc i ax L st h with
      | none => rw [hz] at hrun; simp at hrun
      | some x =>
        rw [hz] at hrun
        have hle := zstep_le hCle hz
        cases x with
        | inl r' => simp at hrun
        | inr s' =>
          simp only at hrun
          have hle2 := zgoes_le k hrun
          have hle3 : zle h s'.2.2.2 := hle
          have h1 := hle2.1
          have h2 := hle2.2
          have h3 := hle3.1
          have h4 := hle3.2
          simp only at hr kend ⊢
          have hr2 : cells + ((zhp (.inr s')).length - h.length) ≤ R.cells ∧ slots + (zss (zhp (.inr s')) - zss h) ≤ R.slots := by
            show cells + (s'.2.2.2.length - h.length) ≤ R.cells ∧ slots + (zss s'.2.2.2 - zss h) ≤ R.slots
            omega
          have kk : zGo p l e R s m args below meth c cells slots Q al CA D y h (.inr s') := by
            intro pc' L' st' h' hx H' ls' locs' hH' hL' hlo'
            cases hx
            simp only at h1 h2 h3 h4
            refine IH y _ s1 hy hrun X hH' hL' hlo' (by simp only; omega) ?_
            intro H2 ls2 locs2 g2 g3 g4
            simp only
            rw [show cells + (h'.length - h.length) + (s1.2.2.2.length - h'.length) = cells + (s1.2.2.2.length - h.length) by omega, show slots + (zss h' - zss h) + (zss s1.2.2.2 - zss h') = slots + (zss s1.2.2.2 - zss h) by omega]
            exact kend H2 ls2 locs2 g2 g3 g4
          have calls : ∀ (ix kind : Nat), zcallOK y ix kind ax = true → decode (zMt y).2.1 pc = .ok (if kind = 0 then .invokevirtual ix else if kind = 1 then .invokestatic ix else .invokespecial ix, 3) → zcall C pc ax L st h = some (.inr s') → W p l e R s m args below meth c H locs cells slots Q (F0 m pc ls (st.map (zv al))) := by
            intro ix kind hk hd hs
            rcases zinv_ax hk with ⟨z, p1, p2, p3, rfl⟩ | ⟨z, p1, p2, p3, p4, rfl⟩ | ⟨z, p1, p2, p3, p4, rfl⟩ | h345
            · exact zobjW X hk hd hs hH hL hlo kk
            · exact zcopyW X hk hd hs hH hL hlo kk
            · exact zmaxW X hk hd hs hH hL hlo hr2 kk
            · refine zinvW hCM X hk hd h345 ?_ hH hL hlo hr2 kk
              unfold zcall at hs
              split at hs
              · exact absurd rfl (h345 _ _ _ rfl).1
              · exact absurd rfl (h345 _ _ _ rfl).2.1
              · exact absurd rfl (h345 _ _ _ rfl).2.2
              · exact hs
          by_cases h1 : ∃ ix, i = .invokevirtual ix
          · obtain ⟨ix, rfl⟩ := h1
            refine calls ix 0 ?_ (zdc_of hok rfl) hz
            simp only [zOK, Bool.and_eq_true] at hok
            exact hok.2
          · by_cases h2 : ∃ ix, i = .invokestatic ix
            · obtain ⟨ix, rfl⟩ := h2
              refine calls ix 1 ?_ (zdc_of hok rfl) hz
              simp only [zOK, Bool.and_eq_true] at hok
              exact hok.2
            · by_cases h3 : ∃ ix, i = .invokespecial ix
              · obtain ⟨ix, rfl⟩ := h3
                refine calls ix 2 ?_ (zdc_of hok rfl) hz
                simp only [zOK, Bool.and_eq_true] at hok
                exact hok.2
              · rw [zstep_base (fun n q => h1 ⟨n, q⟩) (fun n q => h2 ⟨n, q⟩) (fun n q => h3 ⟨n, q⟩)] at hz
                exact zbaseW X hok rfl hz hH hL hlo hr2 kk
theorem zgtW {l : Launch} {y pc : Nat} {L : zL} {st : List Value} {h : zH} {S : zS} (k : zgt y pc L st h S) (hy : y < znm) {p : Program} {e : Env} {R : Room} {s : State} {m : MethodId} {args : Array Value} {below : List Frame} {meth : Method} {c : Code} {H : Heap} {locs : List Loc} {cells slots : Nat} {Q : State → Prop} {al : Nat → Nat} {CA : Nat → ClassId} {D : va_G} {ls : Array Slot} (X : zCtx p R s m args meth c al CA D y) (hH : zHH al CA D h H) (hL : zLh al ls (zMt y).2.2.1 L) (hlo : ∀ q ∈ locs, zA al q.base) (hr : cells + (S.2.2.2.length - h.length) ≤ R.cells ∧ slots + (zss S.2.2.2 - zss h) ≤ R.slots)
    (kend : ∀ (H' : Heap) (ls' : Array Slot) (locs' : List Loc), zHH al CA D S.2.2.2 H' → zLh al ls' (zMt y).2.2.1 S.2.1 → (∀ q ∈ locs', zA al q.base) → W p l e R s m args below meth c H' locs' (cells + (S.2.2.2.length - h.length)) (slots + (zss S.2.2.2 - zss h)) Q (F0 m S.1 ls' (S.2.2.1.map (zv al)))) : W p l e R s m args below meth c H locs cells slots Q (F0 m pc ls (st.map (zv al))) := by
  obtain ⟨m0, n, hn⟩ := k
  exact zgoW l m0 n y (pc, L, st, h) S hy hn X hH hL hlo hr kend

/-! what holds of every run of the pure machine -/
def zhp : zR ⊕ zS → zH
  | .inl r => r.2
  | .inr s => s.2.2.2
def zle (h h' : zH) : Prop := h.length ≤ h'.length ∧ zss h ≤ zss h'
theorem zle_rf (h : zH) : zle h h := ⟨Nat.le_refl _, Nat.le_refl _⟩
theorem zle_tr {a b c : zH} (h1 : zle a b) (h2 : zle b c) : zle a c := ⟨Nat.le_trans h1.1 h2.1, Nat.le_trans h1.2 h2.2⟩
theorem zss_app (h : zH) (e : zE) : zss (h ++ [e]) = zss h + zsz e := by simp [zss]
theorem zss_set : ∀ (h : zH) (i : Nat) (e e' : zE), h[i]? = some e → zsz e' = zsz e → zss (h.set i e') = zss h
  | [], i, e, e', h1, _ => by simp at h1
  | a :: l, 0, e, e', h1, h2 => by
    simp only [List.getElem?_cons_zero, Option.some.injEq] at h1
    simp [zss, h1, h2]
  | a :: l, i + 1, e, e', h1, h2 => by
    have := zss_set l i e e' (by simpa using h1) h2
    simp only [zss, List.set_cons_succ, List.map_cons, List.sum_cons] at this ⊢
    omega
theorem zle_app (h : zH) (e : zE) : zle h (h ++ [e]) := ⟨by simp, by rw [zss_app]; omega⟩
theorem zle_set {h : zH} {i : Nat} {e e' : zE} (h1 : h[i]? = some e) (h2 : zsz e' = zsz e) : zle h (h.set i e') := ⟨by simp, by rw [zss_set h i e e' h1 h2]; omega⟩
theorem zgo_le {pc : Nat} {L : zL} {st : List Value} {h h' : zH} {x : zR ⊕ zS} (hh : zle h h') (hs : zgo pc L st h' = some x) : zle h (zhp x) := by
  simp only [zgo, Option.some.injEq] at hs
  subst hs
  exact hh
set_option maxHeartbeats 4000000 in
theorem zbase_le {kr pc : Nat} {i : Instr} {ax : List Nat} {L : zL} {st : List Value} {h : zH} {x : zR ⊕ zS} (hs : zbase kr pc i ax L st h = some x) : zle h (zhp x) := by
  have g0 := zle_rf h
  cases i <;> simp only [zbase, zloadI, zloadL, zloadD, zloadA, zstoreI, zstoreA, zstoreL, zstoreD, zii, zll, zget1, zput1, znew, znewa, zalen, ziald, zlald, zaald, ziast, zlast, zaast, zif, zjump] at hs <;>
    (repeat' split at hs) <;>
    first
    | (simp at hs; done)
    | exact zgo_le g0 hs
    | exact zgo_le (zle_app _ _) hs
    | exact zgo_le (zle_set (by assumption) (by simp [zsz])) hs
    | (simp only [Option.some.injEq] at hs; subst hs; exact g0)
theorem zback_le {pc : Nat} {L : zL} {rest : List Value} {h : zH} {r : Option zR} {x : zR ⊕ zS} (hr : ∀ q, r = some q → zle h q.2) (hs : zback pc L rest r = some x) : zle h (zhp x) := by
  unfold zback at hs
  split at hs
  · exact zgo_le (hr _ rfl) hs
  · exact zgo_le (hr _ rfl) hs
  · simp at hs
set_option maxHeartbeats 4000000 in
theorem zcall_le {C : Nat → List Value → zH → Option zR} (hC : ∀ y a h r, C y a h = some r → zle h r.2) {pc : Nat} {ax : List Nat} {L : zL} {st : List Value} {h : zH} {x : zR ⊕ zS} (hs : zcall C pc ax L st h = some x) : zle h (zhp x) := by
  have g0 := zle_rf h
  simp only [zcall, zinv, zcopy, zmax, zobj] at hs
  (repeat' split at hs) <;>
    first
    | (simp at hs; done)
    | exact zback_le (fun q hq => hC _ _ _ _ hq) hs
    | exact zgo_le g0 hs
    | exact zgo_le (zle_set (by assumption) (by simp [zsz])) hs
theorem zstep_le {C : Nat → List Value → zH → Option zR} (hC : ∀ y a h r, C y a h = some r → zle h r.2) {kr pc : Nat} {i : Instr} {ax : List Nat} {L : zL} {st : List Value} {h : zH} {x : zR ⊕ zS} (hs : zstep C kr pc i ax L st h = some x) : zle h (zhp x) := by
  unfold zstep at hs
  split at hs
  · exact zcall_le hC hs
  · exact zcall_le hC hs
  · exact zcall_le hC hs
  · exact zbase_le hs
theorem zback_mono {pc : Nat} {L : zL} {rest : List Value} {r r' : Option zR} {x : zR ⊕ zS} (hr : ∀ q, r = some q → r' = some q) (hs : zback pc L rest r = some x) : zback pc L rest r' = some x := by
  cases r with
  | none => simp [zback] at hs
  | some q => rw [hr q rfl]; exact hs
set_option maxHeartbeats 4000000 in
theorem zcall_mono {C C' : Nat → List Value → zH → Option zR} (hC : ∀ y a h r, C y a h = some r → C' y a h = some r) {pc : Nat} {ax : List Nat} {L : zL} {st : List Value} {h : zH} {x : zR ⊕ zS} (hs : zcall C pc ax L st h = some x) : zcall C' pc ax L st h = some x := by
  simp only [zcall, zinv] at hs ⊢
  (repeat' split at hs) <;>
    first
    | (simp at hs; done)
    | exact hs
    | (rw [if_pos (by assumption)]; exact zback_mono (fun q hq => hC _ _ _ _ hq) hs)
    | (rw [if_pos (by assumption)]; simp only [*, if_true]; exact zback_mono (fun q hq => hC _ _ _ _ hq) hs)
theorem zstep_mono {C C' : Nat → List Value → zH → Option zR} (hC : ∀ y a h r, C y a h = some r → C' y a h = some r) {kr pc : Nat} {i : Instr} {ax : List Nat} {L : zL} {st : List Value} {h : zH} {x : zR ⊕ zS} (hs : zstep C kr pc i ax L st h = some x) : zstep C' kr pc i ax L st h = some x := by
  unfold zstep at hs ⊢
  split at hs
  · exact zcall_mono hC hs
  · exact zcall_mono hC hs
  · exact zcall_mono hC hs
  · exact hs
theorem zrun_le {T : zT} : ∀ (n : Nat) {y pc : Nat} {L : zL} {st : List Value} {h : zH} {r : zR}, zrun T n y pc L st h = some r → zle h r.2
  | 0, _, _, _, _, _, _, hs => by simp [zrun] at hs
  | n + 1, y, pc, L, st, h, r, hs => by
    unfold zrun at hs
    split at hs
    · simp at hs
    · split at hs
      · simp at hs
      · rename_i hq
        have hl := zstep_le (fun y' a h' r' hc => by
          split at hc
          · exact zrun_le n hc
          · simp at hc) hq
        simp only [Option.some.injEq] at hs
        subst hs
        exact hl
      · rename_i hq
        have hl := zstep_le (fun y' a h' r' hc => by
          split at hc
          · exact zrun_le n hc
          · simp at hc) hq
        exact zle_tr hl (zrun_le n hs)
theorem zrun_succ (T : zT) (n y pc : Nat) (L : zL) (st : List Value) (h : zH) : zrun T (n + 1) y pc L st h = match T.1 y pc with
    | none => none
    | some (i, ax) => match zstep (fun y' a h' => if (zent a).length ≤ (T.2 y').2.2.1 then zrun T n y' 0 (zentry (T.2 y').2.2.1 a) [] h' else none) (zkr (T.2 y).2.2.2.1) pc i ax L st h with
      | none => none
      | some (.inl r) => some r
      | some (.inr s) => zrun T n y s.1 s.2.1 s.2.2.1 s.2.2.2 := rfl
theorem zrun_mono1 {T : zT} : ∀ (n : Nat) {y pc : Nat} {L : zL} {st : List Value} {h : zH} {r : zR}, zrun T n y pc L st h = some r → zrun T (n + 1) y pc L st h = some r
  | 0, _, _, _, _, _, _, hs => by simp [zrun] at hs
  | n + 1, y, pc, L, st, h, r, hs => by
    have hC : ∀ y' a h' r', (if (zent a).length ≤ (T.2 y').2.2.1 then zrun T n y' 0 (zentry (T.2 y').2.2.1 a) [] h' else none) = some r' → (if (zent a).length ≤ (T.2 y').2.2.1 then zrun T (n + 1) y' 0 (zentry (T.2 y').2.2.1 a) [] h' else none) = some r' := fun y' a h' r' hc => by
      split at hc
      · rename_i hz
        rw [if_pos hz]
        exact zrun_mono1 n hc
      · simp at hc
    rw [zrun_succ] at hs ⊢
    cases hI : T.1 y pc with
    | none => rw [hI] at hs; simp at hs
    | some q =>
      obtain ⟨i, ax⟩ := q
      rw [hI] at hs
      simp only at hs ⊢
      split at hs
      · simp at hs
      · rename_i hq
        rw [zstep_mono hC hq]
        exact hs
      · rename_i hq
        rw [zstep_mono hC hq]
        exact zrun_mono1 n hs
theorem zrun_mono {T : zT} {n : Nat} {y pc : Nat} {L : zL} {st : List Value} {h : zH} {r : zR} (hs : zrun T n y pc L st h = some r) : ∀ {k : Nat}, n ≤ k → zrun T k y pc L st h = some r := by
  intro k hk
  obtain ⟨j, rfl⟩ := Nat.le.dest hk
  induction j with
  | zero => exact hs
  | succ j ih => exact zrun_mono1 _ (ih (by omega))
/-- from here the method comes to its end with r -/
def zruns (T : zT) (y pc : Nat) (L : zL) (st : List Value) (h : zH) (r : zR) : Prop := ∃ n, zrun T n y pc L st h = some r
/-- a step that calls nothing -/
theorem zruns_step {T : zT} {y pc pc' : Nat} {L L' : zL} {st st' : List Value} {h h' : zH} {r : zR} {i : Instr} {ax : List Nat} (hI : T.1 y pc = some (i, ax)) (hs : ∀ C, zstep C (zkr (T.2 y).2.2.2.1) pc i ax L st h = some (.inr (pc', L', st', h'))) (k : zruns T y pc' L' st' h' r) : zruns T y pc L st h r := by
  obtain ⟨n, hn⟩ := k
  refine ⟨n + 1, ?_⟩
  unfold zrun
  simp only [hI, hs]
  exact hn
theorem zruns_ret {T : zT} {y pc : Nat} {L : zL} {st : List Value} {h : zH} {r : zR} {i : Instr} {ax : List Nat} (hI : T.1 y pc = some (i, ax)) (hs : ∀ C, zstep C (zkr (T.2 y).2.2.2.1) pc i ax L st h = some (.inl r)) : zruns T y pc L st h r := by
  refine ⟨1, ?_⟩
  unfold zrun
  simp only [hI, hs]
/-- a call -/
theorem zruns_call {T : zT} {y y' pc pc' : Nat} {a : List Value} {L L' : zL} {st st' : List Value} {h h' h1 : zH} {r q : zR} {i : Instr} {ax : List Nat} (hI : T.1 y pc = some (i, ax)) (hc : zcalls T y' a h1 q) (hs : ∀ C : Nat → List Value → zH → Option zR, C y' a h1 = some q → zstep C (zkr (T.2 y).2.2.2.1) pc i ax L st h = some (.inr (pc', L', st', h'))) (k : zruns T y pc' L' st' h' r) : zruns T y pc L st h r := by
  obtain ⟨n, hn⟩ := k
  obtain ⟨hz, m, hm⟩ := hc
  refine ⟨max n m + 1, ?_⟩
  unfold zrun
  simp only [hI]
  rw [hs _ (by rw [if_pos hz]; exact zrun_mono hm (Nat.le_max_right n m))]
  exact zrun_mono hn (Nat.le_max_left n m)
theorem zcalls_of {T : zT} {y : Nat} {a : List Value} {h : zH} {r : zR} (hz : (zent a).length ≤ (T.2 y).2.2.1) (k : zruns T y 0 (zentry (T.2 y).2.2.1 a) [] h r) : zcalls T y a h r := ⟨hz, k⟩

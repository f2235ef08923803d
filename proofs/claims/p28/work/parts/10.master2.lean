/-! calls, and the whole -/
def zQ (al : Nat → Nat) (CA : Nat → ClassId) (D : va_G) (r : zR) : Array Value → State → Outcome → State → Prop := fun _ _ oc t => oc = .returned (r.1.map (zv al)) ∧ zHH al CA D r.2 t.heap
def zws (y : Nat) : List Jvm.Cond := .code (zMt y).1 (zMt y).2.1 (zMt y).2.2.1 (zMt y).2.2.2.1 :: zall
def zrm (y mc ms : Nat) : Room := { frames := (zMt y).2.2.2.2.1, cells := mc, slots := ms, locals := (zMt y).2.2.2.2.2 }
def zPc (al : Nat → Nat) (CA : Nat → ClassId) (D : va_G) (a : List Value) (h : zH) : Array Value → State → Prop := va_Pc (a.map (zv al)) (fun U => zHH al CA D h U.heap ∧ zK D CA U)
/-- the contract that a run of the pure machine gives -/
def zMet (l : Launch) (y : Nat) (a : List Value) (h : zH) (r : zR) : Prop := ∀ (al : Nat → Nat) (CA : Nat → ClassId) (D : va_G), zal al → Met l (zMt y).1 (zws y) (zrm y (r.2.length - h.length) (zss r.2 - zss h)) (zPc al CA D a h) (zQ al CA D r) (r.2.length - h.length) (zss r.2 - zss h) (zA al)
theorem zPc_blind {al : Nat → Nat} {CA : Nat → ClassId} {D : va_G} {a : List Value} {h : zH} : FrameBlind (zPc al CA D a h) := fun _ U g mk q => ⟨q.1, q.2.1, zK_same (u := U) (U := U.calling g mk _) rfl q.2.2⟩
theorem zgood {w : Jvm.Cond} (h : w ∈ zall) : (w.onTables && w.keeps) = true ∨ ∃ ty, w = .arrayClass ty := good_of_word (List.all_eq_true.mp zall_good w h)
theorem zgoodIn {y p4 : Nat} (h : zw p4 (.code (zMt y).1 (zMt y).2.1 (zMt y).2.2.1 (zMt y).2.2.2.1) = true) : GoodIn zall (zws y) := fun w hw => by
  rcases List.mem_cons.mp hw with q | q
  · rw [q]
    exact ⟨zw_mem h, zgood (zw_mem h)⟩
  · exact ⟨q, zgood q⟩
section ZC
variable {p : Program} {l : Launch} {e : Env} {R : Room} {s : State} {m : MethodId} {args : Array Value} {below : List Frame} {meth : Method} {c : Code} {H : Heap} {locs : List Loc} {cells slots : Nat} {Q : State → Prop}
variable {al : Nat → Nat} {CA : Nat → ClassId} {D : va_G} {y pc : Nat} {ls : Array Slot} {ax : List Nat} {L : zL} {st : List Value} {h : zH} {x : zR ⊕ zS} {kr : Nat}
theorem zrunW {r : zR} {mc ms : Nat} {st0 rest : List Value} {a : Array Value} (hr : va_Run p l e R s m args below meth c H locs cells slots mc ms (F0 m pc ls st0) rest (zQ al CA D r a) (zA al)) (hlo : ∀ q ∈ locs, zA al q.base) (kk : ∀ (H' : Heap) (locs' : List Loc), zHH al CA D r.2 H' → (∀ q ∈ locs', zA al q.base) → W p l e R s m args below meth c H' locs' (cells + mc) (slots + ms) Q (F0 m (pc + 3) ls ((r.1.map (zv al)).toList ++ rest))) : W p l e R s m args below meth c H locs cells slots Q (F0 m pc ls st0) := by
  intro T hT X
  obtain ⟨v, st₀, t, T', L, h0, X', hL, e1, e2, hq, st⟩ := hr T hT X
  have hv : v = r.1.map (zv al) := by
    have := hq.1
    simpa using this
  subst hv
  obtain ⟨t2, a1, b1⟩ := kk T'.heap (locs ++ L) (by rw [e1]; exact hq.2) (fun q hq2 => (List.mem_append.mp hq2).elim (hlo q) (hL q)) T' rfl X'
  exact ⟨t2, st t2 a1, b1⟩
theorem zPre {al : Nat → Nat} {a : List Value} (X : zK D CA s) (hH : zHH al CA D h H) (As : List Value) (ha : As = a.map (zv al)) : ∀ U : State, U.heap = H → s.WarmedH U.vm → zPc al CA D a h As.toArray U := fun U hU hW => ⟨by rw [ha], by rw [hU]; exact hH, zK_warm hW X⟩
/-- what the check says of a call -/
theorem zcall_ok {ix kind y' mode n ci p1 p2 p3 p4 lk lp : Nat} (hok : zcallOK y ix kind [y', mode, n, ci, p1, p2, p3, p4, lk, lp] = true) (h3 : mode ≠ 3) (h4 : mode ≠ 4) (h5 : mode ≠ 5) : y' < znm ∧ zlink lk lp (zMt y).1.cls ix (zMt y').1 = true ∧ zw p3 (.initialized (zMt y').1.cls) = true ∧ zw p4 (.code (zMt y').1 (zMt y').2.1 (zMt y').2.2.1 (zMt y').2.2.2.1) = true ∧ ((zMt y').1.cls ≠ "java/lang/invoke/MethodHandle" ∧ (zMt y').1.cls ≠ "java/lang/invoke/VarHandle") ∧ (parseMethodDescriptor (zMt y').1.desc).map (fun d => d.parameters.length) = some n ∧ (zMt y').2.2.2.2.1 + 1 ≤ (zMt y).2.2.2.2.1 ∧ 8 + ((zMt y').2.2.1 + 11) + (zMt y').2.2.2.2.2 ≤ (zMt y).2.2.2.2.2 ∧ kind = mode ∧ (mode = 0 → lk = 0 ∧ ci < zcl.length ∧ zcN ci = (zMt y').1.cls ∧ zw p1 (.instanceMethod (zMt y').1) = true ∧ zw p2 (.selects (zMt y').1.cls (zMt y').1 (zMt y').1) = true) ∧ (mode = 1 → zw p1 (.static (zMt y').1) = true) ∧ (mode = 2 → zw p1 (.instanceMethod (zMt y').1) = true ∧ (zMt y').1.name = "<init>" ∧ (zMt y').2.2.2.1 = none) := by
  simp only [zcallOK, Bool.and_eq_true, decide_eq_true_eq] at hok
  obtain ⟨⟨⟨⟨⟨⟨⟨⟨⟨a1, a2⟩, a3⟩, a4⟩, a5⟩, a6⟩, a7⟩, a8⟩, a9⟩, a10⟩ := hok
  refine ⟨a1, a2, a3, a4, a5, a6, a7, a8, a9, fun q => ?_, fun q => ?_, fun q => ?_⟩
  · subst q
    simp only [Bool.and_eq_true, decide_eq_true_eq] at a10
    exact ⟨a10.1.1.1.1, a10.1.1.1.2, a10.1.1.2, a10.1.2, a10.2⟩
  · subst q
    exact a10
  · subst q
    simp only [Bool.and_eq_true, decide_eq_true_eq] at a10
    exact ⟨a10.1.1, a10.1.2, a10.2⟩
theorem zstack (al : Nat → Nat) {n : Nat} {st : List Value} (h : n ≤ st.length) : st.map (zv al) = (((st.take n).reverse.map (zv al))).reverse ++ (st.drop n).map (zv al) := by
  rw [List.map_reverse, List.reverse_reverse, ← List.map_append, List.take_append_drop]
theorem zback_inr {r : Option zR} {rest : List Value} (hs : zback pc L rest r = some x) : ∃ q, r = some q ∧ x = .inr (pc + 3, L, q.1.toList ++ rest, q.2) := by
  unfold zback at hs
  split at hs
  · simp only [zgo, Option.some.injEq] at hs
    exact ⟨_, rfl, hs.symm⟩
  · simp only [zgo, Option.some.injEq] at hs
    exact ⟨_, rfl, hs.symm⟩
  · simp at hs
/-- behind a callee -/
theorem zbackW {q : zR} {rest : List Value} {st0 : List Value} {a : Array Value} (hx : x = .inr (pc + 3, L, q.1.toList ++ rest, q.2)) (hlo : ∀ q ∈ locs, zA al q.base) (hL : zLh al ls (zMt y).2.2.1 L) (k : zGo p l e R s m args below meth c cells slots Q al CA D y h x) (hr : va_Run p l e R s m args below meth c H locs cells slots (q.2.length - h.length) (zss q.2 - zss h) (F0 m pc ls st0) (rest.map (zv al)) (zQ al CA D q a) (zA al)) : W p l e R s m args below meth c H locs cells slots Q (F0 m pc ls st0) := by
  refine zrunW hr hlo fun H' locs' hH' hlo' => ?_
  have := k _ _ _ _ hx H' ls locs' hH' hL hlo'
  rwa [show (q.1.toList ++ rest).map (zv al) = (q.1.map (zv al)).toList ++ rest.map (zv al) by cases q.1 <;> rfl] at this
theorem zinvW {C : Nat → List Value → zH → Option zR} {ix kind : Nat} (hC : ∀ y' a h' r, y' < znm → C y' a h' = some r → zMet l y' a h' r) (X : zCtx p R s m args meth c al CA D y) (hok : zcallOK y ix kind ax = true) (hd : decode (zMt y).2.1 pc = .ok (if kind = 0 then .invokevirtual ix else if kind = 1 then .invokestatic ix else .invokespecial ix, 3)) (h345 : ∀ a m r, ax = a :: m :: r → m ≠ 3 ∧ m ≠ 4 ∧ m ≠ 5) (hs : zinv C pc ax L st h = some x) (hH : zHH al CA D h H) (hL : zLh al ls (zMt y).2.2.1 L) (hlo : ∀ q ∈ locs, zA al q.base) (hr : cells + ((zhp x).length - h.length) ≤ R.cells ∧ slots + (zss (zhp x) - zss h) ≤ R.slots) (k : zGo p l e R s m args below meth c cells slots Q al CA D y h x) : W p l e R s m args below meth c H locs cells slots Q (F0 m pc ls (st.map (zv al))) := by
  obtain ⟨hx, hb, hml, hown, hts, hK, hal, hfr, hlc, -⟩ := X
  unfold zinv at hs
  split at hs
  · rename_i y' mode n ci r
    obtain ⟨n3, n4, n5⟩ := h345 _ _ _ rfl
    obtain ⟨p1, p2, p3, p4, lk, lp, rfl⟩ : ∃ p1 p2 p3 p4 lk lp, r = [p1, p2, p3, p4, lk, lp] := by
      rcases r with _ | ⟨p1, _ | ⟨p2, _ | ⟨p3, _ | ⟨p4, _ | ⟨lk, _ | ⟨lp, _ | ⟨z, r⟩⟩⟩⟩⟩⟩⟩ <;> first | exact ⟨_, _, _, _, _, _, rfl⟩ | (exfalso; revert hok; unfold zcallOK; split <;> simp_all)
    obtain ⟨a1, a2, a3, a4, a5, a6, a7, a8, a9, a10, a11, a12⟩ := zcall_ok hok n3 n4 n5
    split at hs
    · rename_i hn
      have hini := hts _ (zw_mem a3)
      have hG := zgoodIn a4
      have hrest : ∀ rest : List Value, ((rest.map fun v => v.category).sum ≤ 8) → 2 * (F0 m pc ls (st.map (zv al))).monitorRoom + ((rest.map (zv al)).map fun v => v.category).sum ≤ 8 := fun rest q => lv_room (by rw [zv_cats]; exact q)
      have hlink0 : lk = 0 → (Jvm.Cond.methodLink (zMt y).1.cls ix (zMt y').1).before args s = true := fun q => by
        subst q
        exact hts _ (zw_mem a2)
      have hnest : lk ≠ 0 → ∃ host, (Jvm.Cond.methodLinkNest (zMt y).1.cls ix (zMt y').1 host).before args s = true ∧ va_Nw (.methodLinkNest (zMt y).1.cls ix (zMt y').1 host) s := fun q => by
        unfold zlink at a2
        split at a2
        · exact absurd rfl q
        · split at a2
          · rename_i w hw
            simp only [decide_eq_true_eq] at a2
            have := hK.2.2.2.1 w (List.mem_of_getElem? hw)
            rw [a2.1, a2.2.1, a2.2.2] at this
            exact ⟨_, va_Nw.use rfl this, this⟩
          · simp at a2
      have hR : (zMt y').2.2.2.2.1 + 1 ≤ R.frames ∧ 8 + ((zMt y').2.2.1 + 11) + (zMt y').2.2.2.2.2 ≤ R.locals := ⟨Nat.le_trans a7 hfr, Nat.le_trans a8 hlc⟩
      split at hs
      · -- on no object
        obtain ⟨q, hq, hxq⟩ := zback_inr hs
        have hM := hC _ _ _ _ a1 hq al CA D hal
        have hsta := hts _ (zw_mem (a11 rfl))
        rw [hxq] at hr
        have hlen : ((st.take n).reverse.map (zv al)).length = n := by rw [List.length_map, List.length_reverse, List.length_take]; omega
        have hk9 : kind = 1 := a9
        subst hk9
        refine zbackW hxq hlo hL k (a := ((st.take n).reverse.map (zv al)).toArray) ?_
        by_cases hlk : lk = 0
        · exact va_runS (As := (st.take n).reverse.map (zv al)) (rest := (st.drop n).map (zv al)) (n := n) (index := ix) ⟨hx, hb, hml, hown, hts⟩ hM ⟨callB_of n hts hG rfl rfl rfl hini (hlink0 hlk) ⟨a5.1, a5.2, a6⟩ hR, hsta⟩ ⟨zPc_blind, zPre hK hH _ rfl⟩ rfl hlen hL.2.1 (zstack al hn.1) (hrest _ hn.2) hd ⟨hr.1, hr.2⟩
        · obtain ⟨host, g1, g2⟩ := hnest hlk
          exact va_runSN (As := (st.take n).reverse.map (zv al)) (rest := (st.drop n).map (zv al)) (n := n) (index := ix) ⟨hx, hb, hml, hown, hts⟩ hM ⟨va_cnB n hts hG rfl rfl rfl g2 hini ⟨a5.1, a5.2, a6⟩ hR, hsta, trivial⟩ ⟨zPc_blind, zPre hK hH _ rfl⟩ rfl hlen hL.2.1 (zstack al hn.1) (hrest _ hn.2) hd ⟨hr.1, hr.2⟩
      · -- on an object
        split at hs
        · rename_i b rest hdrop
          split at hs
          · rename_i cc fs hcb
            split at hs
            · rename_i hcc
              subst hcc
              obtain ⟨q, hq, hxq⟩ := zback_inr hs
              have hM := hC _ _ _ _ a1 hq al CA D hal
              obtain ⟨b1, b2, b3, b4, b5⟩ := a10 rfl
              rw [hxq] at hr
              have hlen : ((st.take n).reverse.map (zv al)).length = n := by rw [List.length_map, List.length_reverse, List.length_take]; omega
              have hk9 : kind = 0 := a9
              subst hk9
              have hat := zAo (hH.2.2 _ _ hcb)
              obtain ⟨rr, g1, cell, p1', p2', p3', -⟩ := hat.2
              cases (zcl_at b2).symm.trans g1
              have hsum : (rest.map fun v => v.category).sum ≤ 8 := by
                have := hn.2
                rw [hdrop] at this
                simp only [List.map_cons, List.sum_cons] at this
                omega
              refine zbackW hxq hlo hL k (a := (Value.ref (al b) :: (st.take n).reverse.map (zv al)).toArray) ?_
              exact va_runV (b := al b) (C := (zMt y').1.cls) (As := (st.take n).reverse.map (zv al)) (rest := rest.map (zv al)) (n := n) (index := ix) ⟨hx, hb, hml, hown, hts⟩ hM ⟨callB_of n hts hG rfl rfl rfl hini (hlink0 b1) ⟨a5.1, a5.2, a6⟩ hR, hts _ (zw_mem b4), hts _ (zw_mem b5)⟩ ⟨zPc_blind, ⟨cell, p1', by rw [p3']; rfl, by rw [p2', ← b3]; exact (hK.1.1 cc _ (zcl_at b2)).2.1⟩, zPre hK hH _ rfl⟩ rfl hlen hL.2.1 (by show st.map (zv al) = _; rw [zstack al hn.1, hdrop]; rfl) (hrest _ hsum) hd ⟨hr.1, hr.2⟩
            · simp at hs
          · simp at hs
        · simp at hs
      · -- a constructor
        split at hs
        · rename_i b rest hdrop
          obtain ⟨q, hq, hxq⟩ := zback_inr hs
          have hM := hC _ _ _ _ a1 hq al CA D hal
          obtain ⟨b1, b2, b3⟩ := a12 rfl
          rw [hxq] at hr
          have hlen : ((st.take n).reverse.map (zv al)).length = n := by rw [List.length_map, List.length_reverse, List.length_take]; omega
          have hk9 : kind = 2 := a9
          subst hk9
          have hsum : (rest.map fun v => v.category).sum ≤ 8 := by
            have := hn.2
            rw [hdrop] at this
            simp only [List.map_cons, List.sum_cons] at this
            omega
          have hwn : zws y' = .code (zMt y').1 (zMt y').2.1 (zMt y').2.2.1 none :: zall := by unfold zws; rw [b3]
          refine zbackW hxq hlo hL k (a := (Value.ref (al b) :: (st.take n).reverse.map (zv al)).toArray) ?_
          by_cases hlk : lk = 0
          · exact va_runI (b := al b) (As := (st.take n).reverse.map (zv al)) (rest := rest.map (zv al)) (n := n) (index := ix) ⟨hx, hb, hml, hown, hts⟩ hM ⟨callB_of n hts hG hwn rfl rfl hini (hlink0 hlk) ⟨a5.1, a5.2, a6⟩ hR, b2, hts _ (zw_mem b1)⟩ ⟨zPc_blind, zPre hK hH _ rfl⟩ rfl hlen hL.2.1 (by show st.map (zv al) = _; rw [zstack al hn.1, hdrop]; rfl) (hrest _ hsum) hd ⟨hr.1, hr.2⟩
          · obtain ⟨host, g1, g2⟩ := hnest hlk
            exact va_runIN (b := al b) (As := (st.take n).reverse.map (zv al)) (rest := rest.map (zv al)) (n := n) (index := ix) ⟨hx, hb, hml, hown, hts⟩ hM ⟨va_cnB n hts hG hwn rfl rfl g2 hini ⟨a5.1, a5.2, a6⟩ hR, b2, hts _ (zw_mem b1)⟩ ⟨zPc_blind, zPre hK hH _ rfl⟩ rfl hlen hL.2.1 (by show st.map (zv al) = _; rw [zstack al hn.1, hdrop]; rfl) (hrest _ hsum) hd ⟨hr.1, hr.2⟩
        · simp at hs
      · simp at hs
    · simp at hs
  · simp at hs
end ZC

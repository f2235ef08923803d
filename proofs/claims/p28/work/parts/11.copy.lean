/-! System.arraycopy -/
section ZCP
variable {p : Program} {l : Launch} {e : Env} {R : Room} {s : State} {m : MethodId} {args : Array Value} {below : List Frame} {meth : Method} {c : Code} {H : Heap} {locs : List Loc} {cells slots : Nat} {Q : State → Prop}
variable {al : Nat → Nat} {CA : Nat → ClassId} {D : va_G} {y pc : Nat} {ls : Array Slot} {ax : List Nat} {L : zL} {st : List Value} {h : zH} {x : zR ⊕ zS} {kr : Nat}
theorem znn (z : Int32) (hz : ¬ z < 0) : z.toInt = (z.toNatClampNeg : Int) := by
  have hz0 : (0 : Int) ≤ z.toInt := by
    have := Int32.not_lt.mp hz
    simpa using Int32.le_iff_toInt_le.mp this
  show z.toInt = ((z.toInt.toNat : Nat) : Int)
  omega
/-- behind a copy -/
theorem zcopy_end {T : State} {vm' : Vm} {d : Nat} {e0 e' : zE} {cell : Cell} (hT : T.heap = H) (hal : zal al) (hH : zHH al CA D h H) (hlo : ∀ q ∈ locs, zA al q.base) (hd : h[d + 1]? = some e0) (hin : ∀ a, e' = .inl a → a.1 ∈ zkin) (hcell : ∀ H1 : Heap, H1[al (d + 1)]? = some cell → va_at D zcl (al (d + 1), zmc al CA e') H1) {L1 : List Loc} (hL1 : ∀ q ∈ L1, q.base = al (d + 1)) :
    zHH al CA D (h.set (d + 1) e') (((T.setVm vm').setCell (al (d + 1)) cell).heap) ∧ ∀ q ∈ locs ++ L1, zA al q.base := by
  have hheap : ((T.setVm vm').setCell (al (d + 1)) cell).heap = H.setIfInBounds (al (d + 1)) cell := by rw [← hT]; rfl
  have hl : al (d + 1) < H.size := zAt_lt (hH.2.2 _ _ hd)
  rw [hheap]
  refine ⟨zHH_set hal hH (List.getElem?_eq_some_iff.mp hd).1 (by simp) (fun q hq => by simp [Array.getElem?_setIfInBounds, Ne.symm hq]) ⟨hin, hcell _ (by simp [Array.getElem?_setIfInBounds, hl])⟩, fun q hq => ?_⟩
  rcases List.mem_append.mp hq with h1 | h1
  · exact hlo _ h1
  · exact ⟨d + 1, by omega, Nat.le_of_eq (hL1 q h1).symm⟩
set_option maxHeartbeats 1000000 in
theorem zcopyW {ix kind z p1 p2 p3 p4 : Nat} (X : zCtx p R s m args meth c al CA D y) (hok : zcallOK y ix kind [z, 3, p1, p2, p3, p4] = true) (hd : decode (zMt y).2.1 pc = .ok (if kind = 0 then .invokevirtual ix else if kind = 1 then .invokestatic ix else .invokespecial ix, 3)) (hs : zcopy pc L st h = some x) (hH : zHH al CA D h H) (hL : zLh al ls (zMt y).2.2.1 L) (hlo : ∀ q ∈ locs, zA al q.base) (k : zGo p l e R s m args below meth c cells slots Q al CA D y h x) : W p l e R s m args below meth c H locs cells slots Q (F0 m pc ls (st.map (zv al))) := by
  obtain ⟨hx, hb, hml, hown, hts, hK, hal, hfr, hlc, -⟩ := X
  simp only [zcallOK, Bool.and_eq_true, decide_eq_true_eq] at hok
  obtain ⟨⟨⟨⟨⟨⟨rfl, h1⟩, h2⟩, h3⟩, h4⟩, h5⟩, h6⟩ := hok
  simp only [zcopy, zgo] at hs
  split at hs
  · split at hs
    · simp at hs
    · rename_i n dp d sp i st2 hcond
      have hn : ¬ n < 0 := fun q => hcond (Or.inl q)
      have hdp : ¬ dp < 0 := fun q => hcond (Or.inr (Or.inl q))
      have hsp : ¬ sp < 0 := fun q => hcond (Or.inr (Or.inr (Or.inl q)))
      have hsum : (st2.map fun v => v.category).sum ≤ 8 := Nat.not_lt.mp fun q => hcond (Or.inr (Or.inr (Or.inr (Or.inr q))))
      have hcat := zv_cats al st2
      split at hs
      · rename_i n0 f n1 g hc0 hc1
        split at hs
        · rename_i hle
          obtain ⟨g4, g5⟩ := hle
          have at0 := zAs (hH.2.2 _ _ hc0)
          have at1 := zAs (hH.2.2 _ _ hc1)
          have hkin : (0 : Nat) ∈ zkin := at0.1 _ rfl
          have hk := hK.2.1 0 (at0.1 _ rfl)
          have hcc0 : H[al (i + 1)]? = some (vp_cell (CA 0) (n0, .inl f)) := at0.2
          have hcc1 : H[al (d + 1)]? = some (vp_cell (CA 0) (n1, .inl g)) := at1.2
          obtain ⟨-, k0, hk0, cm0, hkk0⟩ := hk.1 n0 (fun j => .int (f j))
          intro T hT Xs
          obtain ⟨vm', X', step⟩ := Xs.arraycopy hx hown (hts _ (zw_mem h1)) (hts _ (zw_mem h2)) (hts _ (zw_mem h3)) (hts _ (zw_mem h4)) (src := al (i + 1)) (dst := al (d + 1)) (cs := vp_cell (CA 0) (n0, .inl f)) (cd := vp_cell (CA 0) (n1, .inl g)) (srcPos := sp) (destPos := dp) (n := n) (by rw [hT]; exact hcc0) (by rw [hT]; exact hcc1)
            (fun _ h => by cases h) (fun _ h => by cases h) (fun h => by cases h) (fun h => by cases h) hk0 hk0 hkk0 hkk0 rfl hsp hdp hn
            (by rw [znn sp hsp, znn n hn]; show ¬ _ > ((arrV (CA 0) n0 (fun j => .int (f j))).slots.size : Int); rw [arrV_size]; omega)
            (by rw [znn dp hdp, znn n hn]; show ¬ _ > ((arrV (CA 0) n1 (fun j => .int (g j))).slots.size : Int); rw [arrV_size]; omega)
            (fun vm₁ _ j hj => by
              have e : (vp_cell (CA 0) (n0, .inl f)).slots.getD (sp.toNatClampNeg + j) .null = .int (f (sp.toNatClampNeg + j)) := by
                show (arrV (CA 0) n0 (fun j => .int (f j))).slots.getD _ _ = _
                rw [Array.getD_eq_getD_getElem?, arrV_read _ _ (by omega)]
                rfl
              refine ⟨?_, ?_⟩
              · rw [e]
                rfl
              · rw [e]
                exact trivial)
            (g := F0 m pc ls ((Value.int n :: .int dp :: .ref (d + 1) :: .int sp :: .ref (i + 1) :: st2).map (zv al))) rfl (by rw [hml]; exact hL.2.1) (rest := st2.map (zv al)) rfl (by rw [hb]; exact hd) (Nat.le_trans h5 hfr) (by show 2 * 0 + _ + _ ≤ _; omega)
          have e1 : copied (vp_cell (CA 0) (n0, .inl f)) (vp_cell (CA 0) (n1, .inl g)) sp dp n = vp_cell (CA 0) (n1, .inl (va_cpy f g sp.toNatClampNeg dp.toNatClampNeg n.toNatClampNeg)) := va_copied (fun z => .int z) (CA 0) (CA 0) f g g4
          rw [e1] at X' step
          obtain ⟨q1, q2⟩ := zcopy_end (vm' := vm') (cell := vp_cell (CA 0) (n1, .inl (va_cpy f g sp.toNatClampNeg dp.toNatClampNeg n.toNatClampNeg))) (e' := .inl (0, n1, .inl (va_cpy f g sp.toNatClampNeg dp.toNatClampNeg n.toNatClampNeg))) hT hal hH hlo hc1 (fun a ha => (by cases ha; exact hkin)) (fun H1 h => h) (L1 := (Cell.stretch (vp_cell (CA 0) (n0, .inl f)) sp.toNatClampNeg n.toNatClampNeg).zipIdx.map fun q => (⟨al (d + 1), dp.toNatClampNeg + q.2⟩ : Loc)) (fun q hq => by obtain ⟨z, -, hz⟩ := List.mem_map.mp hq; rw [← hz])
          obtain ⟨t, a1, b1⟩ := k.put hc1 (by simp [zsz]) q1 q2 hs hL _ rfl X'
          exact ⟨t, step t a1, b1⟩
        · simp at hs
      · rename_i n0 f n1 g hc0 hc1
        split at hs
        · rename_i hle
          obtain ⟨g4, g5, g6⟩ := hle
          have at0 := zAs (hH.2.2 _ _ hc0)
          have at1 := zAs (hH.2.2 _ _ hc1)
          have hkin : (3 : Nat) ∈ zkin := at0.1 _ rfl
          have hk := hK.2.1 3 (at0.1 _ rfl)
          obtain ⟨⟨k3, kc, r1, r2, r3⟩, -⟩ := hK.2.2.1 (at0.1 _ rfl)
          have hcc0 : H[al (i + 1)]? = some (vp_cell (CA 3) (n0, .inr (.inr (.inr (.inr (fun j => (f j).map al)))))) := at0.2
          have hcc1 : H[al (d + 1)]? = some (vp_cell (CA 3) (n1, .inr (.inr (.inr (.inr (fun j => (g j).map al)))))) := at1.2
          obtain ⟨-, k0, hk0, cm0, hkk0⟩ := hk.1 n0 (fun j => va_rf ((f j).map al))
          cases hk0.symm.trans r1
          cases hkk0.symm.trans r2
          intro T hT Xs
          obtain ⟨vm', X', step⟩ := Xs.arraycopy hx hown (hts _ (zw_mem h1)) (hts _ (zw_mem h2)) (hts _ (zw_mem h3)) (hts _ (zw_mem h4)) (src := al (i + 1)) (dst := al (d + 1)) (cs := vp_cell (CA 3) (n0, .inr (.inr (.inr (.inr (fun j => (f j).map al)))))) (cd := vp_cell (CA 3) (n1, .inr (.inr (.inr (.inr (fun j => (g j).map al)))))) (srcPos := sp) (destPos := dp) (n := n) (by rw [hT]; exact hcc0) (by rw [hT]; exact hcc1)
            (fun _ h => by cases h) (fun _ h => by cases h) (fun h => by cases h) (fun h => by cases h) r1 r1 r2 r2 rfl hsp hdp hn
            (by rw [znn sp hsp, znn n hn]; show ¬ _ > ((arrV (CA 3) n0 (fun j => va_rf ((f j).map al))).slots.size : Int); rw [arrV_size]; omega)
            (by rw [znn dp hdp, znn n hn]; show ¬ _ > ((arrV (CA 3) n1 (fun j => va_rf ((g j).map al))).slots.size : Int); rw [arrV_size]; omega)
            (fun vm₁ hal1 j hj => by
              have e : (vp_cell (CA 3) (n0, .inr (.inr (.inr (.inr (fun j => (f j).map al)))))).slots.getD (sp.toNatClampNeg + j) .null = va_rf ((f (sp.toNatClampNeg + j)).map al) := by
                show (arrV (CA 3) n0 (fun j => va_rf ((f j).map al))).slots.getD _ _ = _
                rw [Array.getD_eq_getD_getElem?, arrV_read _ _ (by omega)]
                rfl
              rw [e]
              have hrow := List.all_eq_true.mp g6 j (List.mem_range.mpr hj)
              cases hy : f (sp.toNatClampNeg + j) with
              | none => exact ⟨rfl, trivial⟩
              | some r0 =>
                rw [hy] at hrow
                cases r0 with
                | zero => simp [zrow] at hrow
                | succ r =>
                simp only [zrow] at hrow
                split at hrow
                · rename_i nr fr hr
                  have atr := zAs (hH.2.2 _ _ hr)
                  obtain ⟨kc1, hkc1, -⟩ := hal1.2.2 _ _ r3
                  refine ⟨rfl, vp_cell (CA 0) (nr, .inl fr), (show T.heap[al _]? = some _ by rw [hT]; exact atr.2), (fun q h => by cases h), ⟨kc1, hkc1⟩, ⟨kc1, hkc1⟩, ?_⟩
                  show vm₁.assignable (CA 0) (CA 0) = true
                  exact va_asg _ _
                · simp at hrow)
            (g := F0 m pc ls ((Value.int n :: .int dp :: .ref (d + 1) :: .int sp :: .ref (i + 1) :: st2).map (zv al))) rfl (by rw [hml]; exact hL.2.1) (rest := st2.map (zv al)) rfl (by rw [hb]; exact hd) (Nat.le_trans h5 hfr) (by show 2 * 0 + _ + _ ≤ _; omega)
          have e1 : copied (vp_cell (CA 3) (n0, .inr (.inr (.inr (.inr (fun j => (f j).map al)))))) (vp_cell (CA 3) (n1, .inr (.inr (.inr (.inr (fun j => (g j).map al)))))) sp dp n = vp_cell (CA 3) (n1, .inr (.inr (.inr (.inr (fun j => (va_cpy f g sp.toNatClampNeg dp.toNatClampNeg n.toNatClampNeg j).map al))))) := by
            rw [vp_cell_q, vp_cell_q, vp_cell_q]
            refine (va_copied (fun z => va_rf z) (CA 3) (CA 3) (fun j => (f j).map al) (fun j => (g j).map al) g4).trans ?_
            congr 1
            funext j
            unfold va_cpy
            split <;> rfl
          rw [e1] at X' step
          obtain ⟨q1, q2⟩ := zcopy_end (vm' := vm') (cell := vp_cell (CA 3) (n1, .inr (.inr (.inr (.inr (fun j => (va_cpy f g sp.toNatClampNeg dp.toNatClampNeg n.toNatClampNeg j).map al)))))) (e' := .inl (3, n1, .inr (.inr (.inr (.inr (va_cpy f g sp.toNatClampNeg dp.toNatClampNeg n.toNatClampNeg)))))) hT hal hH hlo hc1 (fun a ha => (by cases ha; exact hkin)) (fun H1 h => h) (L1 := (Cell.stretch (vp_cell (CA 3) (n0, .inr (.inr (.inr (.inr (fun j => (f j).map al)))))) sp.toNatClampNeg n.toNatClampNeg).zipIdx.map fun q => (⟨al (d + 1), dp.toNatClampNeg + q.2⟩ : Loc)) (fun q hq => by obtain ⟨z, -, hz⟩ := List.mem_map.mp hq; rw [← hz])
          obtain ⟨t, a1, b1⟩ := k.put hc1 (by simp [zsz]) q1 q2 hs hL _ rfl X'
          exact ⟨t, step t a1, b1⟩
        · simp at hs
      · simp at hs
  · simp at hs
end ZCP

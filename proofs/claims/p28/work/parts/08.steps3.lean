/-! new cells, rows -/
section ZST3
variable {p : Program} {l : Launch} {e : Env} {R : Room} {s : State} {m : MethodId} {args : Array Value} {below : List Frame} {meth : Method} {c : Code} {H : Heap} {locs : List Loc} {cells slots : Nat} {Q : State → Prop}
variable {al : Nat → Nat} {CA : Nat → ClassId} {D : va_G} {y pc : Nat} {ls : Array Slot} {ax : List Nat} {L : zL} {st : List Value} {h : zH} {x : zR ⊕ zS} {kr : Nat}
theorem zs_new {ix : Nat} (X : zCtx p R s m args meth c al CA D y) (hok : zOK y pc (.new ix) ax = true) (hs : zbase kr pc (.new ix) ax L st h = some x) (hH : zHH al CA D h H) (hL : zLh al ls (zMt y).2.2.1 L) (hlo : ∀ q ∈ locs, zA al q.base) (hr : cells + ((zhp x).length - h.length) ≤ R.cells ∧ slots + (zss (zhp x) - zss h) ≤ R.slots) (k : zGo p l e R s m args below meth c cells slots Q al CA D y h x) : W p l e R s m args below meth c H locs cells slots Q (F0 m pc ls (st.map (zv al))) := by
  have hd := zdc_of hok rfl
  obtain ⟨hx, hb, -, hown, hts, hK, hal, -⟩ := X
  simp only [zbase, znew, zgo] at hs
  split at hs
  · rename_i ci q1 q2 q3 ds
    simp only [zOK, Bool.and_eq_true, decide_eq_true_eq, List.all_eq_true, List.mem_range] at hok
    obtain ⟨-, ⟨⟨⟨⟨h1, h2⟩, h3⟩, h4⟩, h5⟩, h6⟩ := hok
    obtain ⟨hin, hty, hnm⟩ := zcl_ok h1
    have hxe := Option.some.inj hs
    rw [← hxe] at hr
    simp only [zhp, List.length_append, List.length_singleton, zss_app, zsz, Nat.add_sub_cancel_left, h5] at hr
    have hKn := hK.1.1 ci _ (zcl_at h1)
    refine W.newcK hx hb hown (hts _ (zw_mem h2)) (hts _ (zw_mem h3)) (hts _ (zw_mem h4)) rfl hd hr.1 hr.2 hKn.2.1 rfl fun H1 kC hkC e1 z1 o1 => ?_
    have hnew := hH.2.1
    have hHH : zHH al CA D (h ++ [.inr (ci, zdef ds)]) H1 := by
      refine zHH_app hal hH z1 o1 ⟨fun a ha => (by cases ha), _, zcl_at h1, ?_⟩
      show t_OB (al h.length) (D.1 ci) (zcK ci) (D.2 ci) H1 (vp_V ((zdef ds).map (zv al)))
      rw [← hnew]
      refine (u_born (ztyp ci) hts hin hKn hkC e1 hty).to fun j hj => ?_
      rw [h6 j hj]
      unfold vp_V
      rw [List.getD_eq_getElem?_getD, List.getD_eq_getElem?_getD, List.getElem?_map]
      cases hg : (zdef ds)[j]? with
      | none => rfl
      | some v =>
        have : v = .int 0 ∨ v = .null := by
          have hm := List.mem_of_getElem? hg
          clear hg h6 h5 hs hr hxe
          induction ds with
          | nil => simp [zdef] at hm
          | cons a r ih =>
            cases a with
            | zero =>
              simp only [zdef] at hm
              rcases List.mem_cons.mp hm with q | q
              · exact Or.inl q
              · exact ih q
            | succ a =>
              simp only [zdef] at hm
              rcases List.mem_cons.mp hm with q | q
              · exact Or.inr q
              · exact ih q
        rcases this with rfl | rfl <;> rfl
    have := k.app (H' := H1) hHH hlo hs hL
    rw [show zsz (.inr (ci, zdef ds)) = zcK ci from h5] at this
    rw [hnew]
    exact this
  · simp at hs
theorem zs_newarray {a : ArrayType} (X : zCtx p R s m args meth c al CA D y) (hok : zOK y pc (.newarray a) ax = true) (hs : zbase kr pc (.newarray a) ax L st h = some x) (hH : zHH al CA D h H) (hL : zLh al ls (zMt y).2.2.1 L) (hlo : ∀ q ∈ locs, zA al q.base) (hr : cells + ((zhp x).length - h.length) ≤ R.cells ∧ slots + (zss (zhp x) - zss h) ≤ R.slots) (k : zGo p l e R s m args below meth c cells slots Q al CA D y h x) : W p l e R s m args below meth c H locs cells slots Q (F0 m pc ls (st.map (zv al))) := by
  have hd := zdc_of hok rfl
  obtain ⟨hx, hb, -, hown, hts, hK, hal, -⟩ := X
  simp only [zbase, znewa, zgo] at hs
  split at hs
  · rename_i n st2 t r
    cases r with
    | nil => simp [zOK] at hok
    | cons q1 r =>
      simp only [zOK, Bool.and_eq_true, decide_eq_true_eq] at hok
      obtain ⟨-, ⟨⟨h1, h2⟩, h3⟩, h4⟩ := hok
      split at hs
      · simp at hs
      · rename_i hn
        have hn1 : ¬ n < 0 := fun q => hn (Or.inl q)
        have hn2 : n.toNatClampNeg ≤ 10000 := Nat.not_lt.mp fun q => hn (Or.inr q)
        have hxe := Option.some.inj hs
        rw [← hxe] at hr
        have hz : zsz (.inl (t, zdefA t n.toNatClampNeg)) = n.toNatClampNeg := by
          show (zdefA t n.toNatClampNeg).1 = _
          unfold zdefA
          split <;> rfl
        simp only [zhp, List.length_append, List.length_singleton, zss_app, hz, Nat.add_sub_cancel_left] at hr
        have hkt : newarray.typeOf a = zkty t := by
          subst h1
          cases a <;> first | rfl | simp [zat1] at h2
        refine va_newaK hx hb (hts _ (zw_mem h4)) rfl hd rfl hn1 rfl (by
          have : componentBytes (newarray.typeOf a) ≤ 8 := by cases a <;> decide
          calc n.toNatClampNeg * componentBytes (newarray.typeOf a) ≤ 10000 * 8 := Nat.mul_le_mul hn2 this
            _ ≤ 536870912 := by decide) hr.1 hr.2 rfl fun H1 cA e1 z1 o1 hAr hNm => ?_
        have hnew := hH.2.1
        have hcA : cA = CA t := by
          have h9 := (hK.2.1 t h3).2
          rw [← hkt] at h9
          rw [hNm] at h9
          exact Option.some.inj h9
        have hHH : zHH al CA D (h ++ [.inl (t, zdefA t n.toNatClampNeg)]) H1 := by
          refine zHH_app hal hH z1 o1 ⟨fun b hb2 => (by cases hb2; exact h3), ?_⟩
          show H1[al h.length]? = some (vp_cell (CA t) (zca al (zdefA t n.toNatClampNeg)))
          rw [← hnew, e1, hcA, hkt]
          rcases (show t = 0 ∨ t = 1 ∨ t = 2 by omega) with rfl | rfl | rfl <;> rfl
        have := k.app (H' := H1) hHH hlo hs hL
        rw [hz] at this
        rw [hnew]
        exact this
  · simp at hs
theorem zs_anewarray {ix : Nat} (X : zCtx p R s m args meth c al CA D y) (hok : zOK y pc (.anewarray ix) ax = true) (hs : zbase kr pc (.anewarray ix) ax L st h = some x) (hH : zHH al CA D h H) (hL : zLh al ls (zMt y).2.2.1 L) (hlo : ∀ q ∈ locs, zA al q.base) (hr : cells + ((zhp x).length - h.length) ≤ R.cells ∧ slots + (zss (zhp x) - zss h) ≤ R.slots) (k : zGo p l e R s m args below meth c cells slots Q al CA D y h x) : W p l e R s m args below meth c H locs cells slots Q (F0 m pc ls (st.map (zv al))) := by
  have hd := zdc_of hok rfl
  obtain ⟨hx, hb, -, hown, hts, hK, hal, -⟩ := X
  simp only [zbase, znewa, zgo] at hs
  split at hs
  · rename_i n st2 t r
    cases r with
    | nil => simp [zOK] at hok
    | cons q1 r =>
      simp only [zOK, Bool.and_eq_true, decide_eq_true_eq] at hok
      obtain ⟨-, ⟨h1, h3⟩, h4⟩ := hok
      subst h1
      split at hs
      · simp at hs
      · rename_i hn
        have hn1 : ¬ n < 0 := fun q => hn (Or.inl q)
        have hn2 : n.toNatClampNeg ≤ 10000 := Nat.not_lt.mp fun q => hn (Or.inr q)
        have hxe := Option.some.inj hs
        rw [← hxe] at hr
        have hz : zsz (.inl (3, zdefA 3 n.toNatClampNeg)) = n.toNatClampNeg := rfl
        simp only [zhp, List.length_append, List.length_singleton, zss_app, hz, Nat.add_sub_cancel_left] at hr
        obtain ⟨-, hAO⟩ := hK.2.2.1 h3
        refine W.anewA (t := .int) hx hb hown (hts _ (zw_mem h4)) hAO rfl hd rfl hn1 (by omega) hr.1 hr.2 fun cA kA comp hNm hkA hkind hcomp => ?_
        have hnew := hH.2.1
        have hcA : cA = CA 3 := by
          have h9 := (hK.2.1 3 h3).2
          rw [show zkty 3 = .array .int from rfl, hNm] at h9
          exact Option.some.inj h9
        have hHH : zHH al CA D (h ++ [.inl (3, zdefA 3 n.toNatClampNeg)]) (H.push { cls := cA, slots := Array.replicate n.toNatClampNeg .null, vm := .none }) := by
          refine zHH_app hal hH (by simp) (fun q hq => by rw [Array.getElem?_push, if_neg (Nat.ne_of_lt hq)]) ⟨fun b hb2 => (by cases hb2; exact h3), ?_⟩
          show (H.push _)[al h.length]? = some (vp_cell (CA 3) (zca al (zdefA 3 n.toNatClampNeg)))
          rw [← hnew, arrV_new, hcA]
          simp
          rfl
        have := k.app hHH hlo hs hL
        rw [hz] at this
        rw [hnew]
        exact this
  · simp at hs
theorem zs_arraylength (X : zCtx p R s m args meth c al CA D y) (hok : zOK y pc .arraylength ax = true) (hs : zbase kr pc .arraylength ax L st h = some x) (hH : zHH al CA D h H) (hL : zLh al ls (zMt y).2.2.1 L) (hlo : ∀ q ∈ locs, zA al q.base) (k : zGo p l e R s m args below meth c cells slots Q al CA D y h x) : W p l e R s m args below meth c H locs cells slots Q (F0 m pc ls (st.map (zv al))) := by
  have hd := zdc_of hok rfl
  obtain ⟨hx, hb, -, hown, hts, hK, -⟩ := X
  simp only [zbase, zalen, zgo] at hs
  split at hs
  · split at hs
    · rename_i i st2 _ t n f hc
      rcases hH.2.2 _ _ hc with hat | ⟨rfl, n', f', e', scr, q1, q2, q3, q4, q5, q6⟩
      · have ht := (hK.2.1 t (hat.1 _ rfl)).1
        have hcell : H[al i]? = some (vp_cell (CA t) (zca al (n, f))) := hat.2
        obtain f | f | f | f | f := f
        · exact W.alen (n := Int32.ofNat n) hx hb hcell (ht n (fun j => .int (f j))) (by show (arrV _ _ _).slots.size.toInt32 = _; rw [arrV_size]; rfl) rfl rfl hd (k.same hH hlo hs hL)
        · exact W.alen (n := Int32.ofNat n) hx hb hcell (ht n (fun j => .long (f j))) (by show (arrV _ _ _).slots.size.toInt32 = _; rw [arrV_size]; rfl) rfl rfl hd (k.same hH hlo hs hL)
        · exact W.alen (n := Int32.ofNat n) hx hb hcell (ht n (fun j => .float (f j))) (by show (arrV _ _ _).slots.size.toInt32 = _; rw [arrV_size]; rfl) rfl rfl hd (k.same hH hlo hs hL)
        · exact W.alen (n := Int32.ofNat n) hx hb hcell (ht n (fun j => .double (f j))) (by show (arrV _ _ _).slots.size.toInt32 = _; rw [arrV_size]; rfl) rfl rfl hd (k.same hH hlo hs hL)
        · exact W.alen (n := Int32.ofNat n) hx hb hcell (ht n (fun j => va_rf ((f j).map al))) (by show (arrV _ _ _).slots.size.toInt32 = _; rw [arrV_size]; rfl) rfl rfl hd (k.same hH hlo hs hL)
      · cases e'
        exact W.alen (n := Int32.ofNat n) hx hb q1 (zK9_is hK.2.2.2.2 q2 q3) (by rw [q5] <;> rfl) rfl rfl hd (k.same hH hlo hs hL)
    · simp at hs
  · simp at hs
theorem zs_iaload (X : zCtx p R s m args meth c al CA D y) (hok : zOK y pc .iaload ax = true) (hs : zbase kr pc .iaload ax L st h = some x) (hH : zHH al CA D h H) (hL : zLh al ls (zMt y).2.2.1 L) (hlo : ∀ q ∈ locs, zA al q.base) (k : zGo p l e R s m args below meth c cells slots Q al CA D y h x) : W p l e R s m args below meth c H locs cells slots Q (F0 m pc ls (st.map (zv al))) := by
  have hd := zdc_of hok rfl
  obtain ⟨hx, hb, -, hown, hts, hK, -⟩ := X
  simp only [zbase, ziald, zgo] at hs
  split at hs
  · split at hs
    · rename_i j i st2 _ n f hc
      split at hs
      · simp at hs
      · rename_i hin
        have hlt : j.toNatClampNeg < n := Nat.not_le.mp fun q => hin (Or.inr q)
        rcases hH.2.2 _ _ hc with hat | ⟨rfl, n', f', e', scr, q1, q2, q3, q4, q5, q6⟩
        · have ht := (hK.2.1 0 (hat.1 _ rfl)).1
          exact W.iald (v := .int (f j.toNatClampNeg)) hx hb (show H[al i]? = some (arrV (CA 0) n (fun j => .int (f j))) from hat.2) (ht n (fun j => .int (f j))) (fun q => by cases q) (by rw [arrV_size]; exact hin) (by rw [arrV_read _ _ hlt]) rfl rfl hd (k.same hH hlo hs hL)
        · cases e'
          exact W.iald (v := .int (f j.toNatClampNeg)) hx hb q1 (zK9_is hK.2.2.2.2 q2 q3) q4 (by rw [q5]; exact hin) (q6 _ hlt) rfl rfl hd (k.same hH hlo hs hL)
    · simp at hs
  · simp at hs
theorem zs_laload (X : zCtx p R s m args meth c al CA D y) (hok : zOK y pc .laload ax = true) (hs : zbase kr pc .laload ax L st h = some x) (hH : zHH al CA D h H) (hL : zLh al ls (zMt y).2.2.1 L) (hlo : ∀ q ∈ locs, zA al q.base) (k : zGo p l e R s m args below meth c cells slots Q al CA D y h x) : W p l e R s m args below meth c H locs cells slots Q (F0 m pc ls (st.map (zv al))) := by
  have hd := zdc_of hok rfl
  obtain ⟨hx, hb, -, hown, hts, hK, -⟩ := X
  simp only [zbase, zlald, zgo] at hs
  split at hs
  · split at hs
    · rename_i j i st2 _ n f hc
      split at hs
      · simp at hs
      · rename_i hin
        have hat := zAk (hH.2.2 _ _ hc) (by decide)
        have ht := (hK.2.1 1 (hat.1 _ rfl)).1
        have hlt : j.toNatClampNeg < n := Nat.not_le.mp fun q => hin (Or.inr q)
        exact W.lald (v := .long (f j.toNatClampNeg)) hx hb (show H[al i]? = some (arrV (CA 1) n (fun j => .long (f j))) from hat.2) (ht n (fun j => .long (f j))) (fun q => by cases q) (by rw [arrV_size]; exact hin) (by rw [arrV_read _ _ hlt]) rfl rfl hd (k.same hH hlo hs hL)
    · simp at hs
  · simp at hs
theorem zs_aaload (X : zCtx p R s m args meth c al CA D y) (hok : zOK y pc .aaload ax = true) (hs : zbase kr pc .aaload ax L st h = some x) (hH : zHH al CA D h H) (hL : zLh al ls (zMt y).2.2.1 L) (hlo : ∀ q ∈ locs, zA al q.base) (k : zGo p l e R s m args below meth c cells slots Q al CA D y h x) : W p l e R s m args below meth c H locs cells slots Q (F0 m pc ls (st.map (zv al))) := by
  have hd := zdc_of hok rfl
  obtain ⟨hx, hb, -, hown, hts, hK, -⟩ := X
  simp only [zbase, zaald, zgo] at hs
  split at hs
  · split at hs
    · rename_i j i st2 _ n f hc
      split at hs
      · simp at hs
      · rename_i hin
        split at hs
        · rename_i r hr
          have hat := zAk (hH.2.2 _ _ hc) (by decide)
          have ht := (hK.2.1 3 (hat.1 _ rfl)).1
          have hlt : j.toNatClampNeg < n := Nat.not_le.mp fun q => hin (Or.inr q)
          refine W.aald (v := va_rf ((f j.toNatClampNeg).map al)) (ty := .array .int) hx hb (show H[al i]? = some (arrV (CA 3) n (fun j => va_rf ((f j).map al))) from hat.2) (ht n (fun j => va_rf ((f j).map al))) rfl (fun q => by cases q) (by rw [arrV_size]; exact hin) (by rw [arrV_read _ _ hlt]) rfl rfl hd ?_
          rw [hr]
          exact k.same hH hlo hs hL
        · simp at hs
    · simp at hs
  · simp at hs
theorem zlo_app {al : Nat → Nat} {locs : List Loc} {i j : Nat} (hlo : ∀ q ∈ locs, zA al q.base) : ∀ q ∈ locs ++ [(⟨al (i + 1), j⟩ : Loc)], zA al q.base := fun q hq => by
  rcases List.mem_append.mp hq with h | h
  · exact hlo _ h
  · simp only [List.mem_singleton] at h
    subst h
    exact ⟨i + 1, by omega, Nat.le_refl _⟩
theorem zs_iastore (X : zCtx p R s m args meth c al CA D y) (hok : zOK y pc .iastore ax = true) (hs : zbase kr pc .iastore ax L st h = some x) (hH : zHH al CA D h H) (hL : zLh al ls (zMt y).2.2.1 L) (hlo : ∀ q ∈ locs, zA al q.base) (k : zGo p l e R s m args below meth c cells slots Q al CA D y h x) : W p l e R s m args below meth c H locs cells slots Q (F0 m pc ls (st.map (zv al))) := by
  have hd := zdc_of hok rfl
  obtain ⟨hx, hb, -, hown, hts, hK, hal, -⟩ := X
  simp only [zbase, ziast, zgo] at hs
  split at hs
  · split at hs
    · rename_i v j i st2 _ n f hc
      split at hs
      · simp at hs
      · rename_i hin
        have hat := zAs (hH.2.2 _ _ hc)
        have hkin : (0 : Nat) ∈ zkin := hat.1 _ rfl
        have ht := (hK.2.1 0 (hat.1 _ rfl)).1
        refine W.iast hx hb (show H[al (i + 1)]? = some (arrV (CA 0) n (fun j => .int (f j))) from hat.2) (ht n (fun j => .int (f j))) (fun q => by cases q) (by rw [arrV_size]; exact hin) rfl rfl hd fun H1 e1 z1 oq => ?_
        refine k.put hc (by simp [zsz]) (zHH_set hal hH (List.getElem?_eq_some_iff.mp hc).1 z1 oq ⟨fun a ha => (by cases ha; exact hkin), ?_⟩) (zlo_app hlo) hs hL
        show H1[al (i + 1)]? = some (arrV (CA 0) n (fun q => .int (upd f j.toNatClampNeg v q)))
        rw [e1, arrV_store]
        congr 2
        funext q
        by_cases hq : q = j.toNatClampNeg
        · subst hq
          simp [updV, upd]
        · simp [updV, upd, hq]
    · simp at hs
  · simp at hs
theorem zs_lastore (X : zCtx p R s m args meth c al CA D y) (hok : zOK y pc .lastore ax = true) (hs : zbase kr pc .lastore ax L st h = some x) (hH : zHH al CA D h H) (hL : zLh al ls (zMt y).2.2.1 L) (hlo : ∀ q ∈ locs, zA al q.base) (k : zGo p l e R s m args below meth c cells slots Q al CA D y h x) : W p l e R s m args below meth c H locs cells slots Q (F0 m pc ls (st.map (zv al))) := by
  have hd := zdc_of hok rfl
  obtain ⟨hx, hb, -, hown, hts, hK, hal, -⟩ := X
  simp only [zbase, zlast, zgo] at hs
  split at hs
  · split at hs
    · rename_i v j i st2 _ n f hc
      split at hs
      · simp at hs
      · rename_i hin
        have hat := zAs (hH.2.2 _ _ hc)
        have hkin : (1 : Nat) ∈ zkin := hat.1 _ rfl
        have ht := (hK.2.1 1 (hat.1 _ rfl)).1
        refine W.last hx hb (show H[al (i + 1)]? = some (arrV (CA 1) n (fun j => .long (f j))) from hat.2) (ht n (fun j => .long (f j))) (fun q => by cases q) (by rw [arrV_size]; exact hin) rfl rfl hd fun H1 e1 z1 oq => ?_
        refine k.put hc (by simp [zsz]) (zHH_set hal hH (List.getElem?_eq_some_iff.mp hc).1 z1 oq ⟨fun a ha => (by cases ha; exact hkin), ?_⟩) (zlo_app hlo) hs hL
        show H1[al (i + 1)]? = some (arrV (CA 1) n (fun q => .long (vp_updL f j.toNatClampNeg v q)))
        rw [e1, arrV_store]
        congr 2
        funext q
        by_cases hq : q = j.toNatClampNeg
        · subst hq
          simp [updV, vp_updL]
        · simp [updV, vp_updL, hq]
    · simp at hs
  · simp at hs
theorem zs_aastore (X : zCtx p R s m args meth c al CA D y) (hok : zOK y pc .aastore ax = true) (hs : zbase kr pc .aastore ax L st h = some x) (hH : zHH al CA D h H) (hL : zLh al ls (zMt y).2.2.1 L) (hlo : ∀ q ∈ locs, zA al q.base) (k : zGo p l e R s m args below meth c cells slots Q al CA D y h x) : W p l e R s m args below meth c H locs cells slots Q (F0 m pc ls (st.map (zv al))) := by
  have hd := zdc_of hok rfl
  obtain ⟨hx, hb, -, hown, hts, hK, hal, -⟩ := X
  simp only [zbase, zaast, zgo] at hs
  split at hs
  · split at hs
    · rename_i r j i st2 _ n f hc
      split at hs
      · rename_i n2 f2 hc2
        split at hs
        · simp at hs
        · rename_i hin
          have hat := zAs (hH.2.2 _ _ hc)
          have hkin : (3 : Nat) ∈ zkin := hat.1 _ rfl
          have hat2 := zAs (hH.2.2 _ _ hc2)
          have ht := (hK.2.1 3 (hat.1 _ rfl)).1
          obtain ⟨⟨k3, kc, g1, g2, g3⟩, -⟩ := hK.2.2.1 (hat.1 _ rfl)
          have hin2 : ¬ j < 0 ∧ j.toNatClampNeg < n := ⟨fun q => hin (Or.inl q), Nat.not_le.mp fun q => hin (Or.inr q)⟩
          refine W.aast (cell := arrV (CA 3) n (fun j => va_rf ((f j).map al))) (cv := arrV (CA 0) n2 (fun j => .int (f2 j))) (t := .array .int) hx hb hat.2 (fun q h => by cases h) (fun h => by cases h) g1 g2 rfl g3 (by rw [arrV_size]; exact hin2) hat2.2 (fun q h => by cases h) g3 (va_asg _ _) rfl rfl hd fun H1 e1 z1 oq => ?_
          refine k.put hc (by simp [zsz]) (zHH_set hal hH (List.getElem?_eq_some_iff.mp hc).1 z1 oq ⟨fun a ha => (by cases ha; exact hkin), ?_⟩) (zlo_app hlo) hs hL
          show H1[al (i + 1)]? = some (arrV (CA 3) n (fun q => va_rf ((va_up f j.toNatClampNeg (some (r + 1)) q).map al)))
          rw [e1, arrV_store]
          congr 2
          funext q
          by_cases hq : q = j.toNatClampNeg
          · subst hq
            simp [updV, va_up, va_rf]
          · simp [updV, va_up, hq]
      · simp at hs
    · simp at hs
  · simp at hs
end ZST3

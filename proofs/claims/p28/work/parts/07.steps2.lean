/-! switches, fields, new cells, rows -/
theorem zcl_ok {ci : Nat} (h : ci < zcl.length) : (∀ w ∈ u_ws (zcN ci) (zcF ci) (zcK ci), w ∈ zall) ∧ (∀ k, k < zcK ci → parseFieldDescriptor (zcF ci k).2.2.1 = some (ztyp ci k)) ∧ (∀ a, a < zcK ci → ∀ b, b < zcK ci → a ≠ b → (zcF ci a).2.1 ≠ (zcF ci b).2.1) := by
  have hk := zcl_all ci h
  simp only [zlayOK, List.all_eq_true, List.mem_range, Bool.and_eq_true, decide_eq_true_eq] at hk
  refine ⟨fun w hw => ?_, fun k hk2 => (hk k hk2).1.2, fun a ha b hb hab => ?_⟩
  · obtain ⟨k, hk2, rfl⟩ := List.mem_map.mp hw
    exact zw_mem (hk k (List.mem_range.mp hk2)).1.1
  · rcases (hk b hb).2 a ha with q | q
    · exact absurd q hab
    · exact q
theorem zP1 {al : Nat → Nat} {CA : Nat → ClassId} {D : va_G} {i : Nat} {e : zE} {H : Heap} (h : zAw al CA D i e H) : va_P D zcl [(al i, zmc al CA e)] H := by
  intro k q hk
  rcases k with _ | k
  · simp only [List.getElem?_cons_zero, Option.some.injEq] at hk
    subst hk
    exact h.2
  · simp at hk
theorem zoff : ∀ (l : List Int) (ts : List Nat) (pc k t : Nat), l.map (fun o => (pc : Int) + o) = ts.map Int.ofNat → ts[k]? = some t → ∃ o, l[k]? = some o ∧ (pc : Int) + o = (t : Int) := by
  intro l ts pc k t h ht
  have h1 : (l.map (fun o => (pc : Int) + o))[k]? = some (t : Int) := by
    rw [h, List.getElem?_map, ht]
    rfl
  rw [List.getElem?_map] at h1
  cases ho : l[k]? with
  | none => rw [ho] at h1; simp at h1
  | some o =>
    rw [ho] at h1
    exact ⟨o, rfl, Option.some.inj h1⟩
theorem zlk_ge : ∀ (ps : List (Int × Int)) (x : Int) (k : Nat), zlk ps x k = 0 ∨ k ≤ zlk ps x k
  | [], _, _ => Or.inl rfl
  | (a, o) :: r, x, k => by
    unfold zlk
    split
    · exact Or.inr (Nat.le_refl _)
    · rcases zlk_ge r x (k + 1) with h | h
      · exact Or.inl h
      · exact Or.inr (by omega)
theorem zlk_off : ∀ (ps : List (Int × Int)) (x d : Int) (k pc t0 t : Nat) (ts : List Nat), ps.map (fun o => (pc : Int) + o.2) = ts.map Int.ofNat → (pc : Int) + d = (t0 : Int) → (if zlk ps x (k + 1) = 0 then some t0 else ts[zlk ps x (k + 1) - (k + 1)]?) = some t → (pc : Int) + Op.lookupswitch.offset ps d x = (t : Int)
  | [], x, d, k, pc, t0, t, ts, _, h2, h3 => by
    simp only [zlk, if_true, Option.some.injEq] at h3
    subst h3
    exact h2
  | (a, o) :: r, x, d, k, pc, t0, t, ts, h1, h2, h3 => by
    cases ts with
    | nil => simp at h1
    | cons u ts =>
      simp only [List.map_cons, List.cons.injEq] at h1
      unfold zlk at h3
      rw [Op.lookupswitch.offset_cons]
      by_cases hx : x = a
      · rw [if_pos hx] at h3
        rw [if_pos hx.symm]
        rw [if_neg (by omega), Nat.sub_self] at h3
        simp only [List.getElem?_cons_zero, Option.some.injEq] at h3
        subst h3
        exact h1.1
      · rw [if_neg hx] at h3
        rw [if_neg (Ne.symm hx)]
        refine zlk_off r x d (k + 1) pc t0 t ts h1.2 h2 ?_
        by_cases hz : zlk r x (k + 1 + 1) = 0
        · rw [if_pos hz] at h3 ⊢
          exact h3
        · rw [if_neg hz] at h3 ⊢
          rcases zlk_ge r x (k + 1 + 1) with q | q
          · exact absurd q hz
          · rw [show zlk r x (k + 1 + 1) - (k + 1) = (zlk r x (k + 1 + 1) - (k + 1 + 1)) + 1 by omega, List.getElem?_cons_succ] at h3
            exact h3
section ZST2
variable {p : Program} {l : Launch} {e : Env} {R : Room} {s : State} {m : MethodId} {args : Array Value} {below : List Frame} {meth : Method} {c : Code} {H : Heap} {locs : List Loc} {cells slots : Nat} {Q : State → Prop}
variable {al : Nat → Nat} {CA : Nat → ClassId} {D : va_G} {y pc : Nat} {ls : Array Slot} {ax : List Nat} {L : zL} {st : List Value} {h : zH} {x : zR ⊕ zS} {kr : Nat}
theorem zs_tableswitch {d lo hi : Int} {offs : Array Int} (X : zCtx p R s m args meth c al CA D y) (hok : zOK y pc (.tableswitch d lo hi offs) ax = true) (hs : zbase kr pc (.tableswitch d lo hi offs) ax L st h = some x) (hH : zHH al CA D h H) (hL : zLh al ls (zMt y).2.2.1 L) (hlo : ∀ q ∈ locs, zA al q.base) (k : zGo p l e R s m args below meth c cells slots Q al CA D y h x) : W p l e R s m args below meth c H locs cells slots Q (F0 m pc ls (st.map (zv al))) := by
  obtain ⟨nn, hd⟩ := zdc_sw hok
  obtain ⟨hx, hb, -⟩ := X
  simp only [zbase] at hs
  cases ax with
  | nil => simp [zOK] at hok
  | cons t0 ts =>
    simp only [zOK, Bool.and_eq_true, decide_eq_true_eq] at hok
    obtain ⟨-, ⟨⟨h1, h2⟩, -⟩, -⟩ := hok
    split at hs
    · rename_i v st2
      simp only [zjump] at hs
      split at hs
      · rename_i hout
        simp only [List.getElem?_cons_zero] at hs
        exact lv_tableOut hx hb hd hout h1 (k.same hH hlo hs hL)
      · rename_i hin
        simp only [List.getElem?_cons_succ] at hs
        split at hs
        · rename_i t ht
          obtain ⟨o, ho, hp⟩ := zoff _ _ _ _ _ h2 ht
          exact lv_tableIn hx hb hd (fun q => hin (Or.inl q)) (fun q => hin (Or.inr q)) (by rw [← Array.getElem?_toList]; exact ho) hp (k.same hH hlo hs hL)
        · simp at hs
    · simp at hs
theorem zs_lookupswitch {d : Int} {ps : Array (Int × Int)} (X : zCtx p R s m args meth c al CA D y) (hok : zOK y pc (.lookupswitch d ps) ax = true) (hs : zbase kr pc (.lookupswitch d ps) ax L st h = some x) (hH : zHH al CA D h H) (hL : zLh al ls (zMt y).2.2.1 L) (hlo : ∀ q ∈ locs, zA al q.base) (k : zGo p l e R s m args below meth c cells slots Q al CA D y h x) : W p l e R s m args below meth c H locs cells slots Q (F0 m pc ls (st.map (zv al))) := by
  obtain ⟨nn, hd⟩ := zdc_sw hok
  obtain ⟨hx, hb, -⟩ := X
  simp only [zbase] at hs
  cases ax with
  | nil => simp [zOK] at hok
  | cons t0 ts =>
    simp only [zOK, Bool.and_eq_true, decide_eq_true_eq] at hok
    obtain ⟨-, ⟨h1, h2⟩, h3⟩ := hok
    split at hs
    · rename_i v st2
      simp only [zjump] at hs
      split at hs
      · rename_i t ht
        refine lv_lookup hx hb hd h3 rfl (zlk_off ps.toList v.toInt d 0 pc t0 t ts h2 h1 ?_) (k.same hH hlo hs hL)
        by_cases hz : zlk ps.toList v.toInt (0 + 1) = 0
        · rw [if_pos hz]
          rw [show zlk ps.toList v.toInt 1 = 0 from hz] at ht
          exact ht
        · rw [if_neg hz]
          rcases zlk_ge ps.toList v.toInt (0 + 1) with q | q
          · exact absurd q hz
          · rw [show zlk ps.toList v.toInt 1 = (zlk ps.toList v.toInt (0 + 1) - (0 + 1)) + 1 by show zlk ps.toList v.toInt (0 + 1) = _; omega] at ht
            exact ht
      · simp at hs
    · simp at hs
theorem zs_getfield {ix : Nat} (X : zCtx p R s m args meth c al CA D y) (hok : zOK y pc (.getfield ix) ax = true) (hs : zbase kr pc (.getfield ix) ax L st h = some x) (hH : zHH al CA D h H) (hL : zLh al ls (zMt y).2.2.1 L) (hlo : ∀ q ∈ locs, zA al q.base) (k : zGo p l e R s m args below meth c cells slots Q al CA D y h x) : W p l e R s m args below meth c H locs cells slots Q (F0 m pc ls (st.map (zv al))) := by
  have hd := zdc_of hok rfl
  obtain ⟨hx, hb, -, hown, hts, hK, -⟩ := X
  simp only [zbase, zget1, zgo] at hs
  split at hs
  · rename_i i st2 ci fk r
    split at hs
    · rename_i cc fs hc
      split at hs
      · rename_i hci
        subst hci
        split at hs
        · rename_i v hv
          rcases r with _ | ⟨q1, _ | ⟨q2, r⟩⟩
          · simp [zOK] at hok
          · simp only [zOK, Bool.and_eq_true, decide_eq_true_eq] at hok
            obtain ⟨-, ⟨h1, h2⟩, h3⟩ := hok
            have hP := zP1 (zAo (hH.2.2 _ _ hc))
            exact va_get hx hb hts (zcl_ok h1).1 hown hK.1 hP 0 (fs := fs.map (zv al)) rfl (zcl_at h1) fk h2 (hts _ (zw_mem h3)) (fun _ q => q) (by rw [List.getElem?_map, hv]; rfl) hd (k.same hH hlo hs hL)
          · simp [zOK] at hok
        · simp at hs
      · simp at hs
    · simp at hs
  · simp at hs
theorem zfit_ok {al : Nat → Nat} {ty : FieldType} {kd : Nat} {v : Value} (h1 : zkd ty = kd) (h2 : kd < 2) (h3 : zfits kd v = true) : narrow ty (zv al v) = zv al v ∧ fits ty (zv al v) = true := by
  subst h1
  cases ty <;> simp [zkd] at h2 h3 ⊢ <;> cases v <;> simp [zfits] at h3 <;> exact ⟨rfl, rfl⟩
theorem zs_putfield {ix : Nat} (X : zCtx p R s m args meth c al CA D y) (hok : zOK y pc (.putfield ix) ax = true) (hs : zbase kr pc (.putfield ix) ax L st h = some x) (hH : zHH al CA D h H) (hL : zLh al ls (zMt y).2.2.1 L) (hlo : ∀ q ∈ locs, zA al q.base) (k : zGo p l e R s m args below meth c cells slots Q al CA D y h x) : W p l e R s m args below meth c H locs cells slots Q (F0 m pc ls (st.map (zv al))) := by
  have hd := zdc_of hok rfl
  obtain ⟨hx, hb, -, hown, hts, hK, hal, -, -, hini⟩ := X
  simp only [zbase, zput1, zgo] at hs
  split at hs
  · rename_i v i st2 ci fk kd r
    split at hs
    · rename_i cc fs hc
      split at hs
      · rename_i hci
        obtain ⟨hci, hlen, hfit⟩ := hci
        subst hci
        rcases r with _ | ⟨q1, _ | ⟨q2, r⟩⟩
        · simp [zOK] at hok
        · simp only [zOK, Bool.and_eq_true, decide_eq_true_eq, Bool.or_eq_true, beq_iff_eq] at hok
          obtain ⟨-, ⟨⟨⟨⟨h1, h2⟩, h3⟩, h4⟩, h5⟩, h6⟩ := hok
          obtain ⟨hin, hty, hnm⟩ := zcl_ok h1
          have hz := zfit_ok (al := al) h4 h5 hfit
          have hat := zAo (hH.2.2 _ _ hc)
          have hap := va_apart (own := (zMt y).1.cls) hts hin (ztyp cc) hty hnm hK.1 (zcl_at h1)
          obtain ⟨r, g1, cell, p1, p2, p3, p4⟩ := hat.2
          cases (zcl_at h1).symm.trans g1
          obtain ⟨hS, hfc, kC, hkC, hkind⟩ := hK.1.1 cc _ (zcl_at h1)
          obtain ⟨cf, kf, fi, f, hi, hsl⟩ := hS fk h2
          have hlay := hts _ (hin _ (u_in_lay h2))
          unfold u_lay at hlay
          have hst := (u_facts hfc hkC (u_lays hts hin h2) hi).1
          have hlink := hts _ (zw_mem h3)
          have fin : ∀ H' : Heap, H'[al (i + 1)]? = some (cell.setSlot f.slot (zv al v)) → H'.size = H.size → (∀ q, q ≠ al (i + 1) → H'[q]? = H[q]?) → W p l e R s m args below meth c H' (locs ++ [⟨al (i + 1), f.slot⟩]) cells slots Q (F0 m (pc + 3) ls (st2.map (zv al))) := fun H' e1 e2 e3 => by
            rw [hsl] at e1
            refine k.put hc (by simp [zsz]) (zHH_set hal hH (List.getElem?_eq_some_iff.mp hc).1 e2 e3 ⟨fun a ha => (by cases ha), ?_⟩) (fun q hq => ?_) hs hL
            · refine ⟨_, zcl_at h1, t_OB.to (V := updV (vp_V (fs.map (zv al))) fk (zv al v)) ⟨_, e1, p2, p3, t_set p4 hap h2 _⟩ (fun j _ => ?_)⟩
              rw [vp_updV_set (by rw [List.length_map]; exact hlen) _ j]
              show vp_V ((fs.map (zv al)).set fk (zv al v)) j = vp_V ((fs.set fk v).map (zv al)) j
              rw [List.map_set]
            · rcases List.mem_append.mp hq with q | q
              · exact hlo _ q
              · simp only [List.mem_singleton] at q
                subst q
                exact ⟨i + 1, by omega, Nat.le_refl _⟩
          rcases h6 with h6 | h6
          · rw [if_neg (by rw [h6]; decide)] at hlay
            have h7 := u_store hfc hkC hkind hlay hi (hty fk h2) hz.1 hz.2
            exact W.putK hx hb (f := f) ⟨hown, hlink, ⟨_, _, _, hi⟩, hst⟩ (by rw [p2]; exact h7) p1 p3 (by rw [hsl]; exact k2_hasslot (p4 fk h2)) rfl rfl hd fin
          · by_cases hf : (zcF cc fk).2.2.2 = true
            · rw [if_pos hf] at hlay
              have hcf : m.cls = cf := by
                obtain ⟨_, _, c', _, _, _, -, -, hf', -, -, -, hown2, -⟩ := Cond.laysFinal_spec hlay
                have e1 : c' = cf := by have := hi.symm.trans hf'; simp at this; exact this.1.symm
                rw [h6.2] at hown2
                rw [← e1]; exact Option.some.inj (hown.symm.trans hown2)
              have h7 := u_fits hfc hkC hkind (Or.inr hlay) hi (hty fk h2) hz.1 hz.2
              exact W.putFinK hx hb hown hlink hi hst hcf (hini h6.1) (by rw [p2]; exact h7) p1 p3 (by rw [hsl]; exact k2_hasslot (p4 fk h2)) rfl rfl hd fin
            · rw [if_neg hf] at hlay
              have h7 := u_store hfc hkC hkind hlay hi (hty fk h2) hz.1 hz.2
              exact W.putK hx hb (f := f) ⟨hown, hlink, ⟨_, _, _, hi⟩, hst⟩ (by rw [p2]; exact h7) p1 p3 (by rw [hsl]; exact k2_hasslot (p4 fk h2)) rfl rfl hd fin
        · simp [zOK] at hok
      · simp at hs
    · simp at hs
  · simp at hs
end ZST2

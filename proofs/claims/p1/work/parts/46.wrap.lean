/-! WRAPPERS: the law's own methods that catch what the class throws -/
def zwsW (w : Nat) (hh : List (Nat × Nat × Nat × Nat)) : List Jvm.Cond := .codeWith (zMt w).1 (zMt w).2.1 (zMt w).2.2.1 (zMt w).2.2.2.1 hh :: zall
def zrmW (w : Nat) : Room := { frames := max (zMt w).2.2.2.2.1 7, cells := 1, slots := 6, locals := max (zMt w).2.2.2.2.2 130 }
def zQX (al : Nat → Nat) (CA : Nat → ClassId) (D : va_G) (v : Int32) (h : zH) : Array Value → State → Outcome → State → Prop := fun _ _ oc t => oc = .returned (some (.int v)) ∧ zHX al CA D h t.heap
theorem zofWH {l : Launch} {y : MethodName} {ws ws' : List Cond} {rm : Room} {Pc : Array Value → State → Prop} {Qc : Array Value → State → Outcome → State → Prop} {mc ms : Nat} {free : Addr → Prop} {cc : ByteArray} {maxL : Nat} {ret : Option FieldType} {hh : List (Nat × Nat × Nat × Nat)}
    (hy : plainName y.cls = true) (hw : ws = Cond.codeWith y cc maxL ret hh :: ws')
    (body : ∀ p e s m args below meth c s₁, BodyLoose p l y (headSpec ws rm) cc maxL ret e s m args below meth c s₁ → c.maxLocals = maxL → Pc args s →
      W p l e (headSpec ws rm).room s m args below meth c s.heap [] 0 0 (MQ below Qc args s mc ms free) (entryFrame m args maxL)) : Met l y ws rm Pc Qc mc ms free := by
  refine MetFree.of_bodyS (code := cc) (maxLocals := maxL) (ret := ret) hy ?_ ?_
  · intro args s m h hn
    obtain ⟨m9, meth, c, hn9, h1, h2, h3, h4, -, h5, h6, -⟩ := Cond.codeWith_spec (atoms_spec (ws := ws) h _ (by rw [hw]; exact List.mem_cons_self))
    cases hn.symm.trans hn9
    exact ⟨meth, c, h1, h2, h3, h4, h5, h6⟩
  · intro p e s m args below meth c s₁ B hml hP _
    have hh0 : s₁.heap = s.heap := by rw [B.state]; rfl
    obtain ⟨t, a1, o, b1, b2, b3⟩ := body p e s m args below meth c s₁ B hml hP s₁ hh0 (Stand.of_body B)
    exact ⟨t, o, a1, b1, b2, ⟨b3.1, b3.2⟩⟩
/-- the wrapper's own contract where the class returns -/
theorem zmetWR {l : Launch} {w : Nat} {a : List Value} {h h' : zH} {v : Int32} {hh : List (Nat × Nat × Nat × Nat)} (hw : w < znm) (hret : (zMt w).2.2.2.1 = some .int) (hc : zcalls zTB w a h (some (.int v), h')) : ∀ (al : Nat → Nat) (CA : Nat → ClassId) (D : va_G), zal al → Met l (zMt w).1 (zwsW w hh) (zrm w (h'.length - h.length) (zss h' - zss h)) (zPc al CA D a h) (zQ al CA D (some (.int v), h')) (h'.length - h.length) (zss h' - zss h) (zA al) := by
  obtain ⟨hz, n, hn⟩ := hc
  intro al CA D hal
  have hm := zcm_all w hw
  simp only [zMok, Bool.and_eq_true] at hm
  refine zofWH (cc := (zMt w).2.1) (maxL := (zMt w).2.2.1) (ret := (zMt w).2.2.2.1) (hh := hh) hm.1.1 rfl ?_
  intro p e s m args below meth c s₁ B hml hv
  obtain ⟨rfl, hH, hK⟩ := hv
  have hts := atoms_spec (ws := zwsW w hh) B.pre
  have hown : s.vm.findClass (zMt w).1.cls = some m.cls := findClass_of_methodNamed B.named
  have hlocks := B.notSynchronized
  rw [lg_entry_eq]
  have hent := zentry_has al a hz
  have X : zCtx p (headSpec (zwsW w hh) (zrm w (h'.length - h.length) (zss h' - zss h))).room s m (a.map (zv al)).toArray meth c al CA D w := ⟨B.exec, B.bytes, hml, hown, fun x hx => hts x (List.mem_cons_of_mem _ hx), hK, hal, Nat.le_refl _, Nat.le_refl _, fun q => by rw [(name_of_methodNamed B.named B.method).1]; exact q⟩
  refine zwalk l n w 0 _ [] h _ hw hn X hH hent (fun q hq => by cases hq) ⟨by rw [Nat.zero_add]; exact Nat.le_refl _, by rw [Nat.zero_add]; exact Nat.le_refl _⟩ ?_
  intro pc' i ax L' st' H' ls' locs' hok hrt hH' hlo'
  rw [Nat.zero_add, Nat.zero_add]
  have hr := B.returns
  have hd : ∀ j, i = j → zsw j = false → decode (zMt w).2.1 pc' = .ok (j, zlen j) := fun j e h2 => by subst e; exact zdc_of hok h2
  rw [hret] at hr
  rcases zbase_ret hrt with ⟨hi, v2, rfl, hrr, hk⟩ | ⟨hi, v2, rfl, hrr, hk⟩ | ⟨hi, v2, rfl, hrr, hk⟩ | ⟨hi, v2, rfl, hrr, hk⟩ | ⟨hi, rfl, hrr, hk⟩
  · have hv2 : v2 = v := by
      have := congrArg Prod.fst hrr
      simp at this
      exact this.symm
    subst hv2
    exact W.iret B.exec B.bytes hr (fun t ht hW => ⟨rfl, by rw [ht]; exact hH'⟩) hlo' (hd _ hi rfl)
  · simp at hrr
  · simp at hrr
  · simp at hrr
  · simp at hrr
set_option maxHeartbeats 1000000 in
/-- .. where the class throws, and the wrapper catches -/
theorem zmetWX {l : Launch} {w y pc ix b i hp2 ci p1 p2 p3 p4 lp n : Nat} {a As rest fs : List Value} {h : zH} {L : zL} {E nm : String} {hh : List (Nat × Nat × Nat × Nat)} {pre suf : List ExceptionTableEntry} {x : ExceptionTableEntry} {kz : Int} {kk : Int32}
    (hw : w < znm) (hz : (zent a).length ≤ (zMt w).2.2.1) (hcls : (zMt w).1.cls = "NightjarLaw") (hret : (zMt w).2.2.2.1 = some .int) (hn : As.length = n)
    (k : zgt w 0 (zentry (zMt w).2.2.1 a) [] h (pc, L, As.reverse ++ .ref b :: rest, h)) (hI : zI w pc = some (.invokevirtual ix, [y, 0, n, ci, p1, p2, p3, p4, 0, lp])) (hb : h[b]? = some (.inr (ci, fs))) (hs8 : zcat8 rest = true)
    (hy : zMetX l y (.ref b :: As) h E) (hmy : (zMt y).2.2.1 ≤ 10) (hsplit : tableOf hh = pre ++ x :: suf) (hpass : ∀ z ∈ pre, z.catchType ≠ 0 ∧ ∃ nm, Cond.classLink "NightjarLaw" z.catchType nm ∈ zall ∧ (E, nm) ∈ zncast)
    (hx : covers x pc = true) (h0 : x.catchType ≠ 0) (hlink : Cond.classLink "NightjarLaw" x.catchType nm ∈ zall) (hcast : (E, nm) ∈ zcast)
    (hst : (decode (zMt w).2.1 x.handlerPc = .ok (.astore i, 2) ∧ hp2 = x.handlerPc + 2) ∨ ∃ q : Fin 4, (q : Nat) = i ∧ decode (zMt w).2.1 x.handlerPc = .ok (.astore_n q, 1) ∧ hp2 = x.handlerPc + 1)
    (hi : i < (zMt w).2.2.1) (hic : decode (zMt w).2.1 hp2 = .ok (.iconst kz, 1)) (hkz : Int32.ofInt kz = kk) (hir : decode (zMt w).2.1 (hp2 + 1) = .ok (.ireturn, 1)) : ∀ (al : Nat → Nat) (CA : Nat → ClassId) (D : va_G), zal al → Met l (zMt w).1 (zwsW w hh) (zrmW w) (zPcX al CA D a h) (zQX al CA D kk h) 1 6 (zA al) := by
  intro al CA D hal
  have hm := zcm_all w hw
  simp only [zMok, Bool.and_eq_true] at hm
  refine zofWH (cc := (zMt w).2.1) (maxL := (zMt w).2.2.1) (ret := (zMt w).2.2.2.1) (hh := hh) hm.1.1 rfl ?_
  intro p e s m args below meth c s₁ B hml hv
  obtain ⟨rfl, ⟨hH, hK⟩, hX⟩ := hv
  have hts0 := atoms_spec (ws := zwsW w hh) B.pre
  have hts : ∀ x ∈ zall, x.before (a.map (zv al)).toArray s = true := fun x hx => hts0 x (List.mem_cons_of_mem _ hx)
  have htab := vx_table (x := (zMt w).1) B (hts0 _ List.mem_cons_self)
  have hown : s.vm.findClass (zMt w).1.cls = some m.cls := findClass_of_methodNamed B.named
  have hlocks := B.notSynchronized
  rw [lg_entry_eq]
  have hent := zentry_has al a hz
  have X : zCtx p (headSpec (zwsW w hh) (zrmW w)).room s m (a.map (zv al)).toArray meth c al CA D w := ⟨B.exec, B.bytes, hml, hown, hts, hK, hal, Nat.le_max_left _ _, Nat.le_max_left _ _, fun q => by rw [(name_of_methodNamed B.named B.method).1]; exact q⟩
  refine zgtW k hw X hH hent (fun q hq => by cases hq) ⟨by simp only [Nat.sub_self]; exact Nat.zero_le _, by simp only [Nat.sub_self]; exact Nat.zero_le _⟩ ?_
  intro H' ls' locs' hH' hL' hlo'
  simp only [Nat.sub_self, Nat.add_zero] at *
  refine zW_frame fun f1 f2 => ?_
  have hok := zI_ok hw hI
  have hdI : decode (zMt w).2.1 pc = .ok (.invokevirtual ix, 3) := zdc_of hok rfl
  simp only [zOK, Bool.and_eq_true] at hok
  obtain ⟨a1, a2, a3, a4, a5, a6, a7, a8, -, a10, -, -⟩ := zcall_ok hok.2 (by decide) (by decide) (by decide)
  obtain ⟨-, b2, b3, b4, b5⟩ := a10 rfl
  obtain ⟨rr, g1, cell, q1, q2, q3, -⟩ := (zAo (hH'.2.2 _ _ hb)).2
  cases (zcl_at b2).symm.trans g1
  have hkeep : ∀ q : Nat, q < s.heap.size → ¬ zA al q → H'[q]? = s.heap[q]? := fun q hq hnz => f2 q hq fun z hz hbz => hnz (hbz ▸ hlo' z hz)
  have hR : (zrmX y).frames + 1 ≤ (headSpec (zwsW w hh) (zrmW w)).room.frames ∧ 8 + ((zMt y).2.2.1 + 11) + (zrmX y).locals ≤ (headSpec (zwsW w hh) (zrmW w)).room.locals := by
    show max (zMt y).2.2.2.2.1 6 + 1 ≤ max (zMt w).2.2.2.2.1 7 ∧ 8 + ((zMt y).2.2.1 + 11) + max (zMt y).2.2.2.2.2 90 ≤ max (zMt w).2.2.2.2.2 130
    omega
  have hcat : (Value.ref b).category = 1 := rfl
  have hr : vx_Run p l e (headSpec (zwsW w hh) (zrmW w)).room s m (a.map (zv al)).toArray below meth c H' locs' 0 0 1 6 (F0 m pc ls' ((As.reverse ++ .ref b :: rest).map (zv al))) (rest.map (zv al)) (fun _ _ _ => False) (zXC al CA D h E) (zA al) :=
    vx_runV (b := al b) (C := (zMt y).1.cls) (As := As.map (zv al)) (rest := rest.map (zv al)) (n := n) (index := ix) ⟨B.exec, B.bytes, hml, hown, hts⟩ (hy al CA D hal) ⟨callB_of n hts (zgoodIn a4) rfl rfl rfl (hts _ (zw_mem a3)) (hts _ (zw_mem a2)) ⟨a5.1, a5.2, a6⟩ hR, hts _ (zw_mem b4), hts _ (zw_mem b5)⟩
      ⟨zPcX_blind, ⟨cell, q1, by rw [q3]; rfl, by rw [q2, ← b3]; exact (hK.1.1 ci _ (zcl_at b2)).2.1⟩, fun U hU hW => ⟨rfl, ⟨by rw [hU]; exact hH', zK_warm hW hK⟩, zX_at hW hkeep hU hX⟩⟩ rfl (by rw [List.length_map]; exact hn) hL'.2.1 (by show List.map (zv al) (As.reverse ++ .ref b :: rest) = _; rw [List.map_append, List.map_reverse]; rfl) (lv_room (by rw [zv_cats]; exact zcat8_le hs8)) hdI ⟨Nat.le_refl 1, Nat.le_refl 6⟩
  intro T hT XT
  rcases hr T hT XT with ⟨_, _, _, _, _, _, _, _, _, _, hf, _⟩ | ⟨q, st₀, t, T', L1, E', ce, e0, X', hL1, e1, e2, ⟨rfl, hHX⟩, hce, hcv, hcl, st⟩
  · exact hf.elim
  · rw [hcls] at hown
    have hce' : T'.heap[q]? = some ce := by rw [e1]; exact hce
    have key : vx_W p l e (headSpec (zwsW w hh) (zrmW w)).room s m (a.map (zv al)).toArray below meth c T'.heap (locs' ++ L1) (0 + 1) (0 + 6) (MQ below (zQX al CA D kk h) (a.map (zv al)).toArray s 1 6 (zA al)) (F0 m pc ls' (rest.map (zv al))) q := by
      refine vx_catch (name := nm) hown pre x suf (htab.trans hsplit) (fun z hz => ?_) hx h0 (hts _ hlink) (va_Nw.use rfl (hX.2.2.2.1 _ hcast)) hce' hcv hcl ?_
      · obtain ⟨c1, nm1, c2, c3⟩ := hpass z hz
        exact Or.inr ⟨c1, nm1, hts _ c2, hX.2.2.2.2.1 _ c3⟩
      · have hrt := B.returns
        rw [hret] at hrt
        have hend : ∀ ls2 : Array Slot, W p l e (headSpec (zwsW w hh) (zrmW w)).room s m (a.map (zv al)).toArray below meth c T'.heap (locs' ++ L1) (0 + 1) (0 + 6) (MQ below (zQX al CA D kk h) (a.map (zv al)).toArray s 1 6 (zA al)) (F0 m hp2 ls2 []) := fun ls2 => by
          refine lv_iconst B.exec B.bytes hic hkz ?_
          exact W.iret B.exec B.bytes hrt (fun t2 ht2 hW2 => ⟨rfl, by rw [ht2, e1]; exact hHX⟩) (fun z hz => (List.mem_append.mp hz).elim (hlo' z) (hL1 z)) hir
        rcases hst with ⟨d1, d2⟩ | ⟨q4, d0, d1, d2⟩
        · exact lv_astore B.exec B.bytes d1 hL'.2 hi rfl fun ls2 _ => d2 ▸ hend ls2
        · exact lv_astore_n B.exec B.bytes d1 d0 hL'.2 hi rfl fun ls2 _ => d2 ▸ hend ls2
    obtain ⟨t2, c1, c2⟩ := key T' rfl X'
    exact ⟨t2, st.trans c1, c2⟩

/-! EVERY RUN OF THE PURE MACHINE IS ONE OF THE MACHINE'S -/
theorem zbase_ret {kr pc : Nat} {i : Instr} {ax : List Nat} {L : zL} {st : List Value} {h : zH} {r : zR} (hs : zbase kr pc i ax L st h = some (.inl r)) : (i = .ireturn ∧ ∃ v, st = [.int v] ∧ r = (some (.int v), h) ∧ (kr = 1 ∨ (kr = 2 ∧ (v = 0 ∨ v = 1)))) ∨ (i = .lreturn ∧ ∃ v, st = [.long v] ∧ r = (some (.long v), h) ∧ kr = 3) ∨ (i = .dreturn ∧ ∃ v, st = [.double v] ∧ r = (some (.double v), h) ∧ kr = 4) ∨ (i = .areturn ∧ ∃ v, st = [.ref v] ∧ r = (some (.ref v), h) ∧ kr = 5) ∨ (i = .return_ ∧ st = [] ∧ r = (none, h) ∧ kr = 0) := by
  cases i <;> simp only [zbase, zgo, zloadI, zloadL, zloadD, zloadA, zstoreI, zstoreA, zstoreL, zstoreD, zii, zll, zget1, zput1, znew, znewa, zalen, ziald, zlald, zaald, ziast, zlast, zaast, zif, zjump] at hs
  case ireturn =>
    split at hs
    · split at hs
      · rename_i v hk
        refine Or.inl ⟨rfl, v, rfl, ?_, hk⟩
        simp at hs
        exact hs.symm
      · simp at hs
    · simp at hs
  case lreturn =>
    split at hs
    · split at hs
      · rename_i v hk
        refine Or.inr (Or.inl ⟨rfl, v, rfl, ?_, hk⟩)
        simp at hs
        exact hs.symm
      · simp at hs
    · simp at hs
  case dreturn =>
    split at hs
    · split at hs
      · rename_i v hk
        refine Or.inr (Or.inr (Or.inl ⟨rfl, v, rfl, ?_, hk⟩))
        simp at hs
        exact hs.symm
      · simp at hs
    · simp at hs
  case areturn =>
    split at hs
    · split at hs
      · rename_i v hk
        refine Or.inr (Or.inr (Or.inr (Or.inl ⟨rfl, v, rfl, ?_, hk⟩)))
        simp at hs
        exact hs.symm
      · simp at hs
    · simp at hs
  case return_ =>
    split at hs
    · split at hs
      · rename_i hk
        refine Or.inr (Or.inr (Or.inr (Or.inr ⟨rfl, rfl, ?_, hk⟩)))
        simp at hs
        exact hs.symm
      · simp at hs
    · simp at hs
  all_goals
    exfalso
    (repeat' split at hs) <;> simp at hs
theorem zcall_ret {C : Nat → List Value → zH → Option zR} {pc : Nat} {ax : List Nat} {L : zL} {st : List Value} {h : zH} {r : zR} (hs : zcall C pc ax L st h = some (.inl r)) : False := by
  simp only [zcall, zinv, zcopy, zmax, zobj, zback, zgo] at hs
  (repeat' split at hs) <;> simp at hs
section ZM
variable {p : Program} {l : Launch} {e : Env} {R : Room} {s : State} {m : MethodId} {args : Array Value} {below : List Frame} {meth : Method} {c : Code} {H : Heap} {locs : List Loc} {cells slots : Nat} {Q : State → Prop}
variable {al : Nat → Nat} {CA : Nat → ClassId} {D : va_G} {y pc : Nat} {ls : Array Slot} {ax : List Nat} {L : zL} {st : List Value} {h : zH} {x : zR ⊕ zS} {kr : Nat}
set_option maxHeartbeats 1000000 in
theorem zbaseW {i : Instr} (X : zCtx p R s m args meth c al CA D y) (hok : zOK y pc i ax = true) {q : zS} (hx : x = .inr q) (hs : zbase kr pc i ax L st h = some x) (hH : zHH al CA D h H) (hL : zLh al ls (zMt y).2.2.1 L) (hlo : ∀ q ∈ locs, zA al q.base) (hr : cells + ((zhp x).length - h.length) ≤ R.cells ∧ slots + (zss (zhp x) - zss h) ≤ R.slots) (k : zGo p l e R s m args below meth c cells slots Q al CA D y h x) : W p l e R s m args below meth c H locs cells slots Q (F0 m pc ls (st.map (zv al))) := by
  cases i
  case iconst => exact zs_iconst X hok hs hH hL hlo k
  case bipush => exact zs_bipush X hok hs hH hL hlo k
  case sipush => exact zs_sipush X hok hs hH hL hlo k
  case lconst => exact zs_lconst X hok hs hH hL hlo k
  case dconst => exact zs_dconst X hok hs hH hL hlo k
  case ldc => exact zs_ldc X hok hs hH hL hlo k
  case ldc_w => exact zs_ldc_w X hok hs hH hL hlo k
  case ldc2_w => exact zs_ldc2_w X hok hs hH hL hlo k
  case iload => exact zs_iload X hok hs hH hL hlo k
  case iload_n => exact zs_iload_n X hok hs hH hL hlo k
  case lload => exact zs_lload X hok hs hH hL hlo k
  case lload_n => exact zs_lload_n X hok hs hH hL hlo k
  case dload => exact zs_dload X hok hs hH hL hlo k
  case dload_n => exact zs_dload_n X hok hs hH hL hlo k
  case aload => exact zs_aload X hok hs hH hL hlo k
  case aload_n => exact zs_aload_n X hok hs hH hL hlo k
  case istore => exact zs_istore X hok hs hH hL hlo k
  case istore_n => exact zs_istore_n X hok hs hH hL hlo k
  case lstore => exact zs_lstore X hok hs hH hL hlo k
  case lstore_n => exact zs_lstore_n X hok hs hH hL hlo k
  case dstore => exact zs_dstore X hok hs hH hL hlo k
  case dstore_n => exact zs_dstore_n X hok hs hH hL hlo k
  case astore => exact zs_astore X hok hs hH hL hlo k
  case astore_n => exact zs_astore_n X hok hs hH hL hlo k
  case iinc => exact zs_iinc X hok hs hH hL hlo k
  case iadd => exact zs_iadd X hok hs hH hL hlo k
  case isub => exact zs_isub X hok hs hH hL hlo k
  case imul => exact zs_imul X hok hs hH hL hlo k
  case iand => exact zs_iand X hok hs hH hL hlo k
  case ior => exact zs_ior X hok hs hH hL hlo k
  case ishl => exact zs_ishl X hok hs hH hL hlo k
  case ishr => exact zs_ishr X hok hs hH hL hlo k
  case iushr => exact zs_iushr X hok hs hH hL hlo k
  case idiv => exact zs_idiv X hok hs hH hL hlo k
  case irem => exact zs_irem X hok hs hH hL hlo k
  case ladd => exact zs_ladd X hok hs hH hL hlo k
  case lmul => exact zs_lmul X hok hs hH hL hlo k
  case lcmp => exact zs_lcmp X hok hs hH hL hlo k
  case i2l => exact zs_i2l X hok hs hH hL hlo k
  case i2d => exact zs_i2d X hok hs hH hL hlo k
  case ddiv => exact zs_ddiv X hok hs hH hL hlo k
  case dcmp => exact zs_dcmp X hok hs hH hL hlo k
  case dup => exact zs_dup X hok hs hH hL hlo k
  case pop => exact zs_pop X hok hs hH hL hlo k
  case dup_x1 => exact zs_dup_x1 X hok hs hH hL hlo k
  case dup_x2 => exact zs_dup_x2 X hok hs hH hL hlo k
  case dup2 => exact zs_dup2 X hok hs hH hL hlo k
  case ifCond => exact zs_ifCond X hok hs hH hL hlo k
  case if_icmp => exact zs_if_icmp X hok hs hH hL hlo k
  case goto => exact zs_goto X hok hs hH hL hlo k
  case tableswitch => exact zs_tableswitch X hok hs hH hL hlo k
  case lookupswitch => exact zs_lookupswitch X hok hs hH hL hlo k
  case getfield => exact zs_getfield X hok hs hH hL hlo k
  case putfield => exact zs_putfield X hok hs hH hL hlo k
  case new => exact zs_new X hok hs hH hL hlo hr k
  case newarray => exact zs_newarray X hok hs hH hL hlo hr k
  case anewarray => exact zs_anewarray X hok hs hH hL hlo hr k
  case arraylength => exact zs_arraylength X hok hs hH hL hlo k
  case iaload => exact zs_iaload X hok hs hH hL hlo k
  case laload => exact zs_laload X hok hs hH hL hlo k
  case aaload => exact zs_aaload X hok hs hH hL hlo k
  case iastore => exact zs_iastore X hok hs hH hL hlo k
  case lastore => exact zs_lastore X hok hs hH hL hlo k
  case aastore => exact zs_aastore X hok hs hH hL hlo k
  case ireturn =>
    subst hx
    simp only [zbase] at hs
    (repeat' split at hs) <;> simp at hs
  case lreturn =>
    subst hx
    simp only [zbase] at hs
    (repeat' split at hs) <;> simp at hs
  case dreturn =>
    subst hx
    simp only [zbase] at hs
    (repeat' split at hs) <;> simp at hs
  case areturn =>
    subst hx
    simp only [zbase] at hs
    (repeat' split at hs) <;> simp at hs
  case return_ =>
    subst hx
    simp only [zbase] at hs
    (repeat' split at hs) <;> simp at hs
  all_goals simp [zbase] at hs
end ZM

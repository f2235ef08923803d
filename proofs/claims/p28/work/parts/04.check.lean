/-- the kinds of rows that are made -/
def zkin : List Nat := [0, 3]
/-! every row of the table is as the machine has it -/
def zsw : Instr → Bool
  | .tableswitch .. => true
  | .lookupswitch .. => true
  | _ => false
def zlen : Instr → Nat
  | .bipush _ => 2
  | .sipush _ => 3
  | .ldc _ => 2
  | .ldc_w _ => 3
  | .ldc2_w _ => 3
  | .iload _ => 2
  | .lload _ => 2
  | .dload _ => 2
  | .aload _ => 2
  | .istore _ => 2
  | .lstore _ => 2
  | .dstore _ => 2
  | .astore _ => 2
  | .iinc _ _ => 3
  | .ifCond _ _ => 3
  | .if_icmp _ _ => 3
  | .goto _ => 3
  | .getfield _ => 3
  | .putfield _ => 3
  | .invokevirtual _ => 3
  | .invokestatic _ => 3
  | .invokespecial _ => 3
  | .new _ => 3
  | .newarray _ => 2
  | .anewarray _ => 3
  | _ => 1
def zdc (bytes : ByteArray) (pc : Nat) (i : Instr) : Bool := match decode bytes pc with
  | .ok q => decide (q.1 = i) && (zsw i || decide (q.2 = zlen i))
  | .error _ => false
def zw (p : Nat) (w : Jvm.Cond) : Bool := decide ((zchk.getD (p / 60) [])[p % 60]? = some w)
def zcN (c : Nat) : String := (zcl.getD c ("", fun _ => ("", "", "", false), 0)).1
def zcF (c : Nat) : u_T := (zcl.getD c ("", fun _ => ("", "", "", false), 0)).2.1
def zcK (c : Nat) : Nat := (zcl.getD c ("", fun _ => ("", "", "", false), 0)).2.2
def zkd : FieldType → Nat
  | .int => 0
  | .object _ => 1
  | .array _ => 1
  | _ => 2
def zat1 : ArrayType → Nat
  | .int => 0
  | .long => 1
  | .boolean => 2
  | _ => 9
def zlink (k p : Nat) (own : String) (ix : Nat) (t : MethodName) : Bool := match k with
  | 0 => zw p (.methodLink own ix t)
  | _ => match znest[p]? with
    | some q => decide (q.1 = own ∧ q.2.1 = ix ∧ q.2.2.1 = t)
    | none => false
def zcallOK (y : Nat) (ix : Nat) (kind : Nat) (ax : List Nat) : Bool :=
  let own := (zMt y).1.cls
  let fr := (zMt y).2.2.2.2.1
  let lo := (zMt y).2.2.2.2.2
  match ax with
  | [_, 5, p1, p2, p3] => decide (kind = 2) && zw p1 (.methodLink own ix Lib.objectInit) && zw p2 (.instanceMethod Lib.objectInit) && zw p3 (.code Lib.objectInit ⟨#[0xb1]⟩ 1 none) && decide (1 ≤ fr) && decide (20 ≤ lo)
  | [_, 3, p1, p2, p3, p4] => decide (kind = 1) && zw p1 (.methodLink own ix arraycopyName) && zw p2 (.native arraycopyName) && zw p3 (.static arraycopyName) && zw p4 (.initialized "java/lang/System") && decide (1 ≤ fr) && decide (8 + (nativeFrameWords "java/lang/System" "arraycopy" 5 + 11) ≤ lo)
  | [_, 4, p1, p2, p3, p4] => decide (kind = 1) && zw p1 (.methodLink own ix Lib.Math.max.name) && zw p2 (.static Lib.Math.max.name) && zw p3 (.initialized "java/lang/Math") && zw p4 (.code Lib.Math.max.name Lib.Math.max.code 2 (some .int)) && decide (1 ≤ fr) && decide (21 ≤ lo)
  | [y', mode, n, ci, p1, p2, p3, p4, lk, lp] =>
    let t := (zMt y').1
    decide (y' < znm) && zlink lk lp own ix t && zw p3 (.initialized t.cls) && zw p4 (.code t (zMt y').2.1 (zMt y').2.2.1 (zMt y').2.2.2.1) && decide (t.cls ≠ "java/lang/invoke/MethodHandle" ∧ t.cls ≠ "java/lang/invoke/VarHandle") && decide ((parseMethodDescriptor t.desc).map (fun d => d.parameters.length) = some n) && decide ((zMt y').2.2.2.2.1 + 1 ≤ fr) && decide (8 + ((zMt y').2.2.1 + 11) + (zMt y').2.2.2.2.2 ≤ lo) && decide (kind = mode) &&
    (match mode with
      | 0 => decide (lk = 0) && decide (ci < zcl.length) && decide (zcN ci = t.cls) && zw p1 (.instanceMethod t) && zw p2 (.selects t.cls t t)
      | 1 => zw p1 (.static t)
      | 2 => zw p1 (.instanceMethod t) && decide (t.name = "<init>") && decide ((zMt y').2.2.2.1 = none)
      | _ => false)
  | _ => false
def zOK (y pc : Nat) (i : Instr) (ax : List Nat) : Bool :=
  let own := (zMt y).1.cls
  zdc (zMt y).2.1 pc i && (match i, ax with
  | .ldc ix, v :: p :: _ => zw p (.constant own ix (Int32.ofNat v))
  | .ldc _, _ => false
  | .ldc_w ix, v :: p :: _ => zw p (.constant own ix (Int32.ofNat v))
  | .ldc_w _, _ => false
  | .ldc2_w ix, v :: p :: _ => zw p (.constantLong own ix (Int64.ofNat v))
  | .ldc2_w _, _ => false
  | .ifCond _ off, t :: _ => decide ((pc : Int) + off = (t : Int))
  | .ifCond _ _, _ => false
  | .if_icmp _ off, t :: _ => decide ((pc : Int) + off = (t : Int))
  | .if_icmp _ _, _ => false
  | .goto off, t :: _ => decide ((pc : Int) + off = (t : Int))
  | .goto _, _ => false
  | .tableswitch d lo hi offs, t :: ts => decide ((pc : Int) + d = (t : Int)) && decide (offs.toList.map (fun o => (pc : Int) + o) = ts.map Int.ofNat) && decide (lo ≤ hi) && decide ((ts.length : Int) = hi - lo + 1)
  | .tableswitch .., _ => false
  | .getfield ix, [ci, k, p] => decide (ci < zcl.length) && decide (k < zcK ci) && zw p (.fieldLink own ix (zcF ci k).1 (zcF ci k).2.1 (zcF ci k).2.2.1)
  | .getfield _, _ => false
  | .putfield ix, [ci, k, kd, p] => decide (ci < zcl.length) && decide (k < zcK ci) && zw p (.fieldLink own ix (zcF ci k).1 (zcF ci k).2.1 (zcF ci k).2.2.1) && decide (zkd (ztyp ci k) = kd) && decide (kd < 2) && ((zcF ci k).2.2.2 == false || (decide ((zMt y).1.name = "<init>") && decide ((zcF ci k).1 = own)))
  | .putfield _, _ => false
  | .new ix, ci :: p1 :: p2 :: p3 :: ds => decide (ci < zcl.length) && zw p1 (.classLink own ix (zcN ci)) && zw p2 (.instantiable (zcN ci) (zcK ci)) && zw p3 (.initialized (zcN ci)) && decide ((zdef ds).length = zcK ci) && (List.range (zcK ci)).all (fun k => decide (defaultValue (ztyp ci k) = (zdef ds).getD k .null))
  | .new _, _ => false
  | .newarray a, t :: p :: _ => decide (zat1 a = t) && decide (t < 3) && decide (t ∈ zkin) && zw p (.arrayClass (newarray.typeOf a))
  | .newarray _, _ => false
  | .anewarray ix, t :: p :: _ => decide (t = 3) && decide (t ∈ zkin) && zw p (.classLink own ix "[I")
  | .anewarray _, _ => false
  | .invokevirtual ix, ax => zcallOK y ix 0 ax
  | .invokestatic ix, ax => zcallOK y ix 1 ax
  | .invokespecial ix, ax => zcallOK y ix 2 ax
  | .lookupswitch d ps, t :: ts => decide ((pc : Int) + d = (t : Int)) && decide (ps.toList.map (fun o => (pc : Int) + o.2) = ts.map Int.ofNat) && (ps.toList.zip (ps.toList.drop 1)).all (fun (a, next) => a.1 < next.1)
  | .lookupswitch .., _ => false
  | _, _ => true)
/-- a method of the table -/
def zMok (y : Nat) : Bool := plainName (zMt y).1.cls && (y == 0 || y != 0) && (match zcw[y]? with
  | some p => zw p (.code (zMt y).1 (zMt y).2.1 (zMt y).2.2.1 (zMt y).2.2.2.1) || decide ((zMt y).1.cls = "NightjarLaw")
  | none => false)
theorem zck_cut {y : Nat} {l : List (Nat × Instr × List Nat)} (k : Nat) (h1 : (l.take k).all (fun e => zOK y e.1 e.2.1 e.2.2) = true) (h2 : (l.drop k).all (fun e => zOK y e.1 e.2.1 e.2.2) = true) : l.all (fun e => zOK y e.1 e.2.1 e.2.2) = true := by
  have h : (l.take k ++ l.drop k).all (fun e => zOK y e.1 e.2.1 e.2.2) = true := by rw [List.all_append, h1, h2]; rfl
  rwa [List.take_append_drop] at h

/-- the kinds of rows that are made -/
def zkin : List Nat := [0, 1, 2, 3]
/-! every row of the table is as the machine has it -/
def zsw : Instr → Bool
  | .tableswitch .. => true
  | .lookupswitch .. => true
  | _ => false
def zlen : Instr → Nat
  | .bipush _ => 2
  | .sipush _ => 3
  | .ldc _ => 2
  | .ldc_w _ => 3
  | .ldc2_w _ => 3
  | .iload _ => 2
  | .lload _ => 2
  | .dload _ => 2
  | .aload _ => 2
  | .istore _ => 2
  | .lstore _ => 2
  | .dstore _ => 2
  | .astore _ => 2
  | .iinc _ _ => 3
  | .ifCond _ _ => 3
  | .if_icmp _ _ => 3
  | .goto _ => 3
  | .getfield _ => 3
  | .putfield _ => 3
  | .invokevirtual _ => 3
  | .invokestatic _ => 3
  | .invokespecial _ => 3
  | .new _ => 3
  | .newarray _ => 2
  | .anewarray _ => 3
  | _ => 1
def zdc (bytes : ByteArray) (pc : Nat) (i : Instr) : Bool := match decode bytes pc with
  | .ok q => decide (q.1 = i) && (zsw i || decide (q.2 = zlen i))
  | .error _ => false
def zw (p : Nat) (w : Jvm.Cond) : Bool := decide ((zchk.getD (p / 60) [])[p % 60]? = some w)
def zcN (c : Nat) : String := (zcl.getD c ("", fun _ => ("", "", "", false), 0)).1
def zcF (c : Nat) : u_T := (zcl.getD c ("", fun _ => ("", "", "", false), 0)).2.1
def zcK (c : Nat) : Nat := (zcl.getD c ("", fun _ => ("", "", "", false), 0)).2.2
def zkd : FieldType → Nat
  | .int => 0
  | .object _ => 1
  | .array _ => 1
  | _ => 2
def zat1 : ArrayType → Nat
  | .int => 0
  | .long => 1
  | .boolean => 2
  | _ => 9
def zlink (k p : Nat) (own : String) (ix : Nat) (t : MethodName) : Bool := match k with
  | 0 => zw p (.methodLink own ix t)
  | _ => match znest[p]? with
    | some q => decide (q.1 = own ∧ q.2.1 = ix ∧ q.2.2.1 = t)
    | none => false
def zcallOK (y : Nat) (ix : Nat) (kind : Nat) (ax : List Nat) : Bool :=
  let own := (zMt y).1.cls
  let fr := (zMt y).2.2.2.2.1
  let lo := (zMt y).2.2.2.2.2
  match ax with
  | [_, 5, p1, p2, p3] => decide (kind = 2) && zw p1 (.methodLink own ix Lib.objectInit) && zw p2 (.instanceMethod Lib.objectInit) && zw p3 (.code Lib.objectInit ⟨#[0xb1]⟩ 1 none) && decide (1 ≤ fr) && decide (20 ≤ lo)
  | [_, 3, p1, p2, p3, p4] => decide (kind = 1) && zw p1 (.methodLink own ix arraycopyName) && zw p2 (.native arraycopyName) && zw p3 (.static arraycopyName) && zw p4 (.initialized "java/lang/System") && decide (1 ≤ fr) && decide (8 + (nativeFrameWords "java/lang/System" "arraycopy" 5 + 11) ≤ lo)
  | [_, 4, p1, p2, p3, p4] => decide (kind = 1) && zw p1 (.methodLink own ix Lib.Math.max.name) && zw p2 (.static Lib.Math.max.name) && zw p3 (.initialized "java/lang/Math") && zw p4 (.code Lib.Math.max.name Lib.Math.max.code 2 (some .int)) && decide (1 ≤ fr) && decide (21 ≤ lo)
  | [y', mode, n, ci, p1, p2, p3, p4, lk, lp] =>
    let t := (zMt y').1
    decide (y' < znm) && zlink lk lp own ix t && zw p3 (.initialized t.cls) && zw p4 (.code t (zMt y').2.1 (zMt y').2.2.1 (zMt y').2.2.2.1) && decide (t.cls ≠ "java/lang/invoke/MethodHandle" ∧ t.cls ≠ "java/lang/invoke/VarHandle") && decide ((parseMethodDescriptor t.desc).map (fun d => d.parameters.length) = some n) && decide ((zMt y').2.2.2.2.1 + 1 ≤ fr) && decide (8 + ((zMt y').2.2.1 + 11) + (zMt y').2.2.2.2.2 ≤ lo) && decide (kind = mode) &&
    (match mode with
      | 0 => decide (lk = 0) && decide (ci < zcl.length) && decide (zcN ci = t.cls) && zw p1 (.instanceMethod t) && zw p2 (.selects t.cls t t)
      | 1 => zw p1 (.static t)
      | 2 => zw p1 (.instanceMethod t) && decide (t.name = "<init>") && decide ((zMt y').2.2.2.1 = none)
      | _ => false)
  | _ => false
def zOK (y pc : Nat) (i : Instr) (ax : List Nat) : Bool :=
  let own := (zMt y).1.cls
  zdc (zMt y).2.1 pc i && (match i, ax with
  | .ldc ix, v :: p :: _ => zw p (.constant own ix (Int32.ofNat v))
  | .ldc _, _ => false
  | .ldc_w ix, v :: p :: _ => zw p (.constant own ix (Int32.ofNat v))
  | .ldc_w _, _ => false
  | .ldc2_w ix, v :: p :: _ => zw p (.constantLong own ix (Int64.ofNat v))
  | .ldc2_w _, _ => false
  | .ifCond _ off, t :: _ => decide ((pc : Int) + off = (t : Int))
  | .ifCond _ _, _ => false
  | .if_icmp _ off, t :: _ => decide ((pc : Int) + off = (t : Int))
  | .if_icmp _ _, _ => false
  | .goto off, t :: _ => decide ((pc : Int) + off = (t : Int))
  | .goto _, _ => false
  | .tableswitch d lo hi offs, t :: ts => decide ((pc : Int) + d = (t : Int)) && decide (offs.toList.map (fun o => (pc : Int) + o) = ts.map Int.ofNat) && decide (lo ≤ hi) && decide ((ts.length : Int) = hi - lo + 1)
  | .tableswitch .., _ => false
  | .getfield ix, [ci, k, p] => decide (ci < zcl.length) && decide (k < zcK ci) && zw p (.fieldLink own ix (zcF ci k).1 (zcF ci k).2.1 (zcF ci k).2.2.1)
  | .getfield _, _ => false
  | .putfield ix, [ci, k, kd, p] => decide (ci < zcl.length) && decide (k < zcK ci) && zw p (.fieldLink own ix (zcF ci k).1 (zcF ci k).2.1 (zcF ci k).2.2.1) && decide (zkd (ztyp ci k) = kd) && decide (kd < 2) && ((zcF ci k).2.2.2 == false || (decide ((zMt y).1.name = "<init>") && decide ((zcF ci k).1 = own)))
  | .putfield _, _ => false
  | .new ix, ci :: p1 :: p2 :: p3 :: ds => decide (ci < zcl.length) && zw p1 (.classLink own ix (zcN ci)) && zw p2 (.instantiable (zcN ci) (zcK ci)) && zw p3 (.initialized (zcN ci)) && decide ((zdef ds).length = zcK ci) && (List.range (zcK ci)).all (fun k => decide (defaultValue (ztyp ci k) = (zdef ds).getD k .null))
  | .new _, _ => false
  | .newarray a, t :: p :: _ => decide (zat1 a = t) && decide (t < 3) && decide (t ∈ zkin) && zw p (.arrayClass (newarray.typeOf a))
  | .newarray _, _ => false
  | .anewarray ix, t :: p :: _ => decide (t = 3) && decide (t ∈ zkin) && zw p (.classLink own ix "[I")
  | .anewarray _, _ => false
  | .invokevirtual ix, ax => zcallOK y ix 0 ax
  | .invokestatic ix, ax => zcallOK y ix 1 ax
  | .invokespecial ix, ax => zcallOK y ix 2 ax
  | .lookupswitch d ps, t :: ts => decide ((pc : Int) + d = (t : Int)) && decide (ps.toList.map (fun o => (pc : Int) + o.2) = ts.map Int.ofNat) && (ps.toList.zip (ps.toList.drop 1)).all (fun (a, next) => a.1 < next.1)
  | .lookupswitch .., _ => false
  | _, _ => true)
/-- a method of the table -/
def zMok (y : Nat) : Bool := plainName (zMt y).1.cls && (y == 0 || y != 0) && (match zcw[y]? with
  | some p => zw p (.code (zMt y).1 (zMt y).2.1 (zMt y).2.2.1 (zMt y).2.2.2.1) || decide ((zMt y).1.name = "law")
  | none => false)
theorem zck_0 : (zcs.getD 0 []).all (fun e => zOK 0 e.1 e.2.1 e.2.2) = true := by decide +kernel
theorem zcm_0 : zMok 0 = true := by decide +kernel
theorem zck_1 : (zcs.getD 1 []).all (fun e => zOK 1 e.1 e.2.1 e.2.2) = true := by decide +kernel
theorem zcm_1 : zMok 1 = true := by decide +kernel
theorem zck_2 : (zcs.getD 2 []).all (fun e => zOK 2 e.1 e.2.1 e.2.2) = true := by decide +kernel
theorem zcm_2 : zMok 2 = true := by decide +kernel
theorem zck_3 : (zcs.getD 3 []).all (fun e => zOK 3 e.1 e.2.1 e.2.2) = true := by decide +kernel
theorem zcm_3 : zMok 3 = true := by decide +kernel
theorem zck_4 : (zcs.getD 4 []).all (fun e => zOK 4 e.1 e.2.1 e.2.2) = true := by decide +kernel
theorem zcm_4 : zMok 4 = true := by decide +kernel
theorem zck_5 : (zcs.getD 5 []).all (fun e => zOK 5 e.1 e.2.1 e.2.2) = true := by decide +kernel
theorem zcm_5 : zMok 5 = true := by decide +kernel
theorem zck_6 : (zcs.getD 6 []).all (fun e => zOK 6 e.1 e.2.1 e.2.2) = true := by decide +kernel
theorem zcm_6 : zMok 6 = true := by decide +kernel
theorem zck_7 : (zcs.getD 7 []).all (fun e => zOK 7 e.1 e.2.1 e.2.2) = true := by decide +kernel
theorem zcm_7 : zMok 7 = true := by decide +kernel
theorem zck_8 : (zcs.getD 8 []).all (fun e => zOK 8 e.1 e.2.1 e.2.2) = true := by decide +kernel
theorem zcm_8 : zMok 8 = true := by decide +kernel
theorem zck_9 : (zcs.getD 9 []).all (fun e => zOK 9 e.1 e.2.1 e.2.2) = true := by decide +kernel
theorem zcm_9 : zMok 9 = true := by decide +kernel
theorem zck_10 : (zcs.getD 10 []).all (fun e => zOK 10 e.1 e.2.1 e.2.2) = true := by decide +kernel
theorem zcm_10 : zMok 10 = true := by decide +kernel
theorem zck_11 : (zcs.getD 11 []).all (fun e => zOK 11 e.1 e.2.1 e.2.2) = true := by decide +kernel
theorem zcm_11 : zMok 11 = true := by decide +kernel
theorem zck_12 : (zcs.getD 12 []).all (fun e => zOK 12 e.1 e.2.1 e.2.2) = true := by decide +kernel
theorem zcm_12 : zMok 12 = true := by decide +kernel
theorem zck_13 : (zcs.getD 13 []).all (fun e => zOK 13 e.1 e.2.1 e.2.2) = true := by decide +kernel
theorem zcm_13 : zMok 13 = true := by decide +kernel
theorem zck_14 : (zcs.getD 14 []).all (fun e => zOK 14 e.1 e.2.1 e.2.2) = true := by decide +kernel
theorem zcm_14 : zMok 14 = true := by decide +kernel
theorem zck_15 : (zcs.getD 15 []).all (fun e => zOK 15 e.1 e.2.1 e.2.2) = true := by decide +kernel
theorem zcm_15 : zMok 15 = true := by decide +kernel
theorem zck_16 : (zcs.getD 16 []).all (fun e => zOK 16 e.1 e.2.1 e.2.2) = true := by decide +kernel
theorem zcm_16 : zMok 16 = true := by decide +kernel
theorem zck_17 : (zcs.getD 17 []).all (fun e => zOK 17 e.1 e.2.1 e.2.2) = true := by decide +kernel
theorem zcm_17 : zMok 17 = true := by decide +kernel
theorem zck_18 : (zcs.getD 18 []).all (fun e => zOK 18 e.1 e.2.1 e.2.2) = true := by decide +kernel
theorem zcm_18 : zMok 18 = true := by decide +kernel
theorem zck_19 : (zcs.getD 19 []).all (fun e => zOK 19 e.1 e.2.1 e.2.2) = true := by decide +kernel
theorem zcm_19 : zMok 19 = true := by decide +kernel
theorem zck_20 : (zcs.getD 20 []).all (fun e => zOK 20 e.1 e.2.1 e.2.2) = true := by decide +kernel
theorem zcm_20 : zMok 20 = true := by decide +kernel
theorem zck_21 : (zcs.getD 21 []).all (fun e => zOK 21 e.1 e.2.1 e.2.2) = true := by decide +kernel
theorem zcm_21 : zMok 21 = true := by decide +kernel
theorem zck_22 : (zcs.getD 22 []).all (fun e => zOK 22 e.1 e.2.1 e.2.2) = true := by decide +kernel
theorem zcm_22 : zMok 22 = true := by decide +kernel
theorem zck_23 : (zcs.getD 23 []).all (fun e => zOK 23 e.1 e.2.1 e.2.2) = true := by decide +kernel
theorem zcm_23 : zMok 23 = true := by decide +kernel
theorem zck_24 : (zcs.getD 24 []).all (fun e => zOK 24 e.1 e.2.1 e.2.2) = true := by decide +kernel
theorem zcm_24 : zMok 24 = true := by decide +kernel
theorem zck_25 : (zcs.getD 25 []).all (fun e => zOK 25 e.1 e.2.1 e.2.2) = true := by decide +kernel
theorem zcm_25 : zMok 25 = true := by decide +kernel
theorem zck_26 : (zcs.getD 26 []).all (fun e => zOK 26 e.1 e.2.1 e.2.2) = true := by decide +kernel
theorem zcm_26 : zMok 26 = true := by decide +kernel
theorem zck_27 : (zcs.getD 27 []).all (fun e => zOK 27 e.1 e.2.1 e.2.2) = true := by decide +kernel
theorem zcm_27 : zMok 27 = true := by decide +kernel
theorem zck_28 : (zcs.getD 28 []).all (fun e => zOK 28 e.1 e.2.1 e.2.2) = true := by decide +kernel
theorem zcm_28 : zMok 28 = true := by decide +kernel
theorem zck_29 : (zcs.getD 29 []).all (fun e => zOK 29 e.1 e.2.1 e.2.2) = true := by decide +kernel
theorem zcm_29 : zMok 29 = true := by decide +kernel
theorem zck_30 : (zcs.getD 30 []).all (fun e => zOK 30 e.1 e.2.1 e.2.2) = true := by decide +kernel
theorem zcm_30 : zMok 30 = true := by decide +kernel
theorem zck_31 : (zcs.getD 31 []).all (fun e => zOK 31 e.1 e.2.1 e.2.2) = true := by decide +kernel
theorem zcm_31 : zMok 31 = true := by decide +kernel
theorem zck_32 : (zcs.getD 32 []).all (fun e => zOK 32 e.1 e.2.1 e.2.2) = true := by decide +kernel
theorem zcm_32 : zMok 32 = true := by decide +kernel
theorem zck_33 : (zcs.getD 33 []).all (fun e => zOK 33 e.1 e.2.1 e.2.2) = true := by decide +kernel
theorem zcm_33 : zMok 33 = true := by decide +kernel
theorem zck_34 : (zcs.getD 34 []).all (fun e => zOK 34 e.1 e.2.1 e.2.2) = true := by decide +kernel
theorem zcm_34 : zMok 34 = true := by decide +kernel
theorem zck_35 : (zcs.getD 35 []).all (fun e => zOK 35 e.1 e.2.1 e.2.2) = true := by decide +kernel
theorem zcm_35 : zMok 35 = true := by decide +kernel
theorem zck_36 : (zcs.getD 36 []).all (fun e => zOK 36 e.1 e.2.1 e.2.2) = true := by decide +kernel
theorem zcm_36 : zMok 36 = true := by decide +kernel
theorem zck_37 : (zcs.getD 37 []).all (fun e => zOK 37 e.1 e.2.1 e.2.2) = true := by decide +kernel
theorem zcm_37 : zMok 37 = true := by decide +kernel
theorem zck_38 : (zcs.getD 38 []).all (fun e => zOK 38 e.1 e.2.1 e.2.2) = true := by decide +kernel
theorem zcm_38 : zMok 38 = true := by decide +kernel
theorem zck_39 : (zcs.getD 39 []).all (fun e => zOK 39 e.1 e.2.1 e.2.2) = true := by decide +kernel
theorem zcm_39 : zMok 39 = true := by decide +kernel
theorem zck_40 : (zcs.getD 40 []).all (fun e => zOK 40 e.1 e.2.1 e.2.2) = true := by decide +kernel
theorem zcm_40 : zMok 40 = true := by decide +kernel
theorem zck_41 : (zcs.getD 41 []).all (fun e => zOK 41 e.1 e.2.1 e.2.2) = true := by decide +kernel
theorem zcm_41 : zMok 41 = true := by decide +kernel
theorem zck_42 : (zcs.getD 42 []).all (fun e => zOK 42 e.1 e.2.1 e.2.2) = true := by decide +kernel
theorem zcm_42 : zMok 42 = true := by decide +kernel
theorem zck_43 : (zcs.getD 43 []).all (fun e => zOK 43 e.1 e.2.1 e.2.2) = true := by decide +kernel
theorem zcm_43 : zMok 43 = true := by decide +kernel
theorem zck_44 : (zcs.getD 44 []).all (fun e => zOK 44 e.1 e.2.1 e.2.2) = true := by decide +kernel
theorem zcm_44 : zMok 44 = true := by decide +kernel
theorem zck_45 : (zcs.getD 45 []).all (fun e => zOK 45 e.1 e.2.1 e.2.2) = true := by decide +kernel
theorem zcm_45 : zMok 45 = true := by decide +kernel
theorem zck_46 : (zcs.getD 46 []).all (fun e => zOK 46 e.1 e.2.1 e.2.2) = true := by decide +kernel
theorem zcm_46 : zMok 46 = true := by decide +kernel
theorem zck_47 : (zcs.getD 47 []).all (fun e => zOK 47 e.1 e.2.1 e.2.2) = true := by decide +kernel
theorem zcm_47 : zMok 47 = true := by decide +kernel
theorem zck_48 : (zcs.getD 48 []).all (fun e => zOK 48 e.1 e.2.1 e.2.2) = true := by decide +kernel
theorem zcm_48 : zMok 48 = true := by decide +kernel
theorem zck_49 : (zcs.getD 49 []).all (fun e => zOK 49 e.1 e.2.1 e.2.2) = true := by decide +kernel
theorem zcm_49 : zMok 49 = true := by decide +kernel
theorem zck_50 : (zcs.getD 50 []).all (fun e => zOK 50 e.1 e.2.1 e.2.2) = true := by decide +kernel
theorem zcm_50 : zMok 50 = true := by decide +kernel
theorem zck_51 : (zcs.getD 51 []).all (fun e => zOK 51 e.1 e.2.1 e.2.2) = true := by decide +kernel
theorem zcm_51 : zMok 51 = true := by decide +kernel
theorem zck_52 : (zcs.getD 52 []).all (fun e => zOK 52 e.1 e.2.1 e.2.2) = true := by decide +kernel
theorem zcm_52 : zMok 52 = true := by decide +kernel
theorem zck_53 : (zcs.getD 53 []).all (fun e => zOK 53 e.1 e.2.1 e.2.2) = true := by decide +kernel
theorem zcm_53 : zMok 53 = true := by decide +kernel
theorem zck_54 : (zcs.getD 54 []).all (fun e => zOK 54 e.1 e.2.1 e.2.2) = true := by decide +kernel
theorem zcm_54 : zMok 54 = true := by decide +kernel
theorem zck_55 : (zcs.getD 55 []).all (fun e => zOK 55 e.1 e.2.1 e.2.2) = true := by decide +kernel
theorem zcm_55 : zMok 55 = true := by decide +kernel
theorem zck_56 : (zcs.getD 56 []).all (fun e => zOK 56 e.1 e.2.1 e.2.2) = true := by decide +kernel
theorem zcm_56 : zMok 56 = true := by decide +kernel
theorem zck_57 : (zcs.getD 57 []).all (fun e => zOK 57 e.1 e.2.1 e.2.2) = true := by decide +kernel
theorem zcm_57 : zMok 57 = true := by decide +kernel
theorem zck_58 : (zcs.getD 58 []).all (fun e => zOK 58 e.1 e.2.1 e.2.2) = true := by decide +kernel
theorem zcm_58 : zMok 58 = true := by decide +kernel
theorem zck_59 : (zcs.getD 59 []).all (fun e => zOK 59 e.1 e.2.1 e.2.2) = true := by decide +kernel
theorem zcm_59 : zMok 59 = true := by decide +kernel
theorem zck_60 : (zcs.getD 60 []).all (fun e => zOK 60 e.1 e.2.1 e.2.2) = true := by decide +kernel
theorem zcm_60 : zMok 60 = true := by decide +kernel
theorem zck_61 : (zcs.getD 61 []).all (fun e => zOK 61 e.1 e.2.1 e.2.2) = true := by decide +kernel
theorem zcm_61 : zMok 61 = true := by decide +kernel
theorem zck_62 : (zcs.getD 62 []).all (fun e => zOK 62 e.1 e.2.1 e.2.2) = true := by decide +kernel
theorem zcm_62 : zMok 62 = true := by decide +kernel
theorem zck_63 : (zcs.getD 63 []).all (fun e => zOK 63 e.1 e.2.1 e.2.2) = true := by decide +kernel
theorem zcm_63 : zMok 63 = true := by decide +kernel
theorem zck_64 : (zcs.getD 64 []).all (fun e => zOK 64 e.1 e.2.1 e.2.2) = true := by decide +kernel
theorem zcm_64 : zMok 64 = true := by decide +kernel
theorem zck_65 : (zcs.getD 65 []).all (fun e => zOK 65 e.1 e.2.1 e.2.2) = true := by decide +kernel
theorem zcm_65 : zMok 65 = true := by decide +kernel
theorem zck_66 : (zcs.getD 66 []).all (fun e => zOK 66 e.1 e.2.1 e.2.2) = true := by decide +kernel
theorem zcm_66 : zMok 66 = true := by decide +kernel
theorem zck_67 : (zcs.getD 67 []).all (fun e => zOK 67 e.1 e.2.1 e.2.2) = true := by decide +kernel
theorem zcm_67 : zMok 67 = true := by decide +kernel
theorem zck_68 : (zcs.getD 68 []).all (fun e => zOK 68 e.1 e.2.1 e.2.2) = true := by decide +kernel
theorem zcm_68 : zMok 68 = true := by decide +kernel
theorem zck_69 : (zcs.getD 69 []).all (fun e => zOK 69 e.1 e.2.1 e.2.2) = true := by decide +kernel
theorem zcm_69 : zMok 69 = true := by decide +kernel
theorem zck_70 : (zcs.getD 70 []).all (fun e => zOK 70 e.1 e.2.1 e.2.2) = true := by decide +kernel
theorem zcm_70 : zMok 70 = true := by decide +kernel
theorem zck_71 : (zcs.getD 71 []).all (fun e => zOK 71 e.1 e.2.1 e.2.2) = true := by decide +kernel
theorem zcm_71 : zMok 71 = true := by decide +kernel
theorem zck_72 : (zcs.getD 72 []).all (fun e => zOK 72 e.1 e.2.1 e.2.2) = true := by decide +kernel
theorem zcm_72 : zMok 72 = true := by decide +kernel
theorem zck_73 : (zcs.getD 73 []).all (fun e => zOK 73 e.1 e.2.1 e.2.2) = true := by decide +kernel
theorem zcm_73 : zMok 73 = true := by decide +kernel
theorem zck_74 : (zcs.getD 74 []).all (fun e => zOK 74 e.1 e.2.1 e.2.2) = true := by decide +kernel
theorem zcm_74 : zMok 74 = true := by decide +kernel
theorem zck_75 : (zcs.getD 75 []).all (fun e => zOK 75 e.1 e.2.1 e.2.2) = true := by decide +kernel
theorem zcm_75 : zMok 75 = true := by decide +kernel
theorem zck_76 : (zcs.getD 76 []).all (fun e => zOK 76 e.1 e.2.1 e.2.2) = true := by decide +kernel
theorem zcm_76 : zMok 76 = true := by decide +kernel
theorem zck_77 : (zcs.getD 77 []).all (fun e => zOK 77 e.1 e.2.1 e.2.2) = true := by decide +kernel
theorem zcm_77 : zMok 77 = true := by decide +kernel
theorem zck_78 : (zcs.getD 78 []).all (fun e => zOK 78 e.1 e.2.1 e.2.2) = true := by decide +kernel
theorem zcm_78 : zMok 78 = true := by decide +kernel
theorem zck_79 : (zcs.getD 79 []).all (fun e => zOK 79 e.1 e.2.1 e.2.2) = true := by decide +kernel
theorem zcm_79 : zMok 79 = true := by decide +kernel
theorem zck_80 : (zcs.getD 80 []).all (fun e => zOK 80 e.1 e.2.1 e.2.2) = true := by decide +kernel
theorem zcm_80 : zMok 80 = true := by decide +kernel
theorem zck_81 : (zcs.getD 81 []).all (fun e => zOK 81 e.1 e.2.1 e.2.2) = true := by decide +kernel
theorem zcm_81 : zMok 81 = true := by decide +kernel
theorem zck_82 : (zcs.getD 82 []).all (fun e => zOK 82 e.1 e.2.1 e.2.2) = true := by decide +kernel
theorem zcm_82 : zMok 82 = true := by decide +kernel
theorem zck_83 : (zcs.getD 83 []).all (fun e => zOK 83 e.1 e.2.1 e.2.2) = true := by decide +kernel
theorem zcm_83 : zMok 83 = true := by decide +kernel
theorem zck_84 : (zcs.getD 84 []).all (fun e => zOK 84 e.1 e.2.1 e.2.2) = true := by decide +kernel
theorem zcm_84 : zMok 84 = true := by decide +kernel
theorem zck_85 : (zcs.getD 85 []).all (fun e => zOK 85 e.1 e.2.1 e.2.2) = true := by decide +kernel
theorem zcm_85 : zMok 85 = true := by decide +kernel
theorem zck_86 : (zcs.getD 86 []).all (fun e => zOK 86 e.1 e.2.1 e.2.2) = true := by decide +kernel
theorem zcm_86 : zMok 86 = true := by decide +kernel
theorem zck_87 : (zcs.getD 87 []).all (fun e => zOK 87 e.1 e.2.1 e.2.2) = true := by decide +kernel
theorem zcm_87 : zMok 87 = true := by decide +kernel
theorem zck_88 : (zcs.getD 88 []).all (fun e => zOK 88 e.1 e.2.1 e.2.2) = true := by decide +kernel
theorem zcm_88 : zMok 88 = true := by decide +kernel
theorem zck_89 : (zcs.getD 89 []).all (fun e => zOK 89 e.1 e.2.1 e.2.2) = true := by decide +kernel
theorem zcm_89 : zMok 89 = true := by decide +kernel
theorem zck_90 : (zcs.getD 90 []).all (fun e => zOK 90 e.1 e.2.1 e.2.2) = true := by decide +kernel
theorem zcm_90 : zMok 90 = true := by decide +kernel
theorem zck_91 : (zcs.getD 91 []).all (fun e => zOK 91 e.1 e.2.1 e.2.2) = true := by decide +kernel
theorem zcm_91 : zMok 91 = true := by decide +kernel
theorem zck_92 : (zcs.getD 92 []).all (fun e => zOK 92 e.1 e.2.1 e.2.2) = true := by decide +kernel
theorem zcm_92 : zMok 92 = true := by decide +kernel
theorem zck_93 : (zcs.getD 93 []).all (fun e => zOK 93 e.1 e.2.1 e.2.2) = true := by decide +kernel
theorem zcm_93 : zMok 93 = true := by decide +kernel
theorem zck_94 : (zcs.getD 94 []).all (fun e => zOK 94 e.1 e.2.1 e.2.2) = true := by decide +kernel
theorem zcm_94 : zMok 94 = true := by decide +kernel
theorem zck_95 : (zcs.getD 95 []).all (fun e => zOK 95 e.1 e.2.1 e.2.2) = true := by decide +kernel
theorem zcm_95 : zMok 95 = true := by decide +kernel
theorem zck_96 : (zcs.getD 96 []).all (fun e => zOK 96 e.1 e.2.1 e.2.2) = true := by decide +kernel
theorem zcm_96 : zMok 96 = true := by decide +kernel
theorem zck_97 : (zcs.getD 97 []).all (fun e => zOK 97 e.1 e.2.1 e.2.2) = true := by decide +kernel
theorem zcm_97 : zMok 97 = true := by decide +kernel
theorem zck_98 : (zcs.getD 98 []).all (fun e => zOK 98 e.1 e.2.1 e.2.2) = true := by decide +kernel
theorem zcm_98 : zMok 98 = true := by decide +kernel
theorem zck_99 : (zcs.getD 99 []).all (fun e => zOK 99 e.1 e.2.1 e.2.2) = true := by decide +kernel
theorem zcm_99 : zMok 99 = true := by decide +kernel
theorem zck_100 : (zcs.getD 100 []).all (fun e => zOK 100 e.1 e.2.1 e.2.2) = true := by decide +kernel
theorem zcm_100 : zMok 100 = true := by decide +kernel
theorem zck_101 : (zcs.getD 101 []).all (fun e => zOK 101 e.1 e.2.1 e.2.2) = true := by decide +kernel
theorem zcm_101 : zMok 101 = true := by decide +kernel
theorem zck_102 : (zcs.getD 102 []).all (fun e => zOK 102 e.1 e.2.1 e.2.2) = true := by decide +kernel
theorem zcm_102 : zMok 102 = true := by decide +kernel
theorem zck_103 : (zcs.getD 103 []).all (fun e => zOK 103 e.1 e.2.1 e.2.2) = true := by decide +kernel
theorem zcm_103 : zMok 103 = true := by decide +kernel
theorem zck_104 : (zcs.getD 104 []).all (fun e => zOK 104 e.1 e.2.1 e.2.2) = true := by decide +kernel
theorem zcm_104 : zMok 104 = true := by decide +kernel
theorem zck_105 : (zcs.getD 105 []).all (fun e => zOK 105 e.1 e.2.1 e.2.2) = true := by decide +kernel
theorem zcm_105 : zMok 105 = true := by decide +kernel
theorem zck_106 : (zcs.getD 106 []).all (fun e => zOK 106 e.1 e.2.1 e.2.2) = true := by decide +kernel
theorem zcm_106 : zMok 106 = true := by decide +kernel
theorem zck_107 : (zcs.getD 107 []).all (fun e => zOK 107 e.1 e.2.1 e.2.2) = true := by decide +kernel
theorem zcm_107 : zMok 107 = true := by decide +kernel
theorem zck_108 : (zcs.getD 108 []).all (fun e => zOK 108 e.1 e.2.1 e.2.2) = true := by decide +kernel
theorem zcm_108 : zMok 108 = true := by decide +kernel
theorem zck_109 : (zcs.getD 109 []).all (fun e => zOK 109 e.1 e.2.1 e.2.2) = true := by decide +kernel
theorem zcm_109 : zMok 109 = true := by decide +kernel
theorem zck_110 : (zcs.getD 110 []).all (fun e => zOK 110 e.1 e.2.1 e.2.2) = true := by decide +kernel
theorem zcm_110 : zMok 110 = true := by decide +kernel
theorem zck_111 : (zcs.getD 111 []).all (fun e => zOK 111 e.1 e.2.1 e.2.2) = true := by decide +kernel
theorem zcm_111 : zMok 111 = true := by decide +kernel
theorem zck_112 : (zcs.getD 112 []).all (fun e => zOK 112 e.1 e.2.1 e.2.2) = true := by decide +kernel
theorem zcm_112 : zMok 112 = true := by decide +kernel
theorem zck_113 : (zcs.getD 113 []).all (fun e => zOK 113 e.1 e.2.1 e.2.2) = true := by decide +kernel
theorem zcm_113 : zMok 113 = true := by decide +kernel
theorem zck_114 : (zcs.getD 114 []).all (fun e => zOK 114 e.1 e.2.1 e.2.2) = true := by decide +kernel
theorem zcm_114 : zMok 114 = true := by decide +kernel
theorem zck_115 : (zcs.getD 115 []).all (fun e => zOK 115 e.1 e.2.1 e.2.2) = true := by decide +kernel
theorem zcm_115 : zMok 115 = true := by decide +kernel
theorem zck_116 : (zcs.getD 116 []).all (fun e => zOK 116 e.1 e.2.1 e.2.2) = true := by decide +kernel
theorem zcm_116 : zMok 116 = true := by decide +kernel
theorem zck_117 : (zcs.getD 117 []).all (fun e => zOK 117 e.1 e.2.1 e.2.2) = true := by decide +kernel
theorem zcm_117 : zMok 117 = true := by decide +kernel
theorem zck_118 : (zcs.getD 118 []).all (fun e => zOK 118 e.1 e.2.1 e.2.2) = true := by decide +kernel
theorem zcm_118 : zMok 118 = true := by decide +kernel
theorem zck_119 : (zcs.getD 119 []).all (fun e => zOK 119 e.1 e.2.1 e.2.2) = true := by decide +kernel
theorem zcm_119 : zMok 119 = true := by decide +kernel
theorem zck_120 : (zcs.getD 120 []).all (fun e => zOK 120 e.1 e.2.1 e.2.2) = true := by decide +kernel
theorem zcm_120 : zMok 120 = true := by decide +kernel
theorem zck_121 : (zcs.getD 121 []).all (fun e => zOK 121 e.1 e.2.1 e.2.2) = true := by decide +kernel
theorem zcm_121 : zMok 121 = true := by decide +kernel
theorem zck_122 : (zcs.getD 122 []).all (fun e => zOK 122 e.1 e.2.1 e.2.2) = true := by decide +kernel
theorem zcm_122 : zMok 122 = true := by decide +kernel
theorem zck_123 : (zcs.getD 123 []).all (fun e => zOK 123 e.1 e.2.1 e.2.2) = true := by decide +kernel
theorem zcm_123 : zMok 123 = true := by decide +kernel
theorem zck_124 : (zcs.getD 124 []).all (fun e => zOK 124 e.1 e.2.1 e.2.2) = true := by decide +kernel
theorem zcm_124 : zMok 124 = true := by decide +kernel
theorem zck_125 : (zcs.getD 125 []).all (fun e => zOK 125 e.1 e.2.1 e.2.2) = true := by decide +kernel
theorem zcm_125 : zMok 125 = true := by decide +kernel
theorem zck_126 : (zcs.getD 126 []).all (fun e => zOK 126 e.1 e.2.1 e.2.2) = true := by decide +kernel
theorem zcm_126 : zMok 126 = true := by decide +kernel
theorem zck_127 : (zcs.getD 127 []).all (fun e => zOK 127 e.1 e.2.1 e.2.2) = true := by decide +kernel
theorem zcm_127 : zMok 127 = true := by decide +kernel
theorem zck_128 : (zcs.getD 128 []).all (fun e => zOK 128 e.1 e.2.1 e.2.2) = true := by decide +kernel
theorem zcm_128 : zMok 128 = true := by decide +kernel
theorem zck_129 : (zcs.getD 129 []).all (fun e => zOK 129 e.1 e.2.1 e.2.2) = true := by decide +kernel
theorem zcm_129 : zMok 129 = true := by decide +kernel
theorem zck_130 : (zcs.getD 130 []).all (fun e => zOK 130 e.1 e.2.1 e.2.2) = true := by decide +kernel
theorem zcm_130 : zMok 130 = true := by decide +kernel
theorem zck_131 : (zcs.getD 131 []).all (fun e => zOK 131 e.1 e.2.1 e.2.2) = true := by decide +kernel
theorem zcm_131 : zMok 131 = true := by decide +kernel
theorem zck_132 : (zcs.getD 132 []).all (fun e => zOK 132 e.1 e.2.1 e.2.2) = true := by decide +kernel
theorem zcm_132 : zMok 132 = true := by decide +kernel
theorem zck_133 : (zcs.getD 133 []).all (fun e => zOK 133 e.1 e.2.1 e.2.2) = true := by decide +kernel
theorem zcm_133 : zMok 133 = true := by decide +kernel
theorem zck_134 : (zcs.getD 134 []).all (fun e => zOK 134 e.1 e.2.1 e.2.2) = true := by decide +kernel
theorem zcm_134 : zMok 134 = true := by decide +kernel
theorem zck_135 : (zcs.getD 135 []).all (fun e => zOK 135 e.1 e.2.1 e.2.2) = true := by decide +kernel
theorem zcm_135 : zMok 135 = true := by decide +kernel
theorem zck_136 : (zcs.getD 136 []).all (fun e => zOK 136 e.1 e.2.1 e.2.2) = true := by decide +kernel
theorem zcm_136 : zMok 136 = true := by decide +kernel
theorem zck_137 : (zcs.getD 137 []).all (fun e => zOK 137 e.1 e.2.1 e.2.2) = true := by decide +kernel
theorem zcm_137 : zMok 137 = true := by decide +kernel
theorem zck_138 : (zcs.getD 138 []).all (fun e => zOK 138 e.1 e.2.1 e.2.2) = true := by decide +kernel
theorem zcm_138 : zMok 138 = true := by decide +kernel
theorem zck_139 : (zcs.getD 139 []).all (fun e => zOK 139 e.1 e.2.1 e.2.2) = true := by decide +kernel
theorem zcm_139 : zMok 139 = true := by decide +kernel
theorem zck_140 : (zcs.getD 140 []).all (fun e => zOK 140 e.1 e.2.1 e.2.2) = true := by decide +kernel
theorem zcm_140 : zMok 140 = true := by decide +kernel
theorem zck_141 : (zcs.getD 141 []).all (fun e => zOK 141 e.1 e.2.1 e.2.2) = true := by decide +kernel
theorem zcm_141 : zMok 141 = true := by decide +kernel
theorem zck_142 : (zcs.getD 142 []).all (fun e => zOK 142 e.1 e.2.1 e.2.2) = true := by decide +kernel
theorem zcm_142 : zMok 142 = true := by decide +kernel
theorem zck_143 : (zcs.getD 143 []).all (fun e => zOK 143 e.1 e.2.1 e.2.2) = true := by decide +kernel
theorem zcm_143 : zMok 143 = true := by decide +kernel
theorem zck_144 : (zcs.getD 144 []).all (fun e => zOK 144 e.1 e.2.1 e.2.2) = true := by decide +kernel
theorem zcm_144 : zMok 144 = true := by decide +kernel
theorem zck_145 : (zcs.getD 145 []).all (fun e => zOK 145 e.1 e.2.1 e.2.2) = true := by decide +kernel
theorem zcm_145 : zMok 145 = true := by decide +kernel
theorem zck_146 : (zcs.getD 146 []).all (fun e => zOK 146 e.1 e.2.1 e.2.2) = true := by decide +kernel
theorem zcm_146 : zMok 146 = true := by decide +kernel
theorem zck_147 : (zcs.getD 147 []).all (fun e => zOK 147 e.1 e.2.1 e.2.2) = true := by decide +kernel
theorem zcm_147 : zMok 147 = true := by decide +kernel
theorem zck_148 : (zcs.getD 148 []).all (fun e => zOK 148 e.1 e.2.1 e.2.2) = true := by decide +kernel
theorem zcm_148 : zMok 148 = true := by decide +kernel
theorem zck_149 : (zcs.getD 149 []).all (fun e => zOK 149 e.1 e.2.1 e.2.2) = true := by decide +kernel
theorem zcm_149 : zMok 149 = true := by decide +kernel
theorem zck_150 : (zcs.getD 150 []).all (fun e => zOK 150 e.1 e.2.1 e.2.2) = true := by decide +kernel
theorem zcm_150 : zMok 150 = true := by decide +kernel
theorem zck_151 : (zcs.getD 151 []).all (fun e => zOK 151 e.1 e.2.1 e.2.2) = true := by decide +kernel
theorem zcm_151 : zMok 151 = true := by decide +kernel
theorem zck_152 : (zcs.getD 152 []).all (fun e => zOK 152 e.1 e.2.1 e.2.2) = true := by decide +kernel
theorem zcm_152 : zMok 152 = true := by decide +kernel
theorem zck_153 : (zcs.getD 153 []).all (fun e => zOK 153 e.1 e.2.1 e.2.2) = true := by decide +kernel
theorem zcm_153 : zMok 153 = true := by decide +kernel
theorem zck_154 : (zcs.getD 154 []).all (fun e => zOK 154 e.1 e.2.1 e.2.2) = true := by decide +kernel
theorem zcm_154 : zMok 154 = true := by decide +kernel
theorem zck_155 : (zcs.getD 155 []).all (fun e => zOK 155 e.1 e.2.1 e.2.2) = true := by decide +kernel
theorem zcm_155 : zMok 155 = true := by decide +kernel
theorem zck_156 : (zcs.getD 156 []).all (fun e => zOK 156 e.1 e.2.1 e.2.2) = true := by decide +kernel
theorem zcm_156 : zMok 156 = true := by decide +kernel
theorem zck_157 : (zcs.getD 157 []).all (fun e => zOK 157 e.1 e.2.1 e.2.2) = true := by decide +kernel
theorem zcm_157 : zMok 157 = true := by decide +kernel
theorem zck_all : ∀ y, y < znm → (zcs.getD y []).all (fun e => zOK y e.1 e.2.1 e.2.2) = true := by
  intro y hy
  match y, hy with
  | 0, _ => exact zck_0
  | 1, _ => exact zck_1
  | 2, _ => exact zck_2
  | 3, _ => exact zck_3
  | 4, _ => exact zck_4
  | 5, _ => exact zck_5
  | 6, _ => exact zck_6
  | 7, _ => exact zck_7
  | 8, _ => exact zck_8
  | 9, _ => exact zck_9
  | 10, _ => exact zck_10
  | 11, _ => exact zck_11
  | 12, _ => exact zck_12
  | 13, _ => exact zck_13
  | 14, _ => exact zck_14
  | 15, _ => exact zck_15
  | 16, _ => exact zck_16
  | 17, _ => exact zck_17
  | 18, _ => exact zck_18
  | 19, _ => exact zck_19
  | 20, _ => exact zck_20
  | 21, _ => exact zck_21
  | 22, _ => exact zck_22
  | 23, _ => exact zck_23
  | 24, _ => exact zck_24
  | 25, _ => exact zck_25
  | 26, _ => exact zck_26
  | 27, _ => exact zck_27
  | 28, _ => exact zck_28
  | 29, _ => exact zck_29
  | 30, _ => exact zck_30
  | 31, _ => exact zck_31
  | 32, _ => exact zck_32
  | 33, _ => exact zck_33
  | 34, _ => exact zck_34
  | 35, _ => exact zck_35
  | 36, _ => exact zck_36
  | 37, _ => exact zck_37
  | 38, _ => exact zck_38
  | 39, _ => exact zck_39
  | 40, _ => exact zck_40
  | 41, _ => exact zck_41
  | 42, _ => exact zck_42
  | 43, _ => exact zck_43
  | 44, _ => exact zck_44
  | 45, _ => exact zck_45
  | 46, _ => exact zck_46
  | 47, _ => exact zck_47
  | 48, _ => exact zck_48
  | 49, _ => exact zck_49
  | 50, _ => exact zck_50
  | 51, _ => exact zck_51
  | 52, _ => exact zck_52
  | 53, _ => exact zck_53
  | 54, _ => exact zck_54
  | 55, _ => exact zck_55
  | 56, _ => exact zck_56
  | 57, _ => exact zck_57
  | 58, _ => exact zck_58
  | 59, _ => exact zck_59
  | 60, _ => exact zck_60
  | 61, _ => exact zck_61
  | 62, _ => exact zck_62
  | 63, _ => exact zck_63
  | 64, _ => exact zck_64
  | 65, _ => exact zck_65
  | 66, _ => exact zck_66
  | 67, _ => exact zck_67
  | 68, _ => exact zck_68
  | 69, _ => exact zck_69
  | 70, _ => exact zck_70
  | 71, _ => exact zck_71
  | 72, _ => exact zck_72
  | 73, _ => exact zck_73
  | 74, _ => exact zck_74
  | 75, _ => exact zck_75
  | 76, _ => exact zck_76
  | 77, _ => exact zck_77
  | 78, _ => exact zck_78
  | 79, _ => exact zck_79
  | 80, _ => exact zck_80
  | 81, _ => exact zck_81
  | 82, _ => exact zck_82
  | 83, _ => exact zck_83
  | 84, _ => exact zck_84
  | 85, _ => exact zck_85
  | 86, _ => exact zck_86
  | 87, _ => exact zck_87
  | 88, _ => exact zck_88
  | 89, _ => exact zck_89
  | 90, _ => exact zck_90
  | 91, _ => exact zck_91
  | 92, _ => exact zck_92
  | 93, _ => exact zck_93
  | 94, _ => exact zck_94
  | 95, _ => exact zck_95
  | 96, _ => exact zck_96
  | 97, _ => exact zck_97
  | 98, _ => exact zck_98
  | 99, _ => exact zck_99
  | 100, _ => exact zck_100
  | 101, _ => exact zck_101
  | 102, _ => exact zck_102
  | 103, _ => exact zck_103
  | 104, _ => exact zck_104
  | 105, _ => exact zck_105
  | 106, _ => exact zck_106
  | 107, _ => exact zck_107
  | 108, _ => exact zck_108
  | 109, _ => exact zck_109
  | 110, _ => exact zck_110
  | 111, _ => exact zck_111
  | 112, _ => exact zck_112
  | 113, _ => exact zck_113
  | 114, _ => exact zck_114
  | 115, _ => exact zck_115
  | 116, _ => exact zck_116
  | 117, _ => exact zck_117
  | 118, _ => exact zck_118
  | 119, _ => exact zck_119
  | 120, _ => exact zck_120
  | 121, _ => exact zck_121
  | 122, _ => exact zck_122
  | 123, _ => exact zck_123
  | 124, _ => exact zck_124
  | 125, _ => exact zck_125
  | 126, _ => exact zck_126
  | 127, _ => exact zck_127
  | 128, _ => exact zck_128
  | 129, _ => exact zck_129
  | 130, _ => exact zck_130
  | 131, _ => exact zck_131
  | 132, _ => exact zck_132
  | 133, _ => exact zck_133
  | 134, _ => exact zck_134
  | 135, _ => exact zck_135
  | 136, _ => exact zck_136
  | 137, _ => exact zck_137
  | 138, _ => exact zck_138
  | 139, _ => exact zck_139
  | 140, _ => exact zck_140
  | 141, _ => exact zck_141
  | 142, _ => exact zck_142
  | 143, _ => exact zck_143
  | 144, _ => exact zck_144
  | 145, _ => exact zck_145
  | 146, _ => exact zck_146
  | 147, _ => exact zck_147
  | 148, _ => exact zck_148
  | 149, _ => exact zck_149
  | 150, _ => exact zck_150
  | 151, _ => exact zck_151
  | 152, _ => exact zck_152
  | 153, _ => exact zck_153
  | 154, _ => exact zck_154
  | 155, _ => exact zck_155
  | 156, _ => exact zck_156
  | 157, _ => exact zck_157
  | k + 158, hy => exact absurd hy (by unfold znm; omega)
theorem zcm_all : ∀ y, y < znm → zMok y = true := by
  intro y hy
  match y, hy with
  | 0, _ => exact zcm_0
  | 1, _ => exact zcm_1
  | 2, _ => exact zcm_2
  | 3, _ => exact zcm_3
  | 4, _ => exact zcm_4
  | 5, _ => exact zcm_5
  | 6, _ => exact zcm_6
  | 7, _ => exact zcm_7
  | 8, _ => exact zcm_8
  | 9, _ => exact zcm_9
  | 10, _ => exact zcm_10
  | 11, _ => exact zcm_11
  | 12, _ => exact zcm_12
  | 13, _ => exact zcm_13
  | 14, _ => exact zcm_14
  | 15, _ => exact zcm_15
  | 16, _ => exact zcm_16
  | 17, _ => exact zcm_17
  | 18, _ => exact zcm_18
  | 19, _ => exact zcm_19
  | 20, _ => exact zcm_20
  | 21, _ => exact zcm_21
  | 22, _ => exact zcm_22
  | 23, _ => exact zcm_23
  | 24, _ => exact zcm_24
  | 25, _ => exact zcm_25
  | 26, _ => exact zcm_26
  | 27, _ => exact zcm_27
  | 28, _ => exact zcm_28
  | 29, _ => exact zcm_29
  | 30, _ => exact zcm_30
  | 31, _ => exact zcm_31
  | 32, _ => exact zcm_32
  | 33, _ => exact zcm_33
  | 34, _ => exact zcm_34
  | 35, _ => exact zcm_35
  | 36, _ => exact zcm_36
  | 37, _ => exact zcm_37
  | 38, _ => exact zcm_38
  | 39, _ => exact zcm_39
  | 40, _ => exact zcm_40
  | 41, _ => exact zcm_41
  | 42, _ => exact zcm_42
  | 43, _ => exact zcm_43
  | 44, _ => exact zcm_44
  | 45, _ => exact zcm_45
  | 46, _ => exact zcm_46
  | 47, _ => exact zcm_47
  | 48, _ => exact zcm_48
  | 49, _ => exact zcm_49
  | 50, _ => exact zcm_50
  | 51, _ => exact zcm_51
  | 52, _ => exact zcm_52
  | 53, _ => exact zcm_53
  | 54, _ => exact zcm_54
  | 55, _ => exact zcm_55
  | 56, _ => exact zcm_56
  | 57, _ => exact zcm_57
  | 58, _ => exact zcm_58
  | 59, _ => exact zcm_59
  | 60, _ => exact zcm_60
  | 61, _ => exact zcm_61
  | 62, _ => exact zcm_62
  | 63, _ => exact zcm_63
  | 64, _ => exact zcm_64
  | 65, _ => exact zcm_65
  | 66, _ => exact zcm_66
  | 67, _ => exact zcm_67
  | 68, _ => exact zcm_68
  | 69, _ => exact zcm_69
  | 70, _ => exact zcm_70
  | 71, _ => exact zcm_71
  | 72, _ => exact zcm_72
  | 73, _ => exact zcm_73
  | 74, _ => exact zcm_74
  | 75, _ => exact zcm_75
  | 76, _ => exact zcm_76
  | 77, _ => exact zcm_77
  | 78, _ => exact zcm_78
  | 79, _ => exact zcm_79
  | 80, _ => exact zcm_80
  | 81, _ => exact zcm_81
  | 82, _ => exact zcm_82
  | 83, _ => exact zcm_83
  | 84, _ => exact zcm_84
  | 85, _ => exact zcm_85
  | 86, _ => exact zcm_86
  | 87, _ => exact zcm_87
  | 88, _ => exact zcm_88
  | 89, _ => exact zcm_89
  | 90, _ => exact zcm_90
  | 91, _ => exact zcm_91
  | 92, _ => exact zcm_92
  | 93, _ => exact zcm_93
  | 94, _ => exact zcm_94
  | 95, _ => exact zcm_95
  | 96, _ => exact zcm_96
  | 97, _ => exact zcm_97
  | 98, _ => exact zcm_98
  | 99, _ => exact zcm_99
  | 100, _ => exact zcm_100
  | 101, _ => exact zcm_101
  | 102, _ => exact zcm_102
  | 103, _ => exact zcm_103
  | 104, _ => exact zcm_104
  | 105, _ => exact zcm_105
  | 106, _ => exact zcm_106
  | 107, _ => exact zcm_107
  | 108, _ => exact zcm_108
  | 109, _ => exact zcm_109
  | 110, _ => exact zcm_110
  | 111, _ => exact zcm_111
  | 112, _ => exact zcm_112
  | 113, _ => exact zcm_113
  | 114, _ => exact zcm_114
  | 115, _ => exact zcm_115
  | 116, _ => exact zcm_116
  | 117, _ => exact zcm_117
  | 118, _ => exact zcm_118
  | 119, _ => exact zcm_119
  | 120, _ => exact zcm_120
  | 121, _ => exact zcm_121
  | 122, _ => exact zcm_122
  | 123, _ => exact zcm_123
  | 124, _ => exact zcm_124
  | 125, _ => exact zcm_125
  | 126, _ => exact zcm_126
  | 127, _ => exact zcm_127
  | 128, _ => exact zcm_128
  | 129, _ => exact zcm_129
  | 130, _ => exact zcm_130
  | 131, _ => exact zcm_131
  | 132, _ => exact zcm_132
  | 133, _ => exact zcm_133
  | 134, _ => exact zcm_134
  | 135, _ => exact zcm_135
  | 136, _ => exact zcm_136
  | 137, _ => exact zcm_137
  | 138, _ => exact zcm_138
  | 139, _ => exact zcm_139
  | 140, _ => exact zcm_140
  | 141, _ => exact zcm_141
  | 142, _ => exact zcm_142
  | 143, _ => exact zcm_143
  | 144, _ => exact zcm_144
  | 145, _ => exact zcm_145
  | 146, _ => exact zcm_146
  | 147, _ => exact zcm_147
  | 148, _ => exact zcm_148
  | 149, _ => exact zcm_149
  | 150, _ => exact zcm_150
  | 151, _ => exact zcm_151
  | 152, _ => exact zcm_152
  | 153, _ => exact zcm_153
  | 154, _ => exact zcm_154
  | 155, _ => exact zcm_155
  | 156, _ => exact zcm_156
  | 157, _ => exact zcm_157
  | k + 158, hy => exact absurd hy (by unfold znm; omega)
theorem zcs_len : zcs.length = znm := by decide +kernel

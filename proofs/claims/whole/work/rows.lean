section
/-! THE PURE MACHINE: what the bytecode does, over numbered cells, as a function. A cell: a row (kind, contents) or an object (its number in the table, its fields); a reference is the number of its cell. -/
abbrev zE : Type := (Nat × vp_A) ⊕ (Nat × List Value)
abbrev zH : Type := List zE
abbrev zL : Type := List (Option Value)
abbrev zR : Type := Option Value × zH
abbrev zS : Type := Nat × zL × List Value × zH
/-- a method: name, bytes, slots of its locals, what it answers, frames and words below it -/
abbrev zM : Type := MethodName × ByteArray × Nat × Option FieldType × Nat × Nat
abbrev zT : Type := (Nat → Nat → Option (Instr × List Nat)) × (Nat → zM)
def zget (L : zL) (i : Nat) : Option Value := match L[i]? with
  | some (some v) => some v
  | _ => none
def zkill (L : zL) (i : Nat) : zL := match i with
  | 0 => L
  | j + 1 => match L[j]? with
    | some (some (.long _)) => L.set j none
    | some (some (.double _)) => L.set j none
    | _ => L
def zst1 (L : zL) (i : Nat) (v : Value) : zL := (zkill L i).set i (some v)
def zst2 (L : zL) (i : Nat) (v : Value) : zL := ((zkill L i).set i (some v)).set (i + 1) none
def zent : List Value → zL
  | [] => []
  | .long x :: vs => some (.long x) :: none :: zent vs
  | .double x :: vs => some (.double x) :: none :: zent vs
  | v :: vs => some v :: zent vs
def zentry (n : Nat) (vs : List Value) : zL := zent vs ++ List.replicate (n - (zent vs).length) none
def zdef : List Nat → List Value
  | [] => []
  | 0 :: r => .int 0 :: zdef r
  | _ :: r => .null :: zdef r
def zdefA (t : Nat) (n : Nat) : vp_A := match t with
  | 1 => (n, .inr (.inl (fun _ => 0)))
  | 3 => (n, .inr (.inr (.inr (.inr (fun _ => none)))))
  | _ => (n, .inl (fun _ => 0))
def zsz : zE → Nat
  | .inl a => a.2.1
  | .inr o => o.2.length
def zss (h : zH) : Nat := (h.map zsz).sum
/-- which of two roads -/
def zif (c : Bool) (ax : List Nat) (pc : Nat) (L : zL) (st : List Value) (h : zH) : Option (zR ⊕ zS) := match ax with
  | t :: _ => some (.inr (bif c then t else pc + 3, L, st, h))
  | [] => none
def zcnd : Jvm.ClassFile.Cond → Int32 → Int32 → Bool
  | .eq, x, y => decide (x = y)
  | .ne, x, y => decide (x ≠ y)
  | .lt, x, y => decide (x < y)
  | .ge, x, y => decide (y ≤ x)
  | .gt, x, y => decide (y < x)
  | .le, x, y => decide (x ≤ y)
def zjump (ax : List Nat) (k : Nat) (L : zL) (st : List Value) (h : zH) : Option (zR ⊕ zS) := match ax[k]? with
  | some t => some (.inr (t, L, st, h))
  | none => none
def zgo (pc : Nat) (L : zL) (st : List Value) (h : zH) : Option (zR ⊕ zS) := some (.inr (pc, L, st, h))
def zloadI (pc i : Nat) (L : zL) (st : List Value) (h : zH) : Option (zR ⊕ zS) := match L[i]? with
  | some (some (.int x)) => zgo pc L (.int x :: st) h
  | _ => none
def zloadL (pc i : Nat) (L : zL) (st : List Value) (h : zH) : Option (zR ⊕ zS) := match L[i]? with
  | some (some (.long x)) => zgo pc L (.long x :: st) h
  | _ => none
def zloadD (pc i : Nat) (L : zL) (st : List Value) (h : zH) : Option (zR ⊕ zS) := match L[i]? with
  | some (some (.double x)) => zgo pc L (.double x :: st) h
  | _ => none
def zloadA (pc i : Nat) (L : zL) (st : List Value) (h : zH) : Option (zR ⊕ zS) := match L[i]? with
  | some (some (.ref x)) => zgo pc L (.ref x :: st) h
  | _ => none
def zstoreI (pc i : Nat) (L : zL) (st : List Value) (h : zH) : Option (zR ⊕ zS) := match st with
  | .int x :: st => if i < L.length then zgo pc (zst1 L i (.int x)) st h else none
  | _ => none
def zstoreA (pc i : Nat) (L : zL) (st : List Value) (h : zH) : Option (zR ⊕ zS) := match st with
  | .ref x :: st => if i < L.length then zgo pc (zst1 L i (.ref x)) st h else none
  | _ => none
def zstoreL (pc i : Nat) (L : zL) (st : List Value) (h : zH) : Option (zR ⊕ zS) := match st with
  | .long x :: st => if i + 1 < L.length then zgo pc (zst2 L i (.long x)) st h else none
  | _ => none
def zstoreD (pc i : Nat) (L : zL) (st : List Value) (h : zH) : Option (zR ⊕ zS) := match st with
  | .double x :: st => if i + 1 < L.length then zgo pc (zst2 L i (.double x)) st h else none
  | _ => none
def zii (pc : Nat) (f : Int32 → Int32 → Int32) (L : zL) (st : List Value) (h : zH) : Option (zR ⊕ zS) := match st with
  | .int y :: .int x :: st => zgo pc L (.int (f x y) :: st) h
  | _ => none
def zll (pc : Nat) (f : Int64 → Int64 → Int64) (L : zL) (st : List Value) (h : zH) : Option (zR ⊕ zS) := match st with
  | .long y :: .long x :: st => zgo pc L (.long (f x y) :: st) h
  | _ => none
def zget1 (pc : Nat) (ax : List Nat) (L : zL) (st : List Value) (h : zH) : Option (zR ⊕ zS) := match st, ax with
  | .ref i :: st, ci :: k :: _ => match h[i]? with
    | some (.inr (c, fs)) => if c = ci then (match fs[k]? with
      | some v => zgo pc L (v :: st) h
      | none => none) else none
    | _ => none
  | _, _ => none
/-- a value that a field of this kind takes: 0 a number, 1 a reference -/
def zfits : Nat → Value → Bool
  | 0, .int _ => true
  | 1, .ref _ => true
  | _, _ => false
def zput1 (pc : Nat) (ax : List Nat) (L : zL) (st : List Value) (h : zH) : Option (zR ⊕ zS) := match st, ax with
  | v :: .ref (i + 1) :: st, ci :: k :: kd :: _ => match h[i + 1]? with
    | some (.inr (c, fs)) => if c = ci ∧ k < fs.length ∧ zfits kd v = true then zgo pc L st (h.set (i + 1) (.inr (c, fs.set k v))) else none
    | _ => none
  | _, _ => none
def znew (pc : Nat) (ax : List Nat) (L : zL) (st : List Value) (h : zH) : Option (zR ⊕ zS) := match ax with
  | ci :: _ :: _ :: _ :: ds => zgo pc L (.ref h.length :: st) (h ++ [.inr (ci, zdef ds)])
  | _ => none
def znewa (pc : Nat) (ax : List Nat) (L : zL) (st : List Value) (h : zH) : Option (zR ⊕ zS) := match st, ax with
  | .int n :: st, t :: _ => if n < 0 ∨ 10000 < n.toNatClampNeg then none else zgo pc L (.ref h.length :: st) (h ++ [.inl (t, zdefA t n.toNatClampNeg)])
  | _, _ => none
def zalen (pc : Nat) (L : zL) (st : List Value) (h : zH) : Option (zR ⊕ zS) := match st with
  | .ref i :: st => match h[i]? with
    | some (.inl (_, n, _)) => zgo pc L (.int (Int32.ofNat n) :: st) h
    | _ => none
  | _ => none
def ziald (pc : Nat) (L : zL) (st : List Value) (h : zH) : Option (zR ⊕ zS) := match st with
  | .int j :: .ref i :: st => match h[i]? with
    | some (.inl (0, n, .inl f)) => if j < 0 ∨ n ≤ j.toNatClampNeg then none else zgo pc L (.int (f j.toNatClampNeg) :: st) h
    | _ => none
  | _ => none
def zlald (pc : Nat) (L : zL) (st : List Value) (h : zH) : Option (zR ⊕ zS) := match st with
  | .int j :: .ref i :: st => match h[i]? with
    | some (.inl (1, n, .inr (.inl f))) => if j < 0 ∨ n ≤ j.toNatClampNeg then none else zgo pc L (.long (f j.toNatClampNeg) :: st) h
    | _ => none
  | _ => none
def zaald (pc : Nat) (L : zL) (st : List Value) (h : zH) : Option (zR ⊕ zS) := match st with
  | .int j :: .ref i :: st => match h[i]? with
    | some (.inl (3, n, .inr (.inr (.inr (.inr f))))) => if j < 0 ∨ n ≤ j.toNatClampNeg then none else (match f j.toNatClampNeg with
      | some r => zgo pc L (.ref r :: st) h
      | none => none)
    | _ => none
  | _ => none
def ziast (pc : Nat) (L : zL) (st : List Value) (h : zH) : Option (zR ⊕ zS) := match st with
  | .int x :: .int j :: .ref (i + 1) :: st => match h[i + 1]? with
    | some (.inl (0, n, .inl f)) => if j < 0 ∨ n ≤ j.toNatClampNeg then none else zgo pc L st (h.set (i + 1) (.inl (0, n, .inl (upd f j.toNatClampNeg x))))
    | _ => none
  | _ => none
def zlast (pc : Nat) (L : zL) (st : List Value) (h : zH) : Option (zR ⊕ zS) := match st with
  | .long x :: .int j :: .ref (i + 1) :: st => match h[i + 1]? with
    | some (.inl (1, n, .inr (.inl f))) => if j < 0 ∨ n ≤ j.toNatClampNeg then none else zgo pc L st (h.set (i + 1) (.inl (1, n, .inr (.inl (vp_updL f j.toNatClampNeg x)))))
    | _ => none
  | _ => none
/-- a row of numbers put into a row of rows -/
def zaast (pc : Nat) (L : zL) (st : List Value) (h : zH) : Option (zR ⊕ zS) := match st with
  | .ref r :: .int j :: .ref (i + 1) :: st => match h[i + 1]? with
    | some (.inl (3, n, .inr (.inr (.inr (.inr f))))) => match h[r]? with
      | some (.inl (0, _, .inl _)) => if j < 0 ∨ n ≤ j.toNatClampNeg then none else zgo pc L st (h.set (i + 1) (.inl (3, n, .inr (.inr (.inr (.inr (va_up f j.toNatClampNeg (some r))))))))
      | _ => none
    | _ => none
  | _ => none
/-- the end of a method -/
def zret (st : List Value) (h : zH) : Option (zR ⊕ zS) := match st with
  | [v] => some (.inl (some v, h))
  | _ => none
/-- every instruction but the calls; kr: what the method answers (0 nothing, 1 a number, 2 a truth, 3 a long, 4 a double, 5 a reference) -/
def zbase (kr pc : Nat) (i : Instr) (ax : List Nat) (L : zL) (st : List Value) (h : zH) : Option (zR ⊕ zS) := match i with
  | .iconst n => zgo (pc + 1) L (.int (Int32.ofInt n) :: st) h
  | .bipush n => zgo (pc + 2) L (.int (Int8.ofInt n).toInt32 :: st) h
  | .sipush n => zgo (pc + 3) L (.int (Int16.ofInt n).toInt32 :: st) h
  | .lconst n => zgo (pc + 1) L (.long (Int64.ofNat (n : Nat)) :: st) h
  | .dconst n => if n = 0 then zgo (pc + 1) L (.double 0 :: st) h else none
  | .ldc _ => match ax with
    | v :: _ => zgo (pc + 2) L (.int (Int32.ofNat v) :: st) h
    | [] => none
  | .ldc_w _ => match ax with
    | v :: _ => zgo (pc + 3) L (.int (Int32.ofNat v) :: st) h
    | [] => none
  | .ldc2_w _ => match ax with
    | v :: _ => zgo (pc + 3) L (.long (Int64.ofNat v) :: st) h
    | [] => none
  | .iload k => zloadI (pc + 2) k L st h
  | .iload_n k => zloadI (pc + 1) k L st h
  | .lload k => zloadL (pc + 2) k L st h
  | .lload_n k => zloadL (pc + 1) k L st h
  | .dload k => zloadD (pc + 2) k L st h
  | .dload_n k => zloadD (pc + 1) k L st h
  | .aload k => zloadA (pc + 2) k L st h
  | .aload_n k => zloadA (pc + 1) k L st h
  | .istore k => zstoreI (pc + 2) k L st h
  | .istore_n k => zstoreI (pc + 1) k L st h
  | .lstore k => zstoreL (pc + 2) k L st h
  | .lstore_n k => zstoreL (pc + 1) k L st h
  | .dstore k => zstoreD (pc + 2) k L st h
  | .dstore_n k => zstoreD (pc + 1) k L st h
  | .astore k => zstoreA (pc + 2) k L st h
  | .astore_n k => zstoreA (pc + 1) k L st h
  | .iinc k n => match L[k]? with
    | some (some (.int x)) => if k < L.length then zgo (pc + 3) (zst1 L k (.int (x + Int32.ofInt n))) st h else none
    | _ => none
  | .iadd => zii (pc + 1) (fun x y => x + y) L st h
  | .isub => zii (pc + 1) (fun x y => x - y) L st h
  | .imul => zii (pc + 1) (fun x y => x * y) L st h
  | .iand => zii (pc + 1) (fun x y => x &&& y) L st h
  | .ior => zii (pc + 1) (fun x y => x ||| y) L st h
  | .ishl => zii (pc + 1) (fun x y => x <<< (y &&& 31)) L st h
  | .ishr => zii (pc + 1) (fun x y => x >>> (y &&& 31)) L st h
  | .iushr => zii (pc + 1) (fun x y => (x.toUInt32 >>> (y.toUInt32 &&& Int32.toUInt32 31)).toInt32) L st h
  | .idiv => match st with
    | .int y :: .int x :: st => if y = 0 then none else zgo (pc + 1) L (.int (x / y) :: st) h
    | _ => none
  | .irem => match st with
    | .int y :: .int x :: st => if y = 0 then none else zgo (pc + 1) L (.int (x - x / y * y) :: st) h
    | _ => none
  | .ladd => zll (pc + 1) (fun x y => x + y) L st h
  | .lmul => zll (pc + 1) (fun x y => x * y) L st h
  | .lcmp => match st with
    | .long y :: .long x :: st => zgo (pc + 1) L (.int (lg_cmp x y) :: st) h
    | _ => none
  | .i2l => match st with
    | .int x :: st => zgo (pc + 1) L (.long x.toInt64 :: st) h
    | _ => none
  | .i2d => match st with
    | .int x :: st => zgo (pc + 1) L (.double (FP.i2d x) :: st) h
    | _ => none
  | .ddiv => match st with
    | .double y :: .double x :: st => if FP.ddiv x y &&& 0x7fffffffffffffff ≤ 0x7ff0000000000000 then zgo (pc + 1) L (.double (FP.ddiv x y) :: st) h else none
    | _ => none
  | .dcmp op => match st with
    | .double y :: .double x :: st => zgo (pc + 1) L (.int (Op.cmpValue (FP.dcmp x y) op) :: st) h
    | _ => none
  | .dup => match st with
    | v :: st => if v.category = 1 then zgo (pc + 1) L (v :: v :: st) h else none
    | _ => none
  | .pop => match st with
    | v :: st => if v.category = 1 then zgo (pc + 1) L st h else none
    | _ => none
  | .dup_x1 => match st with
    | v :: w :: st => if v.category = 1 ∧ w.category = 1 then zgo (pc + 1) L (v :: w :: v :: st) h else none
    | _ => none
  | .dup_x2 => match st with
    | v :: w :: x :: st => if v.category = 1 ∧ w.category = 1 ∧ x.category = 1 then zgo (pc + 1) L (v :: w :: x :: v :: st) h else none
    | _ => none
  | .dup2 => match st with
    | v :: w :: st => if v.category = 1 ∧ w.category = 1 then zgo (pc + 1) L (v :: w :: v :: w :: st) h else none
    | _ => none
  | .ifCond c _ => match st with
    | .int x :: st => zif (zcnd c x 0) ax pc L st h
    | _ => none
  | .if_icmp c _ => match st with
    | .int y :: .int x :: st => zif (zcnd c x y) ax pc L st h
    | _ => none
  | .goto _ => zjump ax 0 L st h
  | .tableswitch _ lo hi _ => match st with
    | .int x :: st => if x.toInt < lo ∨ hi < x.toInt then zjump ax 0 L st h else zjump ax ((x.toInt - lo).toNat + 1) L st h
    | _ => none
  | .getfield _ => zget1 (pc + 3) ax L st h
  | .putfield _ => zput1 (pc + 3) ax L st h
  | .new _ => znew (pc + 3) ax L st h
  | .newarray _ => znewa (pc + 2) ax L st h
  | .anewarray _ => znewa (pc + 3) ax L st h
  | .arraylength => zalen (pc + 1) L st h
  | .iaload => ziald (pc + 1) L st h
  | .laload => zlald (pc + 1) L st h
  | .aaload => zaald (pc + 1) L st h
  | .iastore => ziast (pc + 1) L st h
  | .lastore => zlast (pc + 1) L st h
  | .aastore => zaast (pc + 1) L st h
  | .ireturn => match st with
    | [.int v] => if kr = 1 ∨ (kr = 2 ∧ (v = 0 ∨ v = 1)) then some (.inl (some (.int v), h)) else none
    | _ => none
  | .lreturn => match st with
    | [.long v] => if kr = 3 then some (.inl (some (.long v), h)) else none
    | _ => none
  | .dreturn => match st with
    | [.double v] => if kr = 4 then some (.inl (some (.double v), h)) else none
    | _ => none
  | .areturn => match st with
    | [.ref v] => if kr = 5 then some (.inl (some (.ref v), h)) else none
    | _ => none
  | .return_ => match st with
    | [] => if kr = 0 then some (.inl (none, h)) else none
    | _ => none
  | _ => none
def zkr (r : Option FieldType) : Nat := match r with
  | none => 0
  | some .int => 1
  | some .boolean => 2
  | some .long => 3
  | some .double => 4
  | some (.object _) => 5
  | some (.array _) => 5
  | _ => 6
/-- behind a call -/
def zback (pc : Nat) (L : zL) (rest : List Value) (r : Option zR) : Option (zR ⊕ zS) := match r with
  | some (some v, h) => zgo (pc + 3) L (v :: rest) h
  | some (none, h) => zgo (pc + 3) L rest h
  | none => none
/-- a call of method y with n values behind the receiver (mode 0: on an object of the class ci; 1: on none; 2: of a constructor) -/
def zinv (C : Nat → List Value → zH → Option zR) (pc : Nat) (ax : List Nat) (L : zL) (st : List Value) (h : zH) : Option (zR ⊕ zS) := match ax with
  | y :: mode :: n :: ci :: _ =>
    if n ≤ st.length ∧ ((st.drop n).map fun v => v.category).sum ≤ 8 then (match mode with
      | 1 => zback pc L (st.drop n) (C y (st.take n).reverse h)
      | 0 => match st.drop n with
        | .ref b :: rest => (match h[b]? with
          | some (.inr (c, _)) => if c = ci then zback pc L rest (C y (.ref b :: (st.take n).reverse) h) else none
          | _ => none)
        | _ => none
      | 2 => match st.drop n with
        | .ref b :: rest => zback pc L rest (C y (.ref b :: (st.take n).reverse) h)
        | _ => none
      | _ => none) else none
  | _ => none
/-- System.arraycopy between two different rows -/
def zcopy (pc : Nat) (L : zL) (st : List Value) (h : zH) : Option (zR ⊕ zS) := match st with
  | .int n :: .int dp :: .ref (d + 1) :: .int sp :: .ref i :: st => if n < 0 ∨ dp < 0 ∨ sp < 0 ∨ i = d + 1 ∨ 8 < (st.map fun v => v.category).sum then none else (match h[i]?, h[d + 1]? with
    | some (.inl (0, n0, .inl f)), some (.inl (0, n1, .inl g)) => if sp.toNatClampNeg + n.toNatClampNeg ≤ n0 ∧ dp.toNatClampNeg + n.toNatClampNeg ≤ n1 then zgo (pc + 3) L st (h.set (d + 1) (.inl (0, n1, .inl (va_cpy f g sp.toNatClampNeg dp.toNatClampNeg n.toNatClampNeg)))) else none
    | some (.inl (3, n0, .inr (.inr (.inr (.inr f))))), some (.inl (3, n1, .inr (.inr (.inr (.inr g))))) => if sp.toNatClampNeg + n.toNatClampNeg ≤ n0 ∧ dp.toNatClampNeg + n.toNatClampNeg ≤ n1 then zgo (pc + 3) L st (h.set (d + 1) (.inl (3, n1, .inr (.inr (.inr (.inr (va_cpy f g sp.toNatClampNeg dp.toNatClampNeg n.toNatClampNeg))))))) else none
    | _, _ => none)
  | _ => none
/-- Math.max -/
def zmax (pc : Nat) (L : zL) (st : List Value) (h : zH) : Option (zR ⊕ zS) := match st with
  | .int y :: .int x :: st => if 8 < (st.map fun v => v.category).sum then none else zgo (pc + 3) L (.int (if x < y then y else x) :: st) h
  | _ => none
/-- Object.<init> -/
def zobj (pc : Nat) (L : zL) (st : List Value) (h : zH) : Option (zR ⊕ zS) := match st with
  | .ref _ :: st => if 8 < (st.map fun v => v.category).sum then none else zgo (pc + 3) L st h
  | _ => none
/-- mode 3: arraycopy, 4: Math.max, 5: Object.<init> -/
def zcall (C : Nat → List Value → zH → Option zR) (pc : Nat) (ax : List Nat) (L : zL) (st : List Value) (h : zH) : Option (zR ⊕ zS) := match ax with
  | _ :: 3 :: _ => zcopy pc L st h
  | _ :: 4 :: _ => zmax pc L st h
  | _ :: 5 :: _ => zobj pc L st h
  | _ => zinv C pc ax L st h
def zstep (C : Nat → List Value → zH → Option zR) (kr pc : Nat) (i : Instr) (ax : List Nat) (L : zL) (st : List Value) (h : zH) : Option (zR ⊕ zS) := match i with
  | .invokevirtual _ => zcall C pc ax L st h
  | .invokestatic _ => zcall C pc ax L st h
  | .invokespecial _ => zcall C pc ax L st h
  | i => zbase kr pc i ax L st h
def zrun (T : zT) : Nat → Nat → Nat → zL → List Value → zH → Option zR
  | 0, _, _, _, _, _ => none
  | n + 1, y, pc, L, st, h => match T.1 y pc with
    | none => none
    | some (i, ax) => match zstep (fun y' a h' => if (zent a).length ≤ (T.2 y').2.2.1 then zrun T n y' 0 (zentry (T.2 y').2.2.1 a) [] h' else none) (zkr (T.2 y).2.2.2.1) pc i ax L st h with
      | none => none
      | some (.inl r) => some r
      | some (.inr s) => zrun T n y s.1 s.2.1 s.2.2.1 s.2.2.2
/-- method y, called with these values over these cells, comes to its end with r over h' -/
def zcalls (T : zT) (y : Nat) (a : List Value) (h : zH) (r : zR) : Prop := (zent a).length ≤ (T.2 y).2.2.1 ∧ ∃ n, zrun T n y 0 (zentry (T.2 y).2.2.1 a) [] h = some r
end
section
/-! what holds of every run of the pure machine -/
def zhp : zR ⊕ zS → zH
  | .inl r => r.2
  | .inr s => s.2.2.2
def zle (h h' : zH) : Prop := h.length ≤ h'.length ∧ zss h ≤ zss h'
theorem zle_rf (h : zH) : zle h h := ⟨Nat.le_refl _, Nat.le_refl _⟩
theorem zle_tr {a b c : zH} (h1 : zle a b) (h2 : zle b c) : zle a c := ⟨Nat.le_trans h1.1 h2.1, Nat.le_trans h1.2 h2.2⟩
theorem zss_app (h : zH) (e : zE) : zss (h ++ [e]) = zss h + zsz e := by simp [zss]
theorem zss_set : ∀ (h : zH) (i : Nat) (e e' : zE), h[i]? = some e → zsz e' = zsz e → zss (h.set i e') = zss h
  | [], i, e, e', h1, _ => by simp at h1
  | a :: l, 0, e, e', h1, h2 => by
    simp only [List.getElem?_cons_zero, Option.some.injEq] at h1
    simp [zss, h1, h2]
  | a :: l, i + 1, e, e', h1, h2 => by
    have := zss_set l i e e' (by simpa using h1) h2
    simp only [zss, List.set_cons_succ, List.map_cons, List.sum_cons] at this ⊢
    omega
theorem zle_app (h : zH) (e : zE) : zle h (h ++ [e]) := ⟨by simp, by rw [zss_app]; omega⟩
theorem zle_set {h : zH} {i : Nat} {e e' : zE} (h1 : h[i]? = some e) (h2 : zsz e' = zsz e) : zle h (h.set i e') := ⟨by simp, by rw [zss_set h i e e' h1 h2]; omega⟩
theorem zgo_le {pc : Nat} {L : zL} {st : List Value} {h h' : zH} {x : zR ⊕ zS} (hh : zle h h') (hs : zgo pc L st h' = some x) : zle h (zhp x) := by
  simp only [zgo, Option.some.injEq] at hs
  subst hs
  exact hh
set_option maxHeartbeats 4000000 in
theorem zbase_le {kr pc : Nat} {i : Instr} {ax : List Nat} {L : zL} {st : List Value} {h : zH} {x : zR ⊕ zS} (hs : zbase kr pc i ax L st h = some x) : zle h (zhp x) := by
  have g0 := zle_rf h
  cases i <;> simp only [zbase, zloadI, zloadL, zloadD, zloadA, zstoreI, zstoreA, zstoreL, zstoreD, zii, zll, zget1, zput1, znew, znewa, zalen, ziald, zlald, zaald, ziast, zlast, zaast, zif, zjump] at hs <;>
    (repeat' split at hs) <;>
    first
    | (simp at hs; done)
    | exact zgo_le g0 hs
    | exact zgo_le (zle_app _ _) hs
    | exact zgo_le (zle_set (by assumption) (by simp [zsz])) hs
    | (simp only [Option.some.injEq] at hs; subst hs; exact g0)
theorem zback_le {pc : Nat} {L : zL} {rest : List Value} {h : zH} {r : Option zR} {x : zR ⊕ zS} (hr : ∀ q, r = some q → zle h q.2) (hs : zback pc L rest r = some x) : zle h (zhp x) := by
  unfold zback at hs
  split at hs
  · exact zgo_le (hr _ rfl) hs
  · exact zgo_le (hr _ rfl) hs
  · simp at hs
set_option maxHeartbeats 4000000 in
theorem zcall_le {C : Nat → List Value → zH → Option zR} (hC : ∀ y a h r, C y a h = some r → zle h r.2) {pc : Nat} {ax : List Nat} {L : zL} {st : List Value} {h : zH} {x : zR ⊕ zS} (hs : zcall C pc ax L st h = some x) : zle h (zhp x) := by
  have g0 := zle_rf h
  simp only [zcall, zinv, zcopy, zmax, zobj] at hs
  (repeat' split at hs) <;>
    first
    | (simp at hs; done)
    | exact zback_le (fun q hq => hC _ _ _ _ hq) hs
    | exact zgo_le g0 hs
    | exact zgo_le (zle_set (by assumption) (by simp [zsz])) hs
theorem zstep_le {C : Nat → List Value → zH → Option zR} (hC : ∀ y a h r, C y a h = some r → zle h r.2) {kr pc : Nat} {i : Instr} {ax : List Nat} {L : zL} {st : List Value} {h : zH} {x : zR ⊕ zS} (hs : zstep C kr pc i ax L st h = some x) : zle h (zhp x) := by
  unfold zstep at hs
  split at hs
  · exact zcall_le hC hs
  · exact zcall_le hC hs
  · exact zcall_le hC hs
  · exact zbase_le hs
theorem zback_mono {pc : Nat} {L : zL} {rest : List Value} {r r' : Option zR} {x : zR ⊕ zS} (hr : ∀ q, r = some q → r' = some q) (hs : zback pc L rest r = some x) : zback pc L rest r' = some x := by
  cases r with
  | none => simp [zback] at hs
  | some q => rw [hr q rfl]; exact hs
set_option maxHeartbeats 4000000 in
theorem zcall_mono {C C' : Nat → List Value → zH → Option zR} (hC : ∀ y a h r, C y a h = some r → C' y a h = some r) {pc : Nat} {ax : List Nat} {L : zL} {st : List Value} {h : zH} {x : zR ⊕ zS} (hs : zcall C pc ax L st h = some x) : zcall C' pc ax L st h = some x := by
  simp only [zcall, zinv] at hs ⊢
  (repeat' split at hs) <;>
    first
    | (simp at hs; done)
    | exact hs
    | (rw [if_pos (by assumption)]; exact zback_mono (fun q hq => hC _ _ _ _ hq) hs)
    | (rw [if_pos (by assumption)]; simp only [*, if_true]; exact zback_mono (fun q hq => hC _ _ _ _ hq) hs)
theorem zstep_mono {C C' : Nat → List Value → zH → Option zR} (hC : ∀ y a h r, C y a h = some r → C' y a h = some r) {kr pc : Nat} {i : Instr} {ax : List Nat} {L : zL} {st : List Value} {h : zH} {x : zR ⊕ zS} (hs : zstep C kr pc i ax L st h = some x) : zstep C' kr pc i ax L st h = some x := by
  unfold zstep at hs ⊢
  split at hs
  · exact zcall_mono hC hs
  · exact zcall_mono hC hs
  · exact zcall_mono hC hs
  · exact hs
theorem zrun_le {T : zT} : ∀ (n : Nat) {y pc : Nat} {L : zL} {st : List Value} {h : zH} {r : zR}, zrun T n y pc L st h = some r → zle h r.2
  | 0, _, _, _, _, _, _, hs => by simp [zrun] at hs
  | n + 1, y, pc, L, st, h, r, hs => by
    unfold zrun at hs
    split at hs
    · simp at hs
    · split at hs
      · simp at hs
      · rename_i hq
        have hl := zstep_le (fun y' a h' r' hc => by
          split at hc
          · exact zrun_le n hc
          · simp at hc) hq
        simp only [Option.some.injEq] at hs
        subst hs
        exact hl
      · rename_i hq
        have hl := zstep_le (fun y' a h' r' hc => by
          split at hc
          · exact zrun_le n hc
          · simp at hc) hq
        exact zle_tr hl (zrun_le n hs)
theorem zrun_succ (T : zT) (n y pc : Nat) (L : zL) (st : List Value) (h : zH) : zrun T (n + 1) y pc L st h = match T.1 y pc with
    | none => none
    | some (i, ax) => match zstep (fun y' a h' => if (zent a).length ≤ (T.2 y').2.2.1 then zrun T n y' 0 (zentry (T.2 y').2.2.1 a) [] h' else none) (zkr (T.2 y).2.2.2.1) pc i ax L st h with
      | none => none
      | some (.inl r) => some r
      | some (.inr s) => zrun T n y s.1 s.2.1 s.2.2.1 s.2.2.2 := rfl
theorem zrun_mono1 {T : zT} : ∀ (n : Nat) {y pc : Nat} {L : zL} {st : List Value} {h : zH} {r : zR}, zrun T n y pc L st h = some r → zrun T (n + 1) y pc L st h = some r
  | 0, _, _, _, _, _, _, hs => by simp [zrun] at hs
  | n + 1, y, pc, L, st, h, r, hs => by
    have hC : ∀ y' a h' r', (if (zent a).length ≤ (T.2 y').2.2.1 then zrun T n y' 0 (zentry (T.2 y').2.2.1 a) [] h' else none) = some r' → (if (zent a).length ≤ (T.2 y').2.2.1 then zrun T (n + 1) y' 0 (zentry (T.2 y').2.2.1 a) [] h' else none) = some r' := fun y' a h' r' hc => by
      split at hc
      · rename_i hz
        rw [if_pos hz]
        exact zrun_mono1 n hc
      · simp at hc
    rw [zrun_succ] at hs ⊢
    cases hI : T.1 y pc with
    | none => rw [hI] at hs; simp at hs
    | some q =>
      obtain ⟨i, ax⟩ := q
      rw [hI] at hs
      simp only at hs ⊢
      split at hs
      · simp at hs
      · rename_i hq
        rw [zstep_mono hC hq]
        exact hs
      · rename_i hq
        rw [zstep_mono hC hq]
        exact zrun_mono1 n hs
theorem zrun_mono {T : zT} {n : Nat} {y pc : Nat} {L : zL} {st : List Value} {h : zH} {r : zR} (hs : zrun T n y pc L st h = some r) : ∀ {k : Nat}, n ≤ k → zrun T k y pc L st h = some r := by
  intro k hk
  obtain ⟨j, rfl⟩ := Nat.le.dest hk
  induction j with
  | zero => exact hs
  | succ j ih => exact zrun_mono1 _ (ih (by omega))
/-- from here the method comes to its end with r -/
def zruns (T : zT) (y pc : Nat) (L : zL) (st : List Value) (h : zH) (r : zR) : Prop := ∃ n, zrun T n y pc L st h = some r
/-- a step that calls nothing -/
theorem zruns_step {T : zT} {y pc pc' : Nat} {L L' : zL} {st st' : List Value} {h h' : zH} {r : zR} {i : Instr} {ax : List Nat} (hI : T.1 y pc = some (i, ax)) (hs : ∀ C, zstep C (zkr (T.2 y).2.2.2.1) pc i ax L st h = some (.inr (pc', L', st', h'))) (k : zruns T y pc' L' st' h' r) : zruns T y pc L st h r := by
  obtain ⟨n, hn⟩ := k
  refine ⟨n + 1, ?_⟩
  unfold zrun
  simp only [hI, hs]
  exact hn
theorem zruns_ret {T : zT} {y pc : Nat} {L : zL} {st : List Value} {h : zH} {r : zR} {i : Instr} {ax : List Nat} (hI : T.1 y pc = some (i, ax)) (hs : ∀ C, zstep C (zkr (T.2 y).2.2.2.1) pc i ax L st h = some (.inl r)) : zruns T y pc L st h r := by
  refine ⟨1, ?_⟩
  unfold zrun
  simp only [hI, hs]
/-- a call -/
theorem zruns_call {T : zT} {y y' pc pc' : Nat} {a : List Value} {L L' : zL} {st st' : List Value} {h h' h1 : zH} {r q : zR} {i : Instr} {ax : List Nat} (hI : T.1 y pc = some (i, ax)) (hc : zcalls T y' a h1 q) (hs : ∀ C : Nat → List Value → zH → Option zR, C y' a h1 = some q → zstep C (zkr (T.2 y).2.2.2.1) pc i ax L st h = some (.inr (pc', L', st', h'))) (k : zruns T y pc' L' st' h' r) : zruns T y pc L st h r := by
  obtain ⟨n, hn⟩ := k
  obtain ⟨hz, m, hm⟩ := hc
  refine ⟨max n m + 1, ?_⟩
  unfold zrun
  simp only [hI]
  rw [hs _ (by rw [if_pos hz]; exact zrun_mono hm (Nat.le_max_right n m))]
  exact zrun_mono hn (Nat.le_max_left n m)
theorem zcalls_of {T : zT} {y : Nat} {a : List Value} {h : zH} {r : zR} (hz : (zent a).length ≤ (T.2 y).2.2.1) (k : zruns T y 0 (zentry (T.2 y).2.2.1 a) [] h r) : zcalls T y a h r := ⟨hz, k⟩
end

section
/-! THE PURE MACHINE: what the bytecode does, over numbered cells, as a function. A cell: a row (kind, contents) or an object (its number in the table, its fields); a reference is the number of its cell. -/
abbrev zE : Type := (Nat × vp_A) ⊕ (Nat × List Value)
abbrev zH : Type := List zE
abbrev zL : Type := List (Option Value)
abbrev zR : Type := Option Value × zH
abbrev zS : Type := Nat × zL × List Value × zH
/-- a method: name, bytes, slots of its locals, what it answers, frames and words below it -/
abbrev zM : Type := MethodName × ByteArray × Nat × Option FieldType × Nat × Nat
abbrev zT : Type := (Nat → Nat → Option (Instr × List Nat)) × (Nat → zM)
def zget (L : zL) (i : Nat) : Option Value := match L[i]? with
  | some (some v) => some v
  | _ => none
def zkill (L : zL) (i : Nat) : zL := match i with
  | 0 => L
  | j + 1 => match L[j]? with
    | some (some (.long _)) => L.set j none
    | some (some (.double _)) => L.set j none
    | _ => L
def zst1 (L : zL) (i : Nat) (v : Value) : zL := (zkill L i).set i (some v)
def zst2 (L : zL) (i : Nat) (v : Value) : zL := ((zkill L i).set i (some v)).set (i + 1) none
def zent : List Value → zL
  | [] => []
  | .long x :: vs => some (.long x) :: none :: zent vs
  | .double x :: vs => some (.double x) :: none :: zent vs
  | v :: vs => some v :: zent vs
def zentry (n : Nat) (vs : List Value) : zL := zent vs ++ List.replicate (n - (zent vs).length) none
def zdef : List Nat → List Value
  | [] => []
  | 0 :: r => .int 0 :: zdef r
  | _ :: r => .null :: zdef r
def zdefA (t : Nat) (n : Nat) : vp_A := match t with
  | 1 => (n, .inr (.inl (fun _ => 0)))
  | 3 => (n, .inr (.inr (.inr (.inr (fun _ => none)))))
  | _ => (n, .inl (fun _ => 0))
def zsz : zE → Nat
  | .inl a => a.2.1
  | .inr o => o.2.length
def zss (h : zH) : Nat := (h.map zsz).sum
/-- which of two roads -/
def zif (c : Bool) (ax : List Nat) (pc : Nat) (L : zL) (st : List Value) (h : zH) : Option (zR ⊕ zS) := match ax with
  | t :: _ => some (.inr (bif c then t else pc + 3, L, st, h))
  | [] => none
def zcnd : Jvm.ClassFile.Cond → Int32 → Int32 → Bool
  | .eq, x, y => decide (x = y)
  | .ne, x, y => decide (x ≠ y)
  | .lt, x, y => decide (x < y)
  | .ge, x, y => decide (y ≤ x)
  | .gt, x, y => decide (y < x)
  | .le, x, y => decide (x ≤ y)
def zjump (ax : List Nat) (k : Nat) (L : zL) (st : List Value) (h : zH) : Option (zR ⊕ zS) := match ax[k]? with
  | some t => some (.inr (t, L, st, h))
  | none => none
def zgo (pc : Nat) (L : zL) (st : List Value) (h : zH) : Option (zR ⊕ zS) := some (.inr (pc, L, st, h))
def zloadI (pc i : Nat) (L : zL) (st : List Value) (h : zH) : Option (zR ⊕ zS) := match L[i]? with
  | some (some (.int x)) => zgo pc L (.int x :: st) h
  | _ => none
def zloadL (pc i : Nat) (L : zL) (st : List Value) (h : zH) : Option (zR ⊕ zS) := match L[i]? with
  | some (some (.long x)) => zgo pc L (.long x :: st) h
  | _ => none
def zloadD (pc i : Nat) (L : zL) (st : List Value) (h : zH) : Option (zR ⊕ zS) := match L[i]? with
  | some (some (.double x)) => zgo pc L (.double x :: st) h
  | _ => none
def zloadA (pc i : Nat) (L : zL) (st : List Value) (h : zH) : Option (zR ⊕ zS) := match L[i]? with
  | some (some (.ref x)) => zgo pc L (.ref x :: st) h
  | _ => none
def zstoreI (pc i : Nat) (L : zL) (st : List Value) (h : zH) : Option (zR ⊕ zS) := match st with
  | .int x :: st => if i < L.length then zgo pc (zst1 L i (.int x)) st h else none
  | _ => none
def zstoreA (pc i : Nat) (L : zL) (st : List Value) (h : zH) : Option (zR ⊕ zS) := match st with
  | .ref x :: st => if i < L.length then zgo pc (zst1 L i (.ref x)) st h else none
  | _ => none
def zstoreL (pc i : Nat) (L : zL) (st : List Value) (h : zH) : Option (zR ⊕ zS) := match st with
  | .long x :: st => if i + 1 < L.length then zgo pc (zst2 L i (.long x)) st h else none
  | _ => none
def zstoreD (pc i : Nat) (L : zL) (st : List Value) (h : zH) : Option (zR ⊕ zS) := match st with
  | .double x :: st => if i + 1 < L.length then zgo pc (zst2 L i (.double x)) st h else none
  | _ => none
def zii (pc : Nat) (f : Int32 → Int32 → Int32) (L : zL) (st : List Value) (h : zH) : Option (zR ⊕ zS) := match st with
  | .int y :: .int x :: st => zgo pc L (.int (f x y) :: st) h
  | _ => none
def zll (pc : Nat) (f : Int64 → Int64 → Int64) (L : zL) (st : List Value) (h : zH) : Option (zR ⊕ zS) := match st with
  | .long y :: .long x :: st => zgo pc L (.long (f x y) :: st) h
  | _ => none
def zget1 (pc : Nat) (ax : List Nat) (L : zL) (st : List Value) (h : zH) : Option (zR ⊕ zS) := match st, ax with
  | .ref i :: st, ci :: k :: _ => match h[i]? with
    | some (.inr (c, fs)) => if c = ci then (match fs[k]? with
      | some v => zgo pc L (v :: st) h
      | none => none) else none
    | _ => none
  | _, _ => none
/-- a value that a field of this kind takes: 0 a number, 1 a reference -/
def zfits : Nat → Value → Bool
  | 0, .int _ => true
  | 1, .ref _ => true
  | _, _ => false
def zput1 (pc : Nat) (ax : List Nat) (L : zL) (st : List Value) (h : zH) : Option (zR ⊕ zS) := match st, ax with
  | v :: .ref (i + 1) :: st, ci :: k :: kd :: _ => match h[i + 1]? with
    | some (.inr (c, fs)) => if c = ci ∧ k < fs.length ∧ zfits kd v = true then zgo pc L st (h.set (i + 1) (.inr (c, fs.set k v))) else none
    | _ => none
  | _, _ => none
def znew (pc : Nat) (ax : List Nat) (L : zL) (st : List Value) (h : zH) : Option (zR ⊕ zS) := match ax with
  | ci :: _ :: _ :: _ :: ds => zgo pc L (.ref h.length :: st) (h ++ [.inr (ci, zdef ds)])
  | _ => none
def znewa (pc : Nat) (ax : List Nat) (L : zL) (st : List Value) (h : zH) : Option (zR ⊕ zS) := match st, ax with
  | .int n :: st, t :: _ => if n < 0 ∨ 10000 < n.toNatClampNeg then none else zgo pc L (.ref h.length :: st) (h ++ [.inl (t, zdefA t n.toNatClampNeg)])
  | _, _ => none
def zalen (pc : Nat) (L : zL) (st : List Value) (h : zH) : Option (zR ⊕ zS) := match st with
  | .ref i :: st => match h[i]? with
    | some (.inl (_, n, _)) => zgo pc L (.int (Int32.ofNat n) :: st) h
    | _ => none
  | _ => none
def ziald (pc : Nat) (L : zL) (st : List Value) (h : zH) : Option (zR ⊕ zS) := match st with
  | .int j :: .ref i :: st => match h[i]? with
    | some (.inl (0, n, .inl f)) => if j < 0 ∨ n ≤ j.toNatClampNeg then none else zgo pc L (.int (f j.toNatClampNeg) :: st) h
    | _ => none
  | _ => none
def zlald (pc : Nat) (L : zL) (st : List Value) (h : zH) : Option (zR ⊕ zS) := match st with
  | .int j :: .ref i :: st => match h[i]? with
    | some (.inl (1, n, .inr (.inl f))) => if j < 0 ∨ n ≤ j.toNatClampNeg then none else zgo pc L (.long (f j.toNatClampNeg) :: st) h
    | _ => none
  | _ => none
def zaald (pc : Nat) (L : zL) (st : List Value) (h : zH) : Option (zR ⊕ zS) := match st with
  | .int j :: .ref i :: st => match h[i]? with
    | some (.inl (3, n, .inr (.inr (.inr (.inr f))))) => if j < 0 ∨ n ≤ j.toNatClampNeg then none else (match f j.toNatClampNeg with
      | some r => zgo pc L (.ref r :: st) h
      | none => none)
    | _ => none
  | _ => none
def ziast (pc : Nat) (L : zL) (st : List Value) (h : zH) : Option (zR ⊕ zS) := match st with
  | .int x :: .int j :: .ref (i + 1) :: st => match h[i + 1]? with
    | some (.inl (0, n, .inl f)) => if j < 0 ∨ n ≤ j.toNatClampNeg then none else zgo pc L st (h.set (i + 1) (.inl (0, n, .inl (upd f j.toNatClampNeg x))))
    | _ => none
  | _ => none
def zlast (pc : Nat) (L : zL) (st : List Value) (h : zH) : Option (zR ⊕ zS) := match st with
  | .long x :: .int j :: .ref (i + 1) :: st => match h[i + 1]? with
    | some (.inl (1, n, .inr (.inl f))) => if j < 0 ∨ n ≤ j.toNatClampNeg then none else zgo pc L st (h.set (i + 1) (.inl (1, n, .inr (.inl (vp_updL f j.toNatClampNeg x)))))
    | _ => none
  | _ => none
/-- a row of numbers put into a row of rows -/
def zaast (pc : Nat) (L : zL) (st : List Value) (h : zH) : Option (zR ⊕ zS) := match st with
  | .ref r :: .int j :: .ref (i + 1) :: st => match h[i + 1]? with
    | some (.inl (3, n, .inr (.inr (.inr (.inr f))))) => match h[r]? with
      | some (.inl (0, _, .inl _)) => if j < 0 ∨ n ≤ j.toNatClampNeg then none else zgo pc L st (h.set (i + 1) (.inl (3, n, .inr (.inr (.inr (.inr (va_up f j.toNatClampNeg (some r))))))))
      | _ => none
    | _ => none
  | _ => none
/-- which place of the pairs holds x; 0: none -/
def zlk : List (Int × Int) → Int → Nat → Nat
  | [], _, _ => 0
  | (a, _) :: r, x, k => if x = a then k else zlk r x (k + 1)
/-- the end of a method -/
def zret (st : List Value) (h : zH) : Option (zR ⊕ zS) := match st with
  | [v] => some (.inl (some v, h))
  | _ => none
/-- every instruction but the calls; kr: what the method answers (0 nothing, 1 a number, 2 a truth, 3 a long, 4 a double, 5 a reference) -/
def zbase (kr pc : Nat) (i : Instr) (ax : List Nat) (L : zL) (st : List Value) (h : zH) : Option (zR ⊕ zS) := match i with
  | .iconst n => zgo (pc + 1) L (.int (Int32.ofInt n) :: st) h
  | .bipush n => zgo (pc + 2) L (.int (Int8.ofInt n).toInt32 :: st) h
  | .sipush n => zgo (pc + 3) L (.int (Int16.ofInt n).toInt32 :: st) h
  | .lconst n => zgo (pc + 1) L (.long (Int64.ofNat (n : Nat)) :: st) h
  | .dconst n => if n = 0 then zgo (pc + 1) L (.double 0 :: st) h else none
  | .ldc _ => match ax with
    | v :: _ => zgo (pc + 2) L (.int (Int32.ofNat v) :: st) h
    | [] => none
  | .ldc_w _ => match ax with
    | v :: _ => zgo (pc + 3) L (.int (Int32.ofNat v) :: st) h
    | [] => none
  | .ldc2_w _ => match ax with
    | v :: _ => zgo (pc + 3) L (.long (Int64.ofNat v) :: st) h
    | [] => none
  | .iload k => zloadI (pc + 2) k L st h
  | .iload_n k => zloadI (pc + 1) k L st h
  | .lload k => zloadL (pc + 2) k L st h
  | .lload_n k => zloadL (pc + 1) k L st h
  | .dload k => zloadD (pc + 2) k L st h
  | .dload_n k => zloadD (pc + 1) k L st h
  | .aload k => zloadA (pc + 2) k L st h
  | .aload_n k => zloadA (pc + 1) k L st h
  | .istore k => zstoreI (pc + 2) k L st h
  | .istore_n k => zstoreI (pc + 1) k L st h
  | .lstore k => zstoreL (pc + 2) k L st h
  | .lstore_n k => zstoreL (pc + 1) k L st h
  | .dstore k => zstoreD (pc + 2) k L st h
  | .dstore_n k => zstoreD (pc + 1) k L st h
  | .astore k => zstoreA (pc + 2) k L st h
  | .astore_n k => zstoreA (pc + 1) k L st h
  | .iinc k n => match L[k]? with
    | some (some (.int x)) => if k < L.length then zgo (pc + 3) (zst1 L k (.int (x + Int32.ofInt n))) st h else none
    | _ => none
  | .iadd => zii (pc + 1) (fun x y => x + y) L st h
  | .isub => zii (pc + 1) (fun x y => x - y) L st h
  | .imul => zii (pc + 1) (fun x y => x * y) L st h
  | .iand => zii (pc + 1) (fun x y => x &&& y) L st h
  | .ior => zii (pc + 1) (fun x y => x ||| y) L st h
  | .ishl => zii (pc + 1) (fun x y => x <<< (y &&& 31)) L st h
  | .ishr => zii (pc + 1) (fun x y => x >>> (y &&& 31)) L st h
  | .iushr => zii (pc + 1) (fun x y => (x.toUInt32 >>> (y.toUInt32 &&& Int32.toUInt32 31)).toInt32) L st h
  | .idiv => match st with
    | .int y :: .int x :: st => if y = 0 then none else zgo (pc + 1) L (.int (x / y) :: st) h
    | _ => none
  | .irem => match st with
    | .int y :: .int x :: st => if y = 0 then none else zgo (pc + 1) L (.int (x - x / y * y) :: st) h
    | _ => none
  | .ladd => zll (pc + 1) (fun x y => x + y) L st h
  | .lmul => zll (pc + 1) (fun x y => x * y) L st h
  | .lcmp => match st with
    | .long y :: .long x :: st => zgo (pc + 1) L (.int (lg_cmp x y) :: st) h
    | _ => none
  | .i2l => match st with
    | .int x :: st => zgo (pc + 1) L (.long x.toInt64 :: st) h
    | _ => none
  | .i2d => match st with
    | .int x :: st => zgo (pc + 1) L (.double (FP.i2d x) :: st) h
    | _ => none
  | .ddiv => match st with
    | .double y :: .double x :: st => if FP.ddiv x y &&& 0x7fffffffffffffff ≤ 0x7ff0000000000000 then zgo (pc + 1) L (.double (FP.ddiv x y) :: st) h else none
    | _ => none
  | .dcmp op => match st with
    | .double y :: .double x :: st => zgo (pc + 1) L (.int (Op.cmpValue (FP.dcmp x y) op) :: st) h
    | _ => none
  | .dup => match st with
    | v :: st => if v.category = 1 then zgo (pc + 1) L (v :: v :: st) h else none
    | _ => none
  | .pop => match st with
    | v :: st => if v.category = 1 then zgo (pc + 1) L st h else none
    | _ => none
  | .dup_x1 => match st with
    | v :: w :: st => if v.category = 1 ∧ w.category = 1 then zgo (pc + 1) L (v :: w :: v :: st) h else none
    | _ => none
  | .dup_x2 => match st with
    | v :: w :: x :: st => if v.category = 1 ∧ w.category = 1 ∧ x.category = 1 then zgo (pc + 1) L (v :: w :: x :: v :: st) h else none
    | _ => none
  | .dup2 => match st with
    | v :: w :: st => if v.category = 1 ∧ w.category = 1 then zgo (pc + 1) L (v :: w :: v :: w :: st) h else none
    | _ => none
  | .ifCond c _ => match st with
    | .int x :: st => zif (zcnd c x 0) ax pc L st h
    | _ => none
  | .if_icmp c _ => match st with
    | .int y :: .int x :: st => zif (zcnd c x y) ax pc L st h
    | _ => none
  | .goto _ => zjump ax 0 L st h
  | .tableswitch _ lo hi _ => match st with
    | .int x :: st => if x.toInt < lo ∨ hi < x.toInt then zjump ax 0 L st h else zjump ax ((x.toInt - lo).toNat + 1) L st h
    | _ => none
  | .lookupswitch _ ps => match st with
    | .int x :: st => zjump ax (zlk ps.toList x.toInt 1) L st h
    | _ => none
  | .getfield _ => zget1 (pc + 3) ax L st h
  | .putfield _ => zput1 (pc + 3) ax L st h
  | .new _ => znew (pc + 3) ax L st h
  | .newarray _ => znewa (pc + 2) ax L st h
  | .anewarray _ => znewa (pc + 3) ax L st h
  | .arraylength => zalen (pc + 1) L st h
  | .iaload => ziald (pc + 1) L st h
  | .laload => zlald (pc + 1) L st h
  | .aaload => zaald (pc + 1) L st h
  | .iastore => ziast (pc + 1) L st h
  | .lastore => zlast (pc + 1) L st h
  | .aastore => zaast (pc + 1) L st h
  | .ireturn => match st with
    | [.int v] => if kr = 1 ∨ (kr = 2 ∧ (v = 0 ∨ v = 1)) then some (.inl (some (.int v), h)) else none
    | _ => none
  | .lreturn => match st with
    | [.long v] => if kr = 3 then some (.inl (some (.long v), h)) else none
    | _ => none
  | .dreturn => match st with
    | [.double v] => if kr = 4 then some (.inl (some (.double v), h)) else none
    | _ => none
  | .areturn => match st with
    | [.ref v] => if kr = 5 then some (.inl (some (.ref v), h)) else none
    | _ => none
  | .return_ => match st with
    | [] => if kr = 0 then some (.inl (none, h)) else none
    | _ => none
  | _ => none
def zkr (r : Option FieldType) : Nat := match r with
  | none => 0
  | some .int => 1
  | some .boolean => 2
  | some .long => 3
  | some .double => 4
  | some (.object _) => 5
  | some (.array _) => 5
  | _ => 6
/-- behind a call -/
def zback (pc : Nat) (L : zL) (rest : List Value) (r : Option zR) : Option (zR ⊕ zS) := match r with
  | some (some v, h) => zgo (pc + 3) L (v :: rest) h
  | some (none, h) => zgo (pc + 3) L rest h
  | none => none
/-- a call of method y with n values behind the receiver (mode 0: on an object of the class ci; 1: on none; 2: of a constructor) -/
def zinv (C : Nat → List Value → zH → Option zR) (pc : Nat) (ax : List Nat) (L : zL) (st : List Value) (h : zH) : Option (zR ⊕ zS) := match ax with
  | y :: mode :: n :: ci :: _ =>
    if n ≤ st.length ∧ ((st.drop n).map fun v => v.category).sum ≤ 8 then (match mode with
      | 1 => zback pc L (st.drop n) (C y (st.take n).reverse h)
      | 0 => match st.drop n with
        | .ref b :: rest => (match h[b]? with
          | some (.inr (c, _)) => if c = ci then zback pc L rest (C y (.ref b :: (st.take n).reverse) h) else none
          | _ => none)
        | _ => none
      | 2 => match st.drop n with
        | .ref b :: rest => zback pc L rest (C y (.ref b :: (st.take n).reverse) h)
        | _ => none
      | _ => none) else none
  | _ => none
/-- nothing, or a row of numbers -/
def zrow (h : zH) : Option Nat → Bool
  | none => true
  | some r => match h[r]? with
    | some (.inl (0, _, .inl _)) => true
    | _ => false
/-- System.arraycopy between two different rows -/
def zcopy (pc : Nat) (L : zL) (st : List Value) (h : zH) : Option (zR ⊕ zS) := match st with
  | .int n :: .int dp :: .ref (d + 1) :: .int sp :: .ref i :: st => if n < 0 ∨ dp < 0 ∨ sp < 0 ∨ i = d + 1 ∨ 8 < (st.map fun v => v.category).sum then none else (match h[i]?, h[d + 1]? with
    | some (.inl (0, n0, .inl f)), some (.inl (0, n1, .inl g)) => if sp.toNatClampNeg + n.toNatClampNeg ≤ n0 ∧ dp.toNatClampNeg + n.toNatClampNeg ≤ n1 then zgo (pc + 3) L st (h.set (d + 1) (.inl (0, n1, .inl (va_cpy f g sp.toNatClampNeg dp.toNatClampNeg n.toNatClampNeg)))) else none
    | some (.inl (3, n0, .inr (.inr (.inr (.inr f))))), some (.inl (3, n1, .inr (.inr (.inr (.inr g))))) => if sp.toNatClampNeg + n.toNatClampNeg ≤ n0 ∧ dp.toNatClampNeg + n.toNatClampNeg ≤ n1 ∧ (List.range n.toNatClampNeg).all (fun i => zrow h (f (sp.toNatClampNeg + i))) = true then zgo (pc + 3) L st (h.set (d + 1) (.inl (3, n1, .inr (.inr (.inr (.inr (va_cpy f g sp.toNatClampNeg dp.toNatClampNeg n.toNatClampNeg))))))) else none
    | _, _ => none)
  | _ => none
/-- Math.max -/
def zmax (pc : Nat) (L : zL) (st : List Value) (h : zH) : Option (zR ⊕ zS) := match st with
  | .int y :: .int x :: st => if 8 < (st.map fun v => v.category).sum then none else zgo (pc + 3) L (.int (if x < y then y else x) :: st) h
  | _ => none
/-- Object.<init> -/
def zobj (pc : Nat) (L : zL) (st : List Value) (h : zH) : Option (zR ⊕ zS) := match st with
  | .ref _ :: st => if 8 < (st.map fun v => v.category).sum then none else zgo (pc + 3) L st h
  | _ => none
/-- mode 3: arraycopy, 4: Math.max, 5: Object.<init> -/
def zcall (C : Nat → List Value → zH → Option zR) (pc : Nat) (ax : List Nat) (L : zL) (st : List Value) (h : zH) : Option (zR ⊕ zS) := match ax with
  | _ :: 3 :: _ => zcopy pc L st h
  | _ :: 4 :: _ => zmax pc L st h
  | _ :: 5 :: _ => zobj pc L st h
  | _ => zinv C pc ax L st h
def zstep (C : Nat → List Value → zH → Option zR) (kr pc : Nat) (i : Instr) (ax : List Nat) (L : zL) (st : List Value) (h : zH) : Option (zR ⊕ zS) := match i with
  | .invokevirtual _ => zcall C pc ax L st h
  | .invokestatic _ => zcall C pc ax L st h
  | .invokespecial _ => zcall C pc ax L st h
  | i => zbase kr pc i ax L st h
def zrun (T : zT) : Nat → Nat → Nat → zL → List Value → zH → Option zR
  | 0, _, _, _, _, _ => none
  | n + 1, y, pc, L, st, h => match T.1 y pc with
    | none => none
    | some (i, ax) => match zstep (fun y' a h' => if (zent a).length ≤ (T.2 y').2.2.1 then zrun T n y' 0 (zentry (T.2 y').2.2.1 a) [] h' else none) (zkr (T.2 y).2.2.2.1) pc i ax L st h with
      | none => none
      | some (.inl r) => some r
      | some (.inr s) => zrun T n y s.1 s.2.1 s.2.2.1 s.2.2.2
/-- method y, called with these values over these cells, comes to its end with r over h' -/
def zcalls (T : zT) (y : Nat) (a : List Value) (h : zH) (r : zR) : Prop := (zent a).length ≤ (T.2 y).2.2.1 ∧ ∃ n, zrun T n y 0 (zentry (T.2 y).2.2.1 a) [] h = some r
end
section
/-! what holds of every run of the pure machine -/
def zhp : zR ⊕ zS → zH
  | .inl r => r.2
  | .inr s => s.2.2.2
def zle (h h' : zH) : Prop := h.length ≤ h'.length ∧ zss h ≤ zss h'
theorem zle_rf (h : zH) : zle h h := ⟨Nat.le_refl _, Nat.le_refl _⟩
theorem zle_tr {a b c : zH} (h1 : zle a b) (h2 : zle b c) : zle a c := ⟨Nat.le_trans h1.1 h2.1, Nat.le_trans h1.2 h2.2⟩
theorem zss_app (h : zH) (e : zE) : zss (h ++ [e]) = zss h + zsz e := by simp [zss]
theorem zss_set : ∀ (h : zH) (i : Nat) (e e' : zE), h[i]? = some e → zsz e' = zsz e → zss (h.set i e') = zss h
  | [], i, e, e', h1, _ => by simp at h1
  | a :: l, 0, e, e', h1, h2 => by
    simp only [List.getElem?_cons_zero, Option.some.injEq] at h1
    simp [zss, h1, h2]
  | a :: l, i + 1, e, e', h1, h2 => by
    have := zss_set l i e e' (by simpa using h1) h2
    simp only [zss, List.set_cons_succ, List.map_cons, List.sum_cons] at this ⊢
    omega
theorem zle_app (h : zH) (e : zE) : zle h (h ++ [e]) := ⟨by simp, by rw [zss_app]; omega⟩
theorem zle_set {h : zH} {i : Nat} {e e' : zE} (h1 : h[i]? = some e) (h2 : zsz e' = zsz e) : zle h (h.set i e') := ⟨by simp, by rw [zss_set h i e e' h1 h2]; omega⟩
theorem zgo_le {pc : Nat} {L : zL} {st : List Value} {h h' : zH} {x : zR ⊕ zS} (hh : zle h h') (hs : zgo pc L st h' = some x) : zle h (zhp x) := by
  simp only [zgo, Option.some.injEq] at hs
  subst hs
  exact hh
set_option maxHeartbeats 4000000 in
theorem zbase_le {kr pc : Nat} {i : Instr} {ax : List Nat} {L : zL} {st : List Value} {h : zH} {x : zR ⊕ zS} (hs : zbase kr pc i ax L st h = some x) : zle h (zhp x) := by
  have g0 := zle_rf h
  cases i <;> simp only [zbase, zloadI, zloadL, zloadD, zloadA, zstoreI, zstoreA, zstoreL, zstoreD, zii, zll, zget1, zput1, znew, znewa, zalen, ziald, zlald, zaald, ziast, zlast, zaast, zif, zjump] at hs <;>
    (repeat' split at hs) <;>
    first
    | (simp at hs; done)
    | exact zgo_le g0 hs
    | exact zgo_le (zle_app _ _) hs
    | exact zgo_le (zle_set (by assumption) (by simp [zsz])) hs
    | (simp only [Option.some.injEq] at hs; subst hs; exact g0)
theorem zback_le {pc : Nat} {L : zL} {rest : List Value} {h : zH} {r : Option zR} {x : zR ⊕ zS} (hr : ∀ q, r = some q → zle h q.2) (hs : zback pc L rest r = some x) : zle h (zhp x) := by
  unfold zback at hs
  split at hs
  · exact zgo_le (hr _ rfl) hs
  · exact zgo_le (hr _ rfl) hs
  · simp at hs
set_option maxHeartbeats 4000000 in
theorem zcall_le {C : Nat → List Value → zH → Option zR} (hC : ∀ y a h r, C y a h = some r → zle h r.2) {pc : Nat} {ax : List Nat} {L : zL} {st : List Value} {h : zH} {x : zR ⊕ zS} (hs : zcall C pc ax L st h = some x) : zle h (zhp x) := by
  have g0 := zle_rf h
  simp only [zcall, zinv, zcopy, zmax, zobj] at hs
  (repeat' split at hs) <;>
    first
    | (simp at hs; done)
    | exact zback_le (fun q hq => hC _ _ _ _ hq) hs
    | exact zgo_le g0 hs
    | exact zgo_le (zle_set (by assumption) (by simp [zsz])) hs
theorem zstep_le {C : Nat → List Value → zH → Option zR} (hC : ∀ y a h r, C y a h = some r → zle h r.2) {kr pc : Nat} {i : Instr} {ax : List Nat} {L : zL} {st : List Value} {h : zH} {x : zR ⊕ zS} (hs : zstep C kr pc i ax L st h = some x) : zle h (zhp x) := by
  unfold zstep at hs
  split at hs
  · exact zcall_le hC hs
  · exact zcall_le hC hs
  · exact zcall_le hC hs
  · exact zbase_le hs
theorem zback_mono {pc : Nat} {L : zL} {rest : List Value} {r r' : Option zR} {x : zR ⊕ zS} (hr : ∀ q, r = some q → r' = some q) (hs : zback pc L rest r = some x) : zback pc L rest r' = some x := by
  cases r with
  | none => simp [zback] at hs
  | some q => rw [hr q rfl]; exact hs
set_option maxHeartbeats 4000000 in
theorem zcall_mono {C C' : Nat → List Value → zH → Option zR} (hC : ∀ y a h r, C y a h = some r → C' y a h = some r) {pc : Nat} {ax : List Nat} {L : zL} {st : List Value} {h : zH} {x : zR ⊕ zS} (hs : zcall C pc ax L st h = some x) : zcall C' pc ax L st h = some x := by
  simp only [zcall, zinv] at hs ⊢
  (repeat' split at hs) <;>
    first
    | (simp at hs; done)
    | exact hs
    | (rw [if_pos (by assumption)]; exact zback_mono (fun q hq => hC _ _ _ _ hq) hs)
    | (rw [if_pos (by assumption)]; simp only [*, if_true]; exact zback_mono (fun q hq => hC _ _ _ _ hq) hs)
theorem zstep_mono {C C' : Nat → List Value → zH → Option zR} (hC : ∀ y a h r, C y a h = some r → C' y a h = some r) {kr pc : Nat} {i : Instr} {ax : List Nat} {L : zL} {st : List Value} {h : zH} {x : zR ⊕ zS} (hs : zstep C kr pc i ax L st h = some x) : zstep C' kr pc i ax L st h = some x := by
  unfold zstep at hs ⊢
  split at hs
  · exact zcall_mono hC hs
  · exact zcall_mono hC hs
  · exact zcall_mono hC hs
  · exact hs
theorem zrun_le {T : zT} : ∀ (n : Nat) {y pc : Nat} {L : zL} {st : List Value} {h : zH} {r : zR}, zrun T n y pc L st h = some r → zle h r.2
  | 0, _, _, _, _, _, _, hs => by simp [zrun] at hs
  | n + 1, y, pc, L, st, h, r, hs => by
    unfold zrun at hs
    split at hs
    · simp at hs
    · split at hs
      · simp at hs
      · rename_i hq
        have hl := zstep_le (fun y' a h' r' hc => by
          split at hc
          · exact zrun_le n hc
          · simp at hc) hq
        simp only [Option.some.injEq] at hs
        subst hs
        exact hl
      · rename_i hq
        have hl := zstep_le (fun y' a h' r' hc => by
          split at hc
          · exact zrun_le n hc
          · simp at hc) hq
        exact zle_tr hl (zrun_le n hs)
theorem zrun_succ (T : zT) (n y pc : Nat) (L : zL) (st : List Value) (h : zH) : zrun T (n + 1) y pc L st h = match T.1 y pc with
    | none => none
    | some (i, ax) => match zstep (fun y' a h' => if (zent a).length ≤ (T.2 y').2.2.1 then zrun T n y' 0 (zentry (T.2 y').2.2.1 a) [] h' else none) (zkr (T.2 y).2.2.2.1) pc i ax L st h with
      | none => none
      | some (.inl r) => some r
      | some (.inr s) => zrun T n y s.1 s.2.1 s.2.2.1 s.2.2.2 := rfl
theorem zrun_mono1 {T : zT} : ∀ (n : Nat) {y pc : Nat} {L : zL} {st : List Value} {h : zH} {r : zR}, zrun T n y pc L st h = some r → zrun T (n + 1) y pc L st h = some r
  | 0, _, _, _, _, _, _, hs => by simp [zrun] at hs
  | n + 1, y, pc, L, st, h, r, hs => by
    have hC : ∀ y' a h' r', (if (zent a).length ≤ (T.2 y').2.2.1 then zrun T n y' 0 (zentry (T.2 y').2.2.1 a) [] h' else none) = some r' → (if (zent a).length ≤ (T.2 y').2.2.1 then zrun T (n + 1) y' 0 (zentry (T.2 y').2.2.1 a) [] h' else none) = some r' := fun y' a h' r' hc => by
      split at hc
      · rename_i hz
        rw [if_pos hz]
        exact zrun_mono1 n hc
      · simp at hc
    rw [zrun_succ] at hs ⊢
    cases hI : T.1 y pc with
    | none => rw [hI] at hs; simp at hs
    | some q =>
      obtain ⟨i, ax⟩ := q
      rw [hI] at hs
      simp only at hs ⊢
      split at hs
      · simp at hs
      · rename_i hq
        rw [zstep_mono hC hq]
        exact hs
      · rename_i hq
        rw [zstep_mono hC hq]
        exact zrun_mono1 n hs
theorem zrun_mono {T : zT} {n : Nat} {y pc : Nat} {L : zL} {st : List Value} {h : zH} {r : zR} (hs : zrun T n y pc L st h = some r) : ∀ {k : Nat}, n ≤ k → zrun T k y pc L st h = some r := by
  intro k hk
  obtain ⟨j, rfl⟩ := Nat.le.dest hk
  induction j with
  | zero => exact hs
  | succ j ih => exact zrun_mono1 _ (ih (by omega))
/-- from here the method comes to its end with r -/
def zruns (T : zT) (y pc : Nat) (L : zL) (st : List Value) (h : zH) (r : zR) : Prop := ∃ n, zrun T n y pc L st h = some r
/-- a step that calls nothing -/
theorem zruns_step {T : zT} {y pc pc' : Nat} {L L' : zL} {st st' : List Value} {h h' : zH} {r : zR} {i : Instr} {ax : List Nat} (hI : T.1 y pc = some (i, ax)) (hs : ∀ C, zstep C (zkr (T.2 y).2.2.2.1) pc i ax L st h = some (.inr (pc', L', st', h'))) (k : zruns T y pc' L' st' h' r) : zruns T y pc L st h r := by
  obtain ⟨n, hn⟩ := k
  refine ⟨n + 1, ?_⟩
  unfold zrun
  simp only [hI, hs]
  exact hn
theorem zruns_ret {T : zT} {y pc : Nat} {L : zL} {st : List Value} {h : zH} {r : zR} {i : Instr} {ax : List Nat} (hI : T.1 y pc = some (i, ax)) (hs : ∀ C, zstep C (zkr (T.2 y).2.2.2.1) pc i ax L st h = some (.inl r)) : zruns T y pc L st h r := by
  refine ⟨1, ?_⟩
  unfold zrun
  simp only [hI, hs]
/-- a call -/
theorem zruns_call {T : zT} {y y' pc pc' : Nat} {a : List Value} {L L' : zL} {st st' : List Value} {h h' h1 : zH} {r q : zR} {i : Instr} {ax : List Nat} (hI : T.1 y pc = some (i, ax)) (hc : zcalls T y' a h1 q) (hs : ∀ C : Nat → List Value → zH → Option zR, C y' a h1 = some q → zstep C (zkr (T.2 y).2.2.2.1) pc i ax L st h = some (.inr (pc', L', st', h'))) (k : zruns T y pc' L' st' h' r) : zruns T y pc L st h r := by
  obtain ⟨n, hn⟩ := k
  obtain ⟨hz, m, hm⟩ := hc
  refine ⟨max n m + 1, ?_⟩
  unfold zrun
  simp only [hI]
  rw [hs _ (by rw [if_pos hz]; exact zrun_mono hm (Nat.le_max_right n m))]
  exact zrun_mono hn (Nat.le_max_left n m)
theorem zcalls_of {T : zT} {y : Nat} {a : List Value} {h : zH} {r : zR} (hz : (zent a).length ≤ (T.2 y).2.2.1) (k : zruns T y 0 (zentry (T.2 y).2.2.1 a) [] h r) : zcalls T y a h r := ⟨hz, k⟩
end
section
-- ===== PART A: the tables' words (out of the skeleton) =====
/-- a private method of a class that the tables say can be made, by its rows of tables_1 -/
def lw_okq (q : MethodName × Nat) : Prop := (q.1.cls ≠ "java/lang/invoke/MethodHandle" ∧ q.1.cls ≠ "java/lang/invoke/VarHandle") ∧ Cond.instantiable q.1.cls q.2 ∈ tables_1 ∧ Cond.privateMethod q.1 ∈ tables_1 ∧ Cond.instanceMethod q.1 ∈ tables_1
theorem lw_p0 : lw_okq (⟨"Nightjar", "recompute", "()V"⟩, 7) := ⟨⟨by decide +kernel, by decide +kernel⟩, List.mem_of_getElem? (i := 19) (by decide +kernel), List.mem_of_getElem? (i := 253) (by decide +kernel), List.mem_of_getElem? (i := 254) (by decide +kernel)⟩
theorem lw_p1 : lw_okq (⟨"Nightjar$Sessions", "begin", "(I)I"⟩, 9) := ⟨⟨by decide +kernel, by decide +kernel⟩, List.mem_of_getElem? (i := 111) (by decide +kernel), List.mem_of_getElem? (i := 289) (by decide +kernel), List.mem_of_getElem? (i := 290) (by decide +kernel)⟩
theorem lw_p2 : lw_okq (⟨"Nightjar$Sessions", "goOn", "(II)I"⟩, 9) := ⟨⟨by decide +kernel, by decide +kernel⟩, List.mem_of_getElem? (i := 111) (by decide +kernel), List.mem_of_getElem? (i := 293) (by decide +kernel), List.mem_of_getElem? (i := 294) (by decide +kernel)⟩
theorem lw_p3 : lw_okq (⟨"Nightjar$Sessions", "isSamePath", "(LNightjar$Lines;II)Z"⟩, 9) := ⟨⟨by decide +kernel, by decide +kernel⟩, List.mem_of_getElem? (i := 111) (by decide +kernel), List.mem_of_getElem? (i := 309) (by decide +kernel), List.mem_of_getElem? (i := 310) (by decide +kernel)⟩
theorem lw_p4 : lw_okq (⟨"Nightjar$Spikes", "closeWindow", "(LNightjar$Lines;III)V"⟩, 5) := ⟨⟨by decide +kernel, by decide +kernel⟩, List.mem_of_getElem? (i := 153) (by decide +kernel), List.mem_of_getElem? (i := 323) (by decide +kernel), List.mem_of_getElem? (i := 324) (by decide +kernel)⟩
theorem lw_p5 : lw_okq (⟨"Nightjar$Spikes", "enter", "(III)V"⟩, 5) := ⟨⟨by decide +kernel, by decide +kernel⟩, List.mem_of_getElem? (i := 153) (by decide +kernel), List.mem_of_getElem? (i := 332) (by decide +kernel), List.mem_of_getElem? (i := 333) (by decide +kernel)⟩
theorem lw_p6 : lw_okq (⟨"Nightjar$Scenes", "enter", "(III)V"⟩, 8) := ⟨⟨by decide +kernel, by decide +kernel⟩, List.mem_of_getElem? (i := 181) (by decide +kernel), List.mem_of_getElem? (i := 372) (by decide +kernel), List.mem_of_getElem? (i := 373) (by decide +kernel)⟩
theorem lw_p7 : lw_okq (⟨"java/lang/Throwable", "fillInStackTrace", "(I)Ljava/lang/Throwable;"⟩, 6) := ⟨⟨by decide +kernel, by decide +kernel⟩, List.mem_of_getElem? (i := 454) (by decide +kernel), List.mem_of_getElem? (i := 452) (by decide +kernel), List.mem_of_getElem? (i := 453) (by decide +kernel)⟩
theorem lw_p8 : lw_okq (⟨"Nightjar", "mixLine", "(JI)J"⟩, 7) := ⟨⟨by decide +kernel, by decide +kernel⟩, List.mem_of_getElem? (i := 19) (by decide +kernel), List.mem_of_getElem? (i := 492) (by decide +kernel), List.mem_of_getElem? (i := 493) (by decide +kernel)⟩
theorem lw_p9 : lw_okq (⟨"Nightjar", "hasLine", "(I)Z"⟩, 7) := ⟨⟨by decide +kernel, by decide +kernel⟩, List.mem_of_getElem? (i := 19) (by decide +kernel), List.mem_of_getElem? (i := 500) (by decide +kernel), List.mem_of_getElem? (i := 501) (by decide +kernel)⟩
theorem lw_p10 : lw_okq (⟨"Nightjar", "mixTemplate", "(JI)J"⟩, 7) := ⟨⟨by decide +kernel, by decide +kernel⟩, List.mem_of_getElem? (i := 19) (by decide +kernel), List.mem_of_getElem? (i := 533) (by decide +kernel), List.mem_of_getElem? (i := 534) (by decide +kernel)⟩
theorem lw_p11 : lw_okq (⟨"Nightjar", "hasTemplate", "(I)Z"⟩, 7) := ⟨⟨by decide +kernel, by decide +kernel⟩, List.mem_of_getElem? (i := 19) (by decide +kernel), List.mem_of_getElem? (i := 541) (by decide +kernel), List.mem_of_getElem? (i := 542) (by decide +kernel)⟩
theorem lw_p12 : lw_okq (⟨"Nightjar$Lines", "isNewWord", "(II)Z"⟩, 9) := ⟨⟨by decide +kernel, by decide +kernel⟩, List.mem_of_getElem? (i := 27) (by decide +kernel), List.mem_of_getElem? (i := 579) (by decide +kernel), List.mem_of_getElem? (i := 580) (by decide +kernel)⟩
theorem lw_p13 : lw_okq (⟨"Nightjar", "hasSession", "(I)Z"⟩, 7) := ⟨⟨by decide +kernel, by decide +kernel⟩, List.mem_of_getElem? (i := 19) (by decide +kernel), List.mem_of_getElem? (i := 601) (by decide +kernel), List.mem_of_getElem? (i := 602) (by decide +kernel)⟩
theorem lw_p14 : lw_okq (⟨"Nightjar$Templates", "copy", "(LNightjar$Lines;I)V"⟩, 3) := ⟨⟨by decide +kernel, by decide +kernel⟩, List.mem_of_getElem? (i := 91) (by decide +kernel), List.mem_of_getElem? (i := 690) (by decide +kernel), List.mem_of_getElem? (i := 691) (by decide +kernel)⟩
theorem lw_p15 : lw_okq (⟨"Nightjar$Templates", "widen", "(LNightjar$Lines;II)V"⟩, 3) := ⟨⟨by decide +kernel, by decide +kernel⟩, List.mem_of_getElem? (i := 91) (by decide +kernel), List.mem_of_getElem? (i := 695) (by decide +kernel), List.mem_of_getElem? (i := 696) (by decide +kernel)⟩
def lw_privs_1 : List (MethodName × Nat) := [(⟨"Nightjar", "recompute", "()V"⟩, 7), (⟨"Nightjar$Sessions", "begin", "(I)I"⟩, 9), (⟨"Nightjar$Sessions", "goOn", "(II)I"⟩, 9), (⟨"Nightjar$Sessions", "isSamePath", "(LNightjar$Lines;II)Z"⟩, 9), (⟨"Nightjar$Spikes", "closeWindow", "(LNightjar$Lines;III)V"⟩, 5), (⟨"Nightjar$Spikes", "enter", "(III)V"⟩, 5), (⟨"Nightjar$Scenes", "enter", "(III)V"⟩, 8), (⟨"java/lang/Throwable", "fillInStackTrace", "(I)Ljava/lang/Throwable;"⟩, 6), (⟨"Nightjar", "mixLine", "(JI)J"⟩, 7), (⟨"Nightjar", "hasLine", "(I)Z"⟩, 7), (⟨"Nightjar", "mixTemplate", "(JI)J"⟩, 7), (⟨"Nightjar", "hasTemplate", "(I)Z"⟩, 7), (⟨"Nightjar$Lines", "isNewWord", "(II)Z"⟩, 9), (⟨"Nightjar", "hasSession", "(I)Z"⟩, 7), (⟨"Nightjar$Templates", "copy", "(LNightjar$Lines;I)V"⟩, 3), (⟨"Nightjar$Templates", "widen", "(LNightjar$Lines;II)V"⟩, 3)]
theorem lw_r1 : ∀ q ∈ lw_privs_1, lw_okq q := List.forall_mem_cons.mpr ⟨lw_p0, List.forall_mem_cons.mpr ⟨lw_p1, List.forall_mem_cons.mpr ⟨lw_p2, List.forall_mem_cons.mpr ⟨lw_p3, List.forall_mem_cons.mpr ⟨lw_p4, List.forall_mem_cons.mpr ⟨lw_p5, List.forall_mem_cons.mpr ⟨lw_p6, List.forall_mem_cons.mpr ⟨lw_p7, List.forall_mem_cons.mpr ⟨lw_p8, List.forall_mem_cons.mpr ⟨lw_p9, List.forall_mem_cons.mpr ⟨lw_p10, List.forall_mem_cons.mpr ⟨lw_p11, List.forall_mem_cons.mpr ⟨lw_p12, List.forall_mem_cons.mpr ⟨lw_p13, List.forall_mem_cons.mpr ⟨lw_p14, List.forall_mem_cons.mpr ⟨lw_p15, fun _ h => absurd h List.not_mem_nil⟩⟩⟩⟩⟩⟩⟩⟩⟩⟩⟩⟩⟩⟩⟩⟩
theorem lw_p16 : lw_okq (⟨"NightjarModel", "no", "(I)I"⟩, 22) := ⟨⟨by decide +kernel, by decide +kernel⟩, List.mem_of_getElem? (i := 813) (by decide +kernel), List.mem_of_getElem? (i := 897) (by decide +kernel), List.mem_of_getElem? (i := 898) (by decide +kernel)⟩
theorem lw_p17 : lw_okq (⟨"NightjarModel", "learnLine", "(II)V"⟩, 22) := ⟨⟨by decide +kernel, by decide +kernel⟩, List.mem_of_getElem? (i := 813) (by decide +kernel), List.mem_of_getElem? (i := 909) (by decide +kernel), List.mem_of_getElem? (i := 910) (by decide +kernel)⟩
theorem lw_p18 : lw_okq (⟨"NightjarModel", "nearest", "(II)I"⟩, 22) := ⟨⟨by decide +kernel, by decide +kernel⟩, List.mem_of_getElem? (i := 813) (by decide +kernel), List.mem_of_getElem? (i := 913) (by decide +kernel), List.mem_of_getElem? (i := 914) (by decide +kernel)⟩
theorem lw_p19 : lw_okq (⟨"NightjarModel", "alikeNow", "(II)I"⟩, 22) := ⟨⟨by decide +kernel, by decide +kernel⟩, List.mem_of_getElem? (i := 813) (by decide +kernel), List.mem_of_getElem? (i := 917) (by decide +kernel), List.mem_of_getElem? (i := 918) (by decide +kernel)⟩
theorem lw_p20 : lw_okq (⟨"NightjarModel", "add", "(I)I"⟩, 22) := ⟨⟨by decide +kernel, by decide +kernel⟩, List.mem_of_getElem? (i := 813) (by decide +kernel), List.mem_of_getElem? (i := 921) (by decide +kernel), List.mem_of_getElem? (i := 922) (by decide +kernel)⟩
theorem lw_p21 : lw_okq (⟨"NightjarModel", "tellAll", "()V"⟩, 22) := ⟨⟨by decide +kernel, by decide +kernel⟩, List.mem_of_getElem? (i := 813) (by decide +kernel), List.mem_of_getElem? (i := 940) (by decide +kernel), List.mem_of_getElem? (i := 941) (by decide +kernel)⟩
theorem lw_p22 : lw_okq (⟨"NightjarModel", "tellSessions", "()V"⟩, 22) := ⟨⟨by decide +kernel, by decide +kernel⟩, List.mem_of_getElem? (i := 813) (by decide +kernel), List.mem_of_getElem? (i := 944) (by decide +kernel), List.mem_of_getElem? (i := 945) (by decide +kernel)⟩
theorem lw_p23 : lw_okq (⟨"NightjarModel", "tellSessions", "(I)I"⟩, 22) := ⟨⟨by decide +kernel, by decide +kernel⟩, List.mem_of_getElem? (i := 813) (by decide +kernel), List.mem_of_getElem? (i := 948) (by decide +kernel), List.mem_of_getElem? (i := 949) (by decide +kernel)⟩
theorem lw_p24 : lw_okq (⟨"NightjarModel", "key", "(I)I"⟩, 22) := ⟨⟨by decide +kernel, by decide +kernel⟩, List.mem_of_getElem? (i := 813) (by decide +kernel), List.mem_of_getElem? (i := 952) (by decide +kernel), List.mem_of_getElem? (i := 953) (by decide +kernel)⟩
theorem lw_p25 : lw_okq (⟨"NightjarModel", "templateOf", "(I)I"⟩, 22) := ⟨⟨by decide +kernel, by decide +kernel⟩, List.mem_of_getElem? (i := 813) (by decide +kernel), List.mem_of_getElem? (i := 956) (by decide +kernel), List.mem_of_getElem? (i := 957) (by decide +kernel)⟩
theorem lw_p26 : lw_okq (⟨"NightjarModel", "tellSpikes", "()V"⟩, 22) := ⟨⟨by decide +kernel, by decide +kernel⟩, List.mem_of_getElem? (i := 813) (by decide +kernel), List.mem_of_getElem? (i := 960) (by decide +kernel), List.mem_of_getElem? (i := 961) (by decide +kernel)⟩
theorem lw_p27 : lw_okq (⟨"NightjarModel", "window", "(I)I"⟩, 22) := ⟨⟨by decide +kernel, by decide +kernel⟩, List.mem_of_getElem? (i := 813) (by decide +kernel), List.mem_of_getElem? (i := 964) (by decide +kernel), List.mem_of_getElem? (i := 965) (by decide +kernel)⟩
theorem lw_p28 : lw_okq (⟨"NightjarModel", "countNow", "(II)I"⟩, 22) := ⟨⟨by decide +kernel, by decide +kernel⟩, List.mem_of_getElem? (i := 813) (by decide +kernel), List.mem_of_getElem? (i := 968) (by decide +kernel), List.mem_of_getElem? (i := 969) (by decide +kernel)⟩
theorem lw_p29 : lw_okq (⟨"NightjarModel", "manyNow", "(I)I"⟩, 22) := ⟨⟨by decide +kernel, by decide +kernel⟩, List.mem_of_getElem? (i := 813) (by decide +kernel), List.mem_of_getElem? (i := 972) (by decide +kernel), List.mem_of_getElem? (i := 973) (by decide +kernel)⟩
theorem lw_p30 : lw_okq (⟨"NightjarModel", "isBroken", "(I)Z"⟩, 22) := ⟨⟨by decide +kernel, by decide +kernel⟩, List.mem_of_getElem? (i := 813) (by decide +kernel), List.mem_of_getElem? (i := 976) (by decide +kernel), List.mem_of_getElem? (i := 977) (by decide +kernel)⟩
theorem lw_p31 : lw_okq (⟨"NightjarModel", "isLine", "(I)Z"⟩, 22) := ⟨⟨by decide +kernel, by decide +kernel⟩, List.mem_of_getElem? (i := 813) (by decide +kernel), List.mem_of_getElem? (i := 984) (by decide +kernel), List.mem_of_getElem? (i := 985) (by decide +kernel)⟩
def lw_privs_2 : List (MethodName × Nat) := [(⟨"NightjarModel", "no", "(I)I"⟩, 22), (⟨"NightjarModel", "learnLine", "(II)V"⟩, 22), (⟨"NightjarModel", "nearest", "(II)I"⟩, 22), (⟨"NightjarModel", "alikeNow", "(II)I"⟩, 22), (⟨"NightjarModel", "add", "(I)I"⟩, 22), (⟨"NightjarModel", "tellAll", "()V"⟩, 22), (⟨"NightjarModel", "tellSessions", "()V"⟩, 22), (⟨"NightjarModel", "tellSessions", "(I)I"⟩, 22), (⟨"NightjarModel", "key", "(I)I"⟩, 22), (⟨"NightjarModel", "templateOf", "(I)I"⟩, 22), (⟨"NightjarModel", "tellSpikes", "()V"⟩, 22), (⟨"NightjarModel", "window", "(I)I"⟩, 22), (⟨"NightjarModel", "countNow", "(II)I"⟩, 22), (⟨"NightjarModel", "manyNow", "(I)I"⟩, 22), (⟨"NightjarModel", "isBroken", "(I)Z"⟩, 22), (⟨"NightjarModel", "isLine", "(I)Z"⟩, 22)]
theorem lw_r2 : ∀ q ∈ lw_privs_2, lw_okq q := List.forall_mem_cons.mpr ⟨lw_p16, List.forall_mem_cons.mpr ⟨lw_p17, List.forall_mem_cons.mpr ⟨lw_p18, List.forall_mem_cons.mpr ⟨lw_p19, List.forall_mem_cons.mpr ⟨lw_p20, List.forall_mem_cons.mpr ⟨lw_p21, List.forall_mem_cons.mpr ⟨lw_p22, List.forall_mem_cons.mpr ⟨lw_p23, List.forall_mem_cons.mpr ⟨lw_p24, List.forall_mem_cons.mpr ⟨lw_p25, List.forall_mem_cons.mpr ⟨lw_p26, List.forall_mem_cons.mpr ⟨lw_p27, List.forall_mem_cons.mpr ⟨lw_p28, List.forall_mem_cons.mpr ⟨lw_p29, List.forall_mem_cons.mpr ⟨lw_p30, List.forall_mem_cons.mpr ⟨lw_p31, fun _ h => absurd h List.not_mem_nil⟩⟩⟩⟩⟩⟩⟩⟩⟩⟩⟩⟩⟩⟩⟩⟩
theorem lw_p32 : lw_okq (⟨"NightjarModel", "ofLineNow", "(II)I"⟩, 22) := ⟨⟨by decide +kernel, by decide +kernel⟩, List.mem_of_getElem? (i := 813) (by decide +kernel), List.mem_of_getElem? (i := 988) (by decide +kernel), List.mem_of_getElem? (i := 989) (by decide +kernel)⟩
theorem lw_p33 : lw_okq (⟨"NightjarModel", "sceneNow", "(I)I"⟩, 22) := ⟨⟨by decide +kernel, by decide +kernel⟩, List.mem_of_getElem? (i := 813) (by decide +kernel), List.mem_of_getElem? (i := 992) (by decide +kernel), List.mem_of_getElem? (i := 993) (by decide +kernel)⟩
theorem lw_p34 : lw_okq (⟨"NightjarModel", "isInScene", "(II)Z"⟩, 22) := ⟨⟨by decide +kernel, by decide +kernel⟩, List.mem_of_getElem? (i := 813) (by decide +kernel), List.mem_of_getElem? (i := 996) (by decide +kernel), List.mem_of_getElem? (i := 997) (by decide +kernel)⟩
theorem lw_p35 : lw_okq (⟨"NightjarModel", "isTemplate", "(I)Z"⟩, 22) := ⟨⟨by decide +kernel, by decide +kernel⟩, List.mem_of_getElem? (i := 813) (by decide +kernel), List.mem_of_getElem? (i := 1008) (by decide +kernel), List.mem_of_getElem? (i := 1009) (by decide +kernel)⟩
theorem lw_p36 : lw_okq (⟨"NightjarModel", "ofTemplateNow", "(II)I"⟩, 22) := ⟨⟨by decide +kernel, by decide +kernel⟩, List.mem_of_getElem? (i := 813) (by decide +kernel), List.mem_of_getElem? (i := 1012) (by decide +kernel), List.mem_of_getElem? (i := 1013) (by decide +kernel)⟩
theorem lw_p37 : lw_okq (⟨"NightjarModel", "holes", "(I)I"⟩, 22) := ⟨⟨by decide +kernel, by decide +kernel⟩, List.mem_of_getElem? (i := 813) (by decide +kernel), List.mem_of_getElem? (i := 1016) (by decide +kernel), List.mem_of_getElem? (i := 1017) (by decide +kernel)⟩
theorem lw_p38 : lw_okq (⟨"NightjarModel", "valuesNow", "(II)I"⟩, 22) := ⟨⟨by decide +kernel, by decide +kernel⟩, List.mem_of_getElem? (i := 813) (by decide +kernel), List.mem_of_getElem? (i := 1031) (by decide +kernel), List.mem_of_getElem? (i := 1032) (by decide +kernel)⟩
theorem lw_p39 : lw_okq (⟨"NightjarModel", "placeOf", "(II)I"⟩, 22) := ⟨⟨by decide +kernel, by decide +kernel⟩, List.mem_of_getElem? (i := 813) (by decide +kernel), List.mem_of_getElem? (i := 1035) (by decide +kernel), List.mem_of_getElem? (i := 1036) (by decide +kernel)⟩
theorem lw_p40 : lw_okq (⟨"NightjarModel", "ofSessionNow", "(II)I"⟩, 22) := ⟨⟨by decide +kernel, by decide +kernel⟩, List.mem_of_getElem? (i := 813) (by decide +kernel), List.mem_of_getElem? (i := 1048) (by decide +kernel), List.mem_of_getElem? (i := 1049) (by decide +kernel)⟩
theorem lw_p41 : lw_okq (⟨"NightjarModel", "paths", "(I)I"⟩, 22) := ⟨⟨by decide +kernel, by decide +kernel⟩, List.mem_of_getElem? (i := 813) (by decide +kernel), List.mem_of_getElem? (i := 1052) (by decide +kernel), List.mem_of_getElem? (i := 1053) (by decide +kernel)⟩
theorem lw_p42 : lw_okq (⟨"NightjarModel", "haveOnePath", "(II)Z"⟩, 22) := ⟨⟨by decide +kernel, by decide +kernel⟩, List.mem_of_getElem? (i := 813) (by decide +kernel), List.mem_of_getElem? (i := 1056) (by decide +kernel), List.mem_of_getElem? (i := 1057) (by decide +kernel)⟩
theorem lw_p43 : lw_okq (⟨"NightjarModel", "nextIn", "(II)I"⟩, 22) := ⟨⟨by decide +kernel, by decide +kernel⟩, List.mem_of_getElem? (i := 813) (by decide +kernel), List.mem_of_getElem? (i := 1060) (by decide +kernel), List.mem_of_getElem? (i := 1061) (by decide +kernel)⟩
theorem lw_p44 : lw_okq (⟨"NightjarModel", "usualNow", "()I"⟩, 22) := ⟨⟨by decide +kernel, by decide +kernel⟩, List.mem_of_getElem? (i := 813) (by decide +kernel), List.mem_of_getElem? (i := 1072) (by decide +kernel), List.mem_of_getElem? (i := 1073) (by decide +kernel)⟩
theorem lw_p45 : lw_okq (⟨"NightjarModel", "spikeNow", "(II)I"⟩, 22) := ⟨⟨by decide +kernel, by decide +kernel⟩, List.mem_of_getElem? (i := 813) (by decide +kernel), List.mem_of_getElem? (i := 1088) (by decide +kernel), List.mem_of_getElem? (i := 1089) (by decide +kernel)⟩
theorem lw_p46 : lw_okq (⟨"NightjarModel", "tellCauses", "(I)V"⟩, 22) := ⟨⟨by decide +kernel, by decide +kernel⟩, List.mem_of_getElem? (i := 813) (by decide +kernel), List.mem_of_getElem? (i := 1096) (by decide +kernel), List.mem_of_getElem? (i := 1097) (by decide +kernel)⟩
theorem lw_p47 : lw_okq (⟨"NightjarModel", "lastInScene", "(II)I"⟩, 22) := ⟨⟨by decide +kernel, by decide +kernel⟩, List.mem_of_getElem? (i := 813) (by decide +kernel), List.mem_of_getElem? (i := 1100) (by decide +kernel), List.mem_of_getElem? (i := 1101) (by decide +kernel)⟩
def lw_privs_3 : List (MethodName × Nat) := [(⟨"NightjarModel", "ofLineNow", "(II)I"⟩, 22), (⟨"NightjarModel", "sceneNow", "(I)I"⟩, 22), (⟨"NightjarModel", "isInScene", "(II)Z"⟩, 22), (⟨"NightjarModel", "isTemplate", "(I)Z"⟩, 22), (⟨"NightjarModel", "ofTemplateNow", "(II)I"⟩, 22), (⟨"NightjarModel", "holes", "(I)I"⟩, 22), (⟨"NightjarModel", "valuesNow", "(II)I"⟩, 22), (⟨"NightjarModel", "placeOf", "(II)I"⟩, 22), (⟨"NightjarModel", "ofSessionNow", "(II)I"⟩, 22), (⟨"NightjarModel", "paths", "(I)I"⟩, 22), (⟨"NightjarModel", "haveOnePath", "(II)Z"⟩, 22), (⟨"NightjarModel", "nextIn", "(II)I"⟩, 22), (⟨"NightjarModel", "usualNow", "()I"⟩, 22), (⟨"NightjarModel", "spikeNow", "(II)I"⟩, 22), (⟨"NightjarModel", "tellCauses", "(I)V"⟩, 22), (⟨"NightjarModel", "lastInScene", "(II)I"⟩, 22)]
theorem lw_r3 : ∀ q ∈ lw_privs_3, lw_okq q := List.forall_mem_cons.mpr ⟨lw_p32, List.forall_mem_cons.mpr ⟨lw_p33, List.forall_mem_cons.mpr ⟨lw_p34, List.forall_mem_cons.mpr ⟨lw_p35, List.forall_mem_cons.mpr ⟨lw_p36, List.forall_mem_cons.mpr ⟨lw_p37, List.forall_mem_cons.mpr ⟨lw_p38, List.forall_mem_cons.mpr ⟨lw_p39, List.forall_mem_cons.mpr ⟨lw_p40, List.forall_mem_cons.mpr ⟨lw_p41, List.forall_mem_cons.mpr ⟨lw_p42, List.forall_mem_cons.mpr ⟨lw_p43, List.forall_mem_cons.mpr ⟨lw_p44, List.forall_mem_cons.mpr ⟨lw_p45, List.forall_mem_cons.mpr ⟨lw_p46, List.forall_mem_cons.mpr ⟨lw_p47, fun _ h => absurd h List.not_mem_nil⟩⟩⟩⟩⟩⟩⟩⟩⟩⟩⟩⟩⟩⟩⟩⟩
theorem lw_p48 : lw_okq (⟨"NightjarModel", "put", "(IIII)V"⟩, 22) := ⟨⟨by decide +kernel, by decide +kernel⟩, List.mem_of_getElem? (i := 813) (by decide +kernel), List.mem_of_getElem? (i := 1104) (by decide +kernel), List.mem_of_getElem? (i := 1105) (by decide +kernel)⟩
theorem lw_p49 : lw_okq (⟨"NightjarModel", "becauseNow", "(I)I"⟩, 22) := ⟨⟨by decide +kernel, by decide +kernel⟩, List.mem_of_getElem? (i := 813) (by decide +kernel), List.mem_of_getElem? (i := 1116) (by decide +kernel), List.mem_of_getElem? (i := 1117) (by decide +kernel)⟩
theorem lw_p50 : lw_okq (⟨"NightjarModel", "putBy", "(Z)[[I"⟩, 22) := ⟨⟨by decide +kernel, by decide +kernel⟩, List.mem_of_getElem? (i := 813) (by decide +kernel), List.mem_of_getElem? (i := 1124) (by decide +kernel), List.mem_of_getElem? (i := 1125) (by decide +kernel)⟩
theorem lw_p51 : lw_okq (⟨"NightjarModel", "takeAgain", "([[I)V"⟩, 22) := ⟨⟨by decide +kernel, by decide +kernel⟩, List.mem_of_getElem? (i := 813) (by decide +kernel), List.mem_of_getElem? (i := 1130) (by decide +kernel), List.mem_of_getElem? (i := 1131) (by decide +kernel)⟩
def lw_privs_4 : List (MethodName × Nat) := [(⟨"NightjarModel", "put", "(IIII)V"⟩, 22), (⟨"NightjarModel", "becauseNow", "(I)I"⟩, 22), (⟨"NightjarModel", "putBy", "(Z)[[I"⟩, 22), (⟨"NightjarModel", "takeAgain", "([[I)V"⟩, 22)]
theorem lw_r4 : ∀ q ∈ lw_privs_4, lw_okq q := List.forall_mem_cons.mpr ⟨lw_p48, List.forall_mem_cons.mpr ⟨lw_p49, List.forall_mem_cons.mpr ⟨lw_p50, List.forall_mem_cons.mpr ⟨lw_p51, fun _ h => absurd h List.not_mem_nil⟩⟩⟩⟩
def lw_privs : List (MethodName × Nat) := lw_privs_1 ++ (lw_privs_2 ++ (lw_privs_3 ++ (lw_privs_4)))
def lw_tbl : List Cond := k2_sels lw_privs ++ tables_1
theorem lw_privs_ok : ∀ q ∈ lw_privs, lw_okq q := by
  show ∀ q ∈ lw_privs_1 ++ (lw_privs_2 ++ (lw_privs_3 ++ (lw_privs_4))), lw_okq q
  exact List.forall_mem_append.mpr ⟨lw_r1, List.forall_mem_append.mpr ⟨lw_r2, List.forall_mem_append.mpr ⟨lw_r3, lw_r4⟩⟩⟩
/-- the streams that the claim lets the run draw from -/
abbrev lw_cs : List Choice := [Jvm.Choice.named "NaN.bits"]
theorem lw_bits : nanBits ∈ lw_cs := by first | decide | exact List.mem_cons_self | simp [lw_cs, nanBits]
-- ===== the table =====
def zall_0 : List Jvm.Cond := [Jvm.Cond.fieldLink "Nightjar$Row" (9 : Nat) "Nightjar$Row" "cells" "[I", Jvm.Cond.fieldLink "NightjarModel" (55 : Nat) "NightjarModel" "thrown" "I", Jvm.Cond.methodLink "Nightjar$Row" (3 : Nat) ({ cls := "java/lang/Object", name := "<init>", desc := "()V" } : Jvm.MethodName), Jvm.Cond.instanceMethod ({ cls := "java/lang/Object", name := "<init>", desc := "()V" } : Jvm.MethodName), Jvm.Cond.code ({ cls := "java/lang/Object", name := "<init>", desc := "()V" } : Jvm.MethodName) object_method_1_code (1 : Nat) (Option.none : Option Jvm.ClassFile.FieldType), Jvm.Cond.arrayClass Jvm.ClassFile.FieldType.int, Jvm.Cond.constantLong "Nightjar" (335 : Nat) (31 : Int64), Jvm.Cond.fieldLink "Nightjar$Lines" (29 : Nat) "Nightjar$Lines" "words" "LNightjar$Row;", Jvm.Cond.methodLink "Nightjar$Lines" (46 : Nat) ({ cls := "Nightjar$Row", name := "at", desc := "(I)I" } : Jvm.MethodName), Jvm.Cond.code ({ cls := "Nightjar$Row", name := "at", desc := "(I)I" } : Jvm.MethodName) prog_3_method_2_code (2 : Nat) (Option.some Jvm.ClassFile.FieldType.int), Jvm.Cond.instanceMethod ({ cls := "Nightjar$Row", name := "at", desc := "(I)I" } : Jvm.MethodName), Jvm.Cond.selects "Nightjar$Row" ({ cls := "Nightjar$Row", name := "at", desc := "(I)I" } : Jvm.MethodName) ({ cls := "Nightjar$Row", name := "at", desc := "(I)I" } : Jvm.MethodName), Jvm.Cond.initialized "Nightjar$Row", Jvm.Cond.fieldLink "Nightjar" (19 : Nat) "Nightjar" "templates" "LNightjar$Templates;", Jvm.Cond.fieldLink "Nightjar" (126 : Nat) "Nightjar$Templates" "number" "I", Jvm.Cond.fieldLink "NightjarModel" (66 : Nat) "NightjarModel" "templates" "I", Jvm.Cond.methodLink "NightjarModel" (62 : Nat) ({ cls := "NightjarModel", name := "isIn", desc := "(III)Z" } : Jvm.MethodName), Jvm.Cond.code ({ cls := "NightjarModel", name := "isIn", desc := "(III)Z" } : Jvm.MethodName) prog_9_method_4_code (3 : Nat) (Option.some Jvm.ClassFile.FieldType.boolean), Jvm.Cond.static ({ cls := "NightjarModel", name := "isIn", desc := "(III)Z" } : Jvm.MethodName), Jvm.Cond.initialized "NightjarModel", Jvm.Cond.methodLink "NightjarModel" (96 : Nat) ({ cls := "NightjarModel", name := "templateOf", desc := "(I)I" } : Jvm.MethodName), Jvm.Cond.code ({ cls := "NightjarModel", name := "templateOf", desc := "(I)I" } : Jvm.MethodName) prog_9_method_17_code (2 : Nat) (Option.some Jvm.ClassFile.FieldType.int), Jvm.Cond.instanceMethod ({ cls := "NightjarModel", name := "templateOf", desc := "(I)I" } : Jvm.MethodName), Cond.selects "NightjarModel" ⟨"NightjarModel", "templateOf", "(I)I"⟩ ⟨"NightjarModel", "templateOf", "(I)I"⟩, Jvm.Cond.fieldLink "NightjarModel" (31 : Nat) "NightjarModel" "places" "[I", Jvm.Cond.fieldLink "NightjarModel" (34 : Nat) "NightjarModel" "slot" "[I", Jvm.Cond.fieldLink "NightjarModel" (22 : Nat) "NightjarModel" "word" "[I", Jvm.Cond.fieldLink "NightjarModel" (25 : Nat) "NightjarModel" "setting" "[I", Jvm.Cond.methodLink "NightjarModel" (105 : Nat) ({ cls := "NightjarModel", name := "tellSessions", desc := "(I)I" } : Jvm.MethodName), Jvm.Cond.code ({ cls := "NightjarModel", name := "tellSessions", desc := "(I)I" } : Jvm.MethodName) prog_9_method_19_code (5 : Nat) (Option.some Jvm.ClassFile.FieldType.int), Jvm.Cond.instanceMethod ({ cls := "NightjarModel", name := "tellSessions", desc := "(I)I" } : Jvm.MethodName), Cond.selects "NightjarModel" ⟨"NightjarModel", "tellSessions", "(I)I"⟩ ⟨"NightjarModel", "tellSessions", "(I)I"⟩, Jvm.Cond.fieldLink "Nightjar$Templates" (20 : Nat) "Nightjar$Templates" "slots" "LNightjar$Row;", Jvm.Cond.methodLink "Nightjar$Templates" (23 : Nat) ({ cls := "Nightjar$Row", name := "at", desc := "(I)I" } : Jvm.MethodName), Jvm.Cond.fieldLink "Nightjar" (12 : Nat) "Nightjar" "lines" "LNightjar$Lines;", Jvm.Cond.fieldLink "Nightjar" (71 : Nat) "Nightjar$Lines" "number" "I", Jvm.Cond.fieldLink "NightjarModel" (59 : Nat) "NightjarModel" "lines" "I", Jvm.Cond.fieldLink "NightjarModel" (73 : Nat) "NightjarModel" "learned" "I", Jvm.Cond.fieldLink "NightjarModel" (28 : Nat) "NightjarModel" "of" "[I", Jvm.Cond.methodLink "NightjarModel" (108 : Nat) ({ cls := "NightjarModel", name := "window", desc := "(I)I" } : Jvm.MethodName), Jvm.Cond.code ({ cls := "NightjarModel", name := "window", desc := "(I)I" } : Jvm.MethodName) prog_9_method_22_code (2 : Nat) (Option.some Jvm.ClassFile.FieldType.int), Jvm.Cond.instanceMethod ({ cls := "NightjarModel", name := "window", desc := "(I)I" } : Jvm.MethodName), Cond.selects "NightjarModel" ⟨"NightjarModel", "window", "(I)I"⟩ ⟨"NightjarModel", "window", "(I)I"⟩, Jvm.Cond.fieldLink "Nightjar$Scenes" (35 : Nat) "Nightjar$Scenes" "ranking" "LNightjar$Row;", Jvm.Cond.methodLink "Nightjar$Scenes" (74 : Nat) ({ cls := "Nightjar$Scenes", name := "pair", desc := "(II)I" } : Jvm.MethodName), Jvm.Cond.code ({ cls := "Nightjar$Scenes", name := "pair", desc := "(II)I" } : Jvm.MethodName) prog_4_method_4_code (2 : Nat) (Option.some Jvm.ClassFile.FieldType.int), Jvm.Cond.static ({ cls := "Nightjar$Scenes", name := "pair", desc := "(II)I" } : Jvm.MethodName), Jvm.Cond.initialized "Nightjar$Scenes", Jvm.Cond.methodLink "Nightjar$Scenes" (54 : Nat) ({ cls := "Nightjar$Row", name := "at", desc := "(I)I" } : Jvm.MethodName), Jvm.Cond.methodLink "Nightjar" (337 : Nat) ({ cls := "Nightjar$Lines", name := "findKeys", desc := "(LNightjar$Templates;)V" } : Jvm.MethodName), Jvm.Cond.code ({ cls := "Nightjar$Lines", name := "findKeys", desc := "(LNightjar$Templates;)V" } : Jvm.MethodName) prog_2_method_6_code (4 : Nat) (Option.none : Option Jvm.ClassFile.FieldType), Jvm.Cond.instanceMethod ({ cls := "Nightjar$Lines", name := "findKeys", desc := "(LNightjar$Templates;)V" } : Jvm.MethodName), Jvm.Cond.selects "Nightjar$Lines" ({ cls := "Nightjar$Lines", name := "findKeys", desc := "(LNightjar$Templates;)V" } : Jvm.MethodName) ({ cls := "Nightjar$Lines", name := "findKeys", desc := "(LNightjar$Templates;)V" } : Jvm.MethodName), Jvm.Cond.initialized "Nightjar$Lines", Jvm.Cond.fieldLink "Nightjar" (29 : Nat) "Nightjar" "sessions" "LNightjar$Sessions;", Jvm.Cond.fieldLink "Nightjar" (52 : Nat) "Nightjar" "settings" "LNightjar$Row;", Jvm.Cond.methodLink "Nightjar" (83 : Nat) ({ cls := "Nightjar$Row", name := "at", desc := "(I)I" } : Jvm.MethodName), Jvm.Cond.methodLink "Nightjar" (341 : Nat) ({ cls := "Nightjar$Sessions", name := "find", desc := "(LNightjar$Lines;I)V" } : Jvm.MethodName), Jvm.Cond.code ({ cls := "Nightjar$Sessions", name := "find", desc := "(LNightjar$Lines;I)V" } : Jvm.MethodName) prog_5_method_2_code (6 : Nat) (Option.none : Option Jvm.ClassFile.FieldType), Jvm.Cond.instanceMethod ({ cls := "Nightjar$Sessions", name := "find", desc := "(LNightjar$Lines;I)V" } : Jvm.MethodName)]
def zall_1 : List Jvm.Cond := [Jvm.Cond.selects "Nightjar$Sessions" ({ cls := "Nightjar$Sessions", name := "find", desc := "(LNightjar$Lines;I)V" } : Jvm.MethodName) ({ cls := "Nightjar$Sessions", name := "find", desc := "(LNightjar$Lines;I)V" } : Jvm.MethodName), Jvm.Cond.initialized "Nightjar$Sessions", Jvm.Cond.methodLink "Nightjar" (345 : Nat) ({ cls := "Nightjar$Sessions", name := "comparePaths", desc := "(LNightjar$Lines;)V" } : Jvm.MethodName), Jvm.Cond.code ({ cls := "Nightjar$Sessions", name := "comparePaths", desc := "(LNightjar$Lines;)V" } : Jvm.MethodName) prog_5_method_5_code (4 : Nat) (Option.none : Option Jvm.ClassFile.FieldType), Jvm.Cond.instanceMethod ({ cls := "Nightjar$Sessions", name := "comparePaths", desc := "(LNightjar$Lines;)V" } : Jvm.MethodName), Jvm.Cond.selects "Nightjar$Sessions" ({ cls := "Nightjar$Sessions", name := "comparePaths", desc := "(LNightjar$Lines;)V" } : Jvm.MethodName) ({ cls := "Nightjar$Sessions", name := "comparePaths", desc := "(LNightjar$Lines;)V" } : Jvm.MethodName), Jvm.Cond.fieldLink "Nightjar" (36 : Nat) "Nightjar" "spikes" "LNightjar$Spikes;", Jvm.Cond.methodLink "Nightjar" (349 : Nat) ({ cls := "Nightjar$Spikes", name := "find", desc := "(LNightjar$Lines;II)V" } : Jvm.MethodName), Jvm.Cond.code ({ cls := "Nightjar$Spikes", name := "find", desc := "(LNightjar$Lines;II)V" } : Jvm.MethodName) prog_6_method_2_code (6 : Nat) (Option.none : Option Jvm.ClassFile.FieldType), Jvm.Cond.instanceMethod ({ cls := "Nightjar$Spikes", name := "find", desc := "(LNightjar$Lines;II)V" } : Jvm.MethodName), Jvm.Cond.selects "Nightjar$Spikes" ({ cls := "Nightjar$Spikes", name := "find", desc := "(LNightjar$Lines;II)V" } : Jvm.MethodName) ({ cls := "Nightjar$Spikes", name := "find", desc := "(LNightjar$Lines;II)V" } : Jvm.MethodName), Jvm.Cond.initialized "Nightjar$Spikes", Jvm.Cond.fieldLink "Nightjar" (43 : Nat) "Nightjar" "scenes" "LNightjar$Scenes;", Jvm.Cond.methodLink "Nightjar" (352 : Nat) ({ cls := "Nightjar$Scenes", name := "look", desc := "(LNightjar$Lines;I)V" } : Jvm.MethodName), Jvm.Cond.code ({ cls := "Nightjar$Scenes", name := "look", desc := "(LNightjar$Lines;I)V" } : Jvm.MethodName) prog_4_method_2_code (7 : Nat) (Option.none : Option Jvm.ClassFile.FieldType), Jvm.Cond.instanceMethod ({ cls := "Nightjar$Scenes", name := "look", desc := "(LNightjar$Lines;I)V" } : Jvm.MethodName), Jvm.Cond.selects "Nightjar$Scenes" ({ cls := "Nightjar$Scenes", name := "look", desc := "(LNightjar$Lines;I)V" } : Jvm.MethodName) ({ cls := "Nightjar$Scenes", name := "look", desc := "(LNightjar$Lines;I)V" } : Jvm.MethodName), Jvm.Cond.methodLink "Nightjar" (355 : Nat) ({ cls := "Nightjar$Scenes", name := "tally", desc := "(LNightjar$Lines;I)V" } : Jvm.MethodName), Jvm.Cond.code ({ cls := "Nightjar$Scenes", name := "tally", desc := "(LNightjar$Lines;I)V" } : Jvm.MethodName) prog_4_method_5_code (6 : Nat) (Option.none : Option Jvm.ClassFile.FieldType), Jvm.Cond.instanceMethod ({ cls := "Nightjar$Scenes", name := "tally", desc := "(LNightjar$Lines;I)V" } : Jvm.MethodName), Jvm.Cond.selects "Nightjar$Scenes" ({ cls := "Nightjar$Scenes", name := "tally", desc := "(LNightjar$Lines;I)V" } : Jvm.MethodName) ({ cls := "Nightjar$Scenes", name := "tally", desc := "(LNightjar$Lines;I)V" } : Jvm.MethodName), Jvm.Cond.fieldLink "Nightjar" (101 : Nat) "Nightjar$Lines" "learned" "I", Jvm.Cond.methodLink "Nightjar" (358 : Nat) ({ cls := "Nightjar$Scenes", name := "rankCauses", desc := "(II)V" } : Jvm.MethodName), Jvm.Cond.code ({ cls := "Nightjar$Scenes", name := "rankCauses", desc := "(II)V" } : Jvm.MethodName) prog_4_method_6_code (7 : Nat) (Option.none : Option Jvm.ClassFile.FieldType), Jvm.Cond.instanceMethod ({ cls := "Nightjar$Scenes", name := "rankCauses", desc := "(II)V" } : Jvm.MethodName), Jvm.Cond.selects "Nightjar$Scenes" ({ cls := "Nightjar$Scenes", name := "rankCauses", desc := "(II)V" } : Jvm.MethodName) ({ cls := "Nightjar$Scenes", name := "rankCauses", desc := "(II)V" } : Jvm.MethodName), Jvm.Cond.fieldLink "NightjarModel" (19 : Nat) "NightjarModel" "many" "[I", Jvm.Cond.fieldLink "NightjarModel" (136 : Nat) "NightjarModel" "causes" "I", Jvm.Cond.methodLink "NightjarModel" (139 : Nat) ({ cls := "NightjarModel", name := "lastInScene", desc := "(II)I" } : Jvm.MethodName), Jvm.Cond.code ({ cls := "NightjarModel", name := "lastInScene", desc := "(II)I" } : Jvm.MethodName) prog_9_method_30_code (4 : Nat) (Option.some Jvm.ClassFile.FieldType.int), Jvm.Cond.instanceMethod ({ cls := "NightjarModel", name := "lastInScene", desc := "(II)I" } : Jvm.MethodName), Cond.selects "NightjarModel" ⟨"NightjarModel", "lastInScene", "(II)I"⟩ ⟨"NightjarModel", "lastInScene", "(II)I"⟩, Jvm.Cond.methodLink "NightjarModel" (142 : Nat) ({ cls := "NightjarModel", name := "put", desc := "(IIII)V" } : Jvm.MethodName), Jvm.Cond.code ({ cls := "NightjarModel", name := "put", desc := "(IIII)V" } : Jvm.MethodName) prog_9_method_32_code (7 : Nat) (Option.none : Option Jvm.ClassFile.FieldType), Jvm.Cond.instanceMethod ({ cls := "NightjarModel", name := "put", desc := "(IIII)V" } : Jvm.MethodName), Cond.selects "NightjarModel" ⟨"NightjarModel", "put", "(IIII)V"⟩ ⟨"NightjarModel", "put", "(IIII)V"⟩, Jvm.Cond.fieldLink "NightjarModel" (37 : Nat) "NightjarModel" "sessionOf" "[I", Jvm.Cond.fieldLink "Nightjar$Scenes" (23 : Nat) "Nightjar$Scenes" "together" "LNightjar$Row;", Jvm.Cond.fieldLink "Nightjar$Sessions" (38 : Nat) "Nightjar$Sessions" "users" "LNightjar$Row;", Jvm.Cond.fieldLink "Nightjar$Sessions" (35 : Nat) "Nightjar$Sessions" "paths" "LNightjar$Row;", Jvm.Cond.methodLink "Nightjar$Sessions" (55 : Nat) ({ cls := "Nightjar$Row", name := "at", desc := "(I)I" } : Jvm.MethodName), Jvm.Cond.methodLink "NightjarModel" (80 : Nat) ({ cls := "NightjarModel", name := "nearest", desc := "(II)I" } : Jvm.MethodName), Jvm.Cond.code ({ cls := "NightjarModel", name := "nearest", desc := "(II)I" } : Jvm.MethodName) prog_9_method_10_code (5 : Nat) (Option.some Jvm.ClassFile.FieldType.int), Jvm.Cond.instanceMethod ({ cls := "NightjarModel", name := "nearest", desc := "(II)I" } : Jvm.MethodName), Cond.selects "NightjarModel" ⟨"NightjarModel", "nearest", "(II)I"⟩ ⟨"NightjarModel", "nearest", "(II)I"⟩, Jvm.Cond.methodLink "NightjarModel" (83 : Nat) ({ cls := "NightjarModel", name := "add", desc := "(I)I" } : Jvm.MethodName), Jvm.Cond.code ({ cls := "NightjarModel", name := "add", desc := "(I)I" } : Jvm.MethodName) prog_9_method_12_code (2 : Nat) (Option.some Jvm.ClassFile.FieldType.int), Jvm.Cond.instanceMethod ({ cls := "NightjarModel", name := "add", desc := "(I)I" } : Jvm.MethodName), Cond.selects "NightjarModel" ⟨"NightjarModel", "add", "(I)I"⟩ ⟨"NightjarModel", "add", "(I)I"⟩, Jvm.Cond.fieldLink "NightjarModel" (9 : Nat) "NightjarModel" "time" "[I", Jvm.Cond.methodLink "NightjarModel" (132 : Nat) ({ cls := "NightjarModel", name := "isInScene", desc := "(II)Z" } : Jvm.MethodName), Jvm.Cond.code ({ cls := "NightjarModel", name := "isInScene", desc := "(II)Z" } : Jvm.MethodName) prog_9_method_28_code (3 : Nat) (Option.some Jvm.ClassFile.FieldType.boolean), Jvm.Cond.instanceMethod ({ cls := "NightjarModel", name := "isInScene", desc := "(II)Z" } : Jvm.MethodName), Cond.selects "NightjarModel" ⟨"NightjarModel", "isInScene", "(II)Z"⟩ ⟨"NightjarModel", "isInScene", "(II)Z"⟩, Jvm.Cond.fieldLink "Nightjar$Lines" (50 : Nat) "Nightjar$Lines" "learned" "I", Jvm.Cond.fieldLink "Nightjar$Lines" (14 : Nat) "Nightjar$Lines" "times" "LNightjar$Row;", Jvm.Cond.code ({ cls := "Nightjar", name := "quotient", desc := "(II)I" } : Jvm.MethodName) prog_1_method_34_code (2 : Nat) (Option.some Jvm.ClassFile.FieldType.int), Jvm.Cond.static ({ cls := "Nightjar", name := "quotient", desc := "(II)I" } : Jvm.MethodName), Jvm.Cond.initialized "Nightjar", Jvm.Cond.fieldLink "Nightjar$Lines" (32 : Nat) "Nightjar$Lines" "templateOf" "LNightjar$Row;"]
def zall_2 : List Jvm.Cond := [Jvm.Cond.fieldLink "Nightjar$Lines" (35 : Nat) "Nightjar$Lines" "keys" "LNightjar$Row;", Jvm.Cond.fieldLink "Nightjar$Lines" (20 : Nat) "Nightjar$Lines" "sources" "LNightjar$Row;", Jvm.Cond.fieldLink "Nightjar$Scenes" (26 : Nat) "Nightjar$Scenes" "all" "LNightjar$Row;", Jvm.Cond.methodLink "Nightjar$Scenes" (78 : Nat) ({ cls := "Nightjar$Scenes", name := "hits", desc := "(II)I" } : Jvm.MethodName), Jvm.Cond.code ({ cls := "Nightjar$Scenes", name := "hits", desc := "(II)I" } : Jvm.MethodName) prog_4_method_9_code (3 : Nat) (Option.some Jvm.ClassFile.FieldType.int), Jvm.Cond.instanceMethod ({ cls := "Nightjar$Scenes", name := "hits", desc := "(II)I" } : Jvm.MethodName), Jvm.Cond.selects "Nightjar$Scenes" ({ cls := "Nightjar$Scenes", name := "hits", desc := "(II)I" } : Jvm.MethodName) ({ cls := "Nightjar$Scenes", name := "hits", desc := "(II)I" } : Jvm.MethodName), Jvm.Cond.fieldLink "Nightjar$Scenes" (32 : Nat) "Nightjar$Scenes" "scores" "LNightjar$Row;", Jvm.Cond.methodLink "Nightjar$Templates" (3 : Nat) ({ cls := "java/lang/Object", name := "<init>", desc := "()V" } : Jvm.MethodName), Jvm.Cond.classLink "Nightjar$Templates" (9 : Nat) "Nightjar$Row", Jvm.Cond.instantiable "Nightjar$Row" (1 : Nat), Jvm.Cond.methodLink "Nightjar$Templates" (11 : Nat) ({ cls := "Nightjar$Row", name := "<init>", desc := "(I)V" } : Jvm.MethodName), Jvm.Cond.code ({ cls := "Nightjar$Row", name := "<init>", desc := "(I)V" } : Jvm.MethodName) prog_3_method_1_code (2 : Nat) (Option.none : Option Jvm.ClassFile.FieldType), Jvm.Cond.instanceMethod ({ cls := "Nightjar$Row", name := "<init>", desc := "(I)V" } : Jvm.MethodName), Jvm.Cond.fieldLink "Nightjar$Templates" (14 : Nat) "Nightjar$Templates" "sizes" "LNightjar$Row;", Jvm.Cond.methodLink "Nightjar$Templates" (27 : Nat) ({ cls := "Nightjar$Templates", name := "slotIn", desc := "(II)I" } : Jvm.MethodName), Jvm.Cond.code ({ cls := "Nightjar$Templates", name := "slotIn", desc := "(II)I" } : Jvm.MethodName) prog_7_method_2_code (3 : Nat) (Option.some Jvm.ClassFile.FieldType.int), Jvm.Cond.instanceMethod ({ cls := "Nightjar$Templates", name := "slotIn", desc := "(II)I" } : Jvm.MethodName), Jvm.Cond.selects "Nightjar$Templates" ({ cls := "Nightjar$Templates", name := "slotIn", desc := "(II)I" } : Jvm.MethodName) ({ cls := "Nightjar$Templates", name := "slotIn", desc := "(II)I" } : Jvm.MethodName), Jvm.Cond.initialized "Nightjar$Templates", Jvm.Cond.fieldLink "Nightjar$Templates" (31 : Nat) "Nightjar$Lines" "sizes" "LNightjar$Row;", Jvm.Cond.methodLink "Nightjar$Templates" (34 : Nat) ({ cls := "Nightjar$Lines", name := "wordIn", desc := "(II)I" } : Jvm.MethodName), Jvm.Cond.code ({ cls := "Nightjar$Lines", name := "wordIn", desc := "(II)I" } : Jvm.MethodName) prog_2_method_5_code (3 : Nat) (Option.some Jvm.ClassFile.FieldType.int), Jvm.Cond.instanceMethod ({ cls := "Nightjar$Lines", name := "wordIn", desc := "(II)I" } : Jvm.MethodName), Jvm.Cond.selects "Nightjar$Lines" ({ cls := "Nightjar$Lines", name := "wordIn", desc := "(II)I" } : Jvm.MethodName) ({ cls := "Nightjar$Lines", name := "wordIn", desc := "(II)I" } : Jvm.MethodName), Jvm.Cond.fieldLink "Nightjar$Templates" (37 : Nat) "Nightjar$Templates" "number" "I", Jvm.Cond.methodLink "Nightjar$Templates" (41 : Nat) ({ cls := "Nightjar$Templates", name := "likeness", desc := "(LNightjar$Lines;II)I" } : Jvm.MethodName), Jvm.Cond.code ({ cls := "Nightjar$Templates", name := "likeness", desc := "(LNightjar$Lines;II)I" } : Jvm.MethodName) prog_7_method_5_code (7 : Nat) (Option.some Jvm.ClassFile.FieldType.int), Jvm.Cond.instanceMethod ({ cls := "Nightjar$Templates", name := "likeness", desc := "(LNightjar$Lines;II)I" } : Jvm.MethodName), Jvm.Cond.selects "Nightjar$Templates" ({ cls := "Nightjar$Templates", name := "likeness", desc := "(LNightjar$Lines;II)I" } : Jvm.MethodName) ({ cls := "Nightjar$Templates", name := "likeness", desc := "(LNightjar$Lines;II)I" } : Jvm.MethodName), Jvm.Cond.methodLink "Nightjar$Templates" (45 : Nat) ({ cls := "Nightjar$Templates", name := "choose", desc := "(LNightjar$Lines;II)I" } : Jvm.MethodName), Jvm.Cond.code ({ cls := "Nightjar$Templates", name := "choose", desc := "(LNightjar$Lines;II)I" } : Jvm.MethodName) prog_7_method_6_code (8 : Nat) (Option.some Jvm.ClassFile.FieldType.int), Jvm.Cond.instanceMethod ({ cls := "Nightjar$Templates", name := "choose", desc := "(LNightjar$Lines;II)I" } : Jvm.MethodName), Jvm.Cond.selects "Nightjar$Templates" ({ cls := "Nightjar$Templates", name := "choose", desc := "(LNightjar$Lines;II)I" } : Jvm.MethodName) ({ cls := "Nightjar$Templates", name := "choose", desc := "(LNightjar$Lines;II)I" } : Jvm.MethodName), Jvm.Cond.methodLink "Nightjar$Templates" (48 : Nat) ({ cls := "Nightjar$Templates", name := "copy", desc := "(LNightjar$Lines;I)V" } : Jvm.MethodName), Jvm.Cond.code ({ cls := "Nightjar$Templates", name := "copy", desc := "(LNightjar$Lines;I)V" } : Jvm.MethodName) prog_7_method_8_code (5 : Nat) (Option.none : Option Jvm.ClassFile.FieldType), Jvm.Cond.instanceMethod ({ cls := "Nightjar$Templates", name := "copy", desc := "(LNightjar$Lines;I)V" } : Jvm.MethodName), Cond.selects "Nightjar$Templates" ⟨"Nightjar$Templates", "copy", "(LNightjar$Lines;I)V"⟩ ⟨"Nightjar$Templates", "copy", "(LNightjar$Lines;I)V"⟩, Jvm.Cond.methodLink "Nightjar$Templates" (52 : Nat) ({ cls := "Nightjar$Templates", name := "widen", desc := "(LNightjar$Lines;II)V" } : Jvm.MethodName), Jvm.Cond.code ({ cls := "Nightjar$Templates", name := "widen", desc := "(LNightjar$Lines;II)V" } : Jvm.MethodName) prog_7_method_9_code (5 : Nat) (Option.none : Option Jvm.ClassFile.FieldType), Jvm.Cond.instanceMethod ({ cls := "Nightjar$Templates", name := "widen", desc := "(LNightjar$Lines;II)V" } : Jvm.MethodName), Cond.selects "Nightjar$Templates" ⟨"Nightjar$Templates", "widen", "(LNightjar$Lines;II)V"⟩ ⟨"Nightjar$Templates", "widen", "(LNightjar$Lines;II)V"⟩, Jvm.Cond.fieldLink "Nightjar" (129 : Nat) "Nightjar$Sessions" "number" "I", Jvm.Cond.fieldLink "NightjarModel" (99 : Nat) "NightjarModel" "sessions" "I", Jvm.Cond.methodLink "NightjarModel" (102 : Nat) ({ cls := "NightjarModel", name := "key", desc := "(I)I" } : Jvm.MethodName), Jvm.Cond.code ({ cls := "NightjarModel", name := "key", desc := "(I)I" } : Jvm.MethodName) prog_9_method_18_code (4 : Nat) (Option.some Jvm.ClassFile.FieldType.int), Jvm.Cond.instanceMethod ({ cls := "NightjarModel", name := "key", desc := "(I)I" } : Jvm.MethodName), Cond.selects "NightjarModel" ⟨"NightjarModel", "key", "(I)I"⟩ ⟨"NightjarModel", "key", "(I)I"⟩, Jvm.Cond.fieldLink "NightjarModel" (40 : Nat) "NightjarModel" "first" "[I", Jvm.Cond.fieldLink "NightjarModel" (43 : Nat) "NightjarModel" "last" "[I", Jvm.Cond.fieldLink "NightjarModel" (111 : Nat) "NightjarModel" "spikes" "I", Jvm.Cond.methodLink "NightjarModel" (114 : Nat) ({ cls := "NightjarModel", name := "countNow", desc := "(II)I" } : Jvm.MethodName), Jvm.Cond.code ({ cls := "NightjarModel", name := "countNow", desc := "(II)I" } : Jvm.MethodName) prog_9_method_23_code (5 : Nat) (Option.some Jvm.ClassFile.FieldType.int), Jvm.Cond.instanceMethod ({ cls := "NightjarModel", name := "countNow", desc := "(II)I" } : Jvm.MethodName), Cond.selects "NightjarModel" ⟨"NightjarModel", "countNow", "(II)I"⟩ ⟨"NightjarModel", "countNow", "(II)I"⟩, Jvm.Cond.fieldLink "NightjarModel" (46 : Nat) "NightjarModel" "spikeWindow" "[I", Jvm.Cond.fieldLink "NightjarModel" (49 : Nat) "NightjarModel" "spikeTemplate" "[I", Jvm.Cond.methodLink "NightjarModel" (117 : Nat) ({ cls := "NightjarModel", name := "isBroken", desc := "(I)Z" } : Jvm.MethodName), Jvm.Cond.code ({ cls := "NightjarModel", name := "isBroken", desc := "(I)Z" } : Jvm.MethodName) prog_9_method_21_code (3 : Nat) (Option.some Jvm.ClassFile.FieldType.boolean), Jvm.Cond.instanceMethod ({ cls := "NightjarModel", name := "isBroken", desc := "(I)Z" } : Jvm.MethodName)]
def zall_3 : List Jvm.Cond := [Cond.selects "NightjarModel" ⟨"NightjarModel", "isBroken", "(I)Z"⟩ ⟨"NightjarModel", "isBroken", "(I)Z"⟩, Jvm.Cond.methodLink "NightjarModel" (121 : Nat) ({ cls := "NightjarModel", name := "tellSessions", desc := "()V" } : Jvm.MethodName), Jvm.Cond.code ({ cls := "NightjarModel", name := "tellSessions", desc := "()V" } : Jvm.MethodName) prog_9_method_20_code (1 : Nat) (Option.none : Option Jvm.ClassFile.FieldType), Jvm.Cond.instanceMethod ({ cls := "NightjarModel", name := "tellSessions", desc := "()V" } : Jvm.MethodName), Cond.selects "NightjarModel" ⟨"NightjarModel", "tellSessions", "()V"⟩ ⟨"NightjarModel", "tellSessions", "()V"⟩, Jvm.Cond.methodLink "NightjarModel" (123 : Nat) ({ cls := "NightjarModel", name := "tellSpikes", desc := "()V" } : Jvm.MethodName), Jvm.Cond.code ({ cls := "NightjarModel", name := "tellSpikes", desc := "()V" } : Jvm.MethodName) prog_9_method_24_code (7 : Nat) (Option.none : Option Jvm.ClassFile.FieldType), Jvm.Cond.instanceMethod ({ cls := "NightjarModel", name := "tellSpikes", desc := "()V" } : Jvm.MethodName), Cond.selects "NightjarModel" ⟨"NightjarModel", "tellSpikes", "()V"⟩ ⟨"NightjarModel", "tellSpikes", "()V"⟩, Jvm.Cond.fieldLink "NightjarModel" (13 : Nat) "NightjarModel" "source" "[I", Jvm.Cond.methodLink "NightjarModel" (146 : Nat) ({ cls := "NightjarModel", name := "tellCauses", desc := "(I)V" } : Jvm.MethodName), Jvm.Cond.code ({ cls := "NightjarModel", name := "tellCauses", desc := "(I)V" } : Jvm.MethodName) prog_9_method_31_code (7 : Nat) (Option.none : Option Jvm.ClassFile.FieldType), Jvm.Cond.instanceMethod ({ cls := "NightjarModel", name := "tellCauses", desc := "(I)V" } : Jvm.MethodName), Cond.selects "NightjarModel" ⟨"NightjarModel", "tellCauses", "(I)V"⟩ ⟨"NightjarModel", "tellCauses", "(I)V"⟩, Jvm.Cond.fieldLink "NightjarModel" (52 : Nat) "NightjarModel" "cause" "[I", Jvm.Cond.fieldLink "NightjarModel" (16 : Nat) "NightjarModel" "level" "[I", Jvm.Cond.methodLink "NightjarModel" (150 : Nat) ({ cls := "NightjarModel", name := "sceneNow", desc := "(I)I" } : Jvm.MethodName), Jvm.Cond.code ({ cls := "NightjarModel", name := "sceneNow", desc := "(I)I" } : Jvm.MethodName) prog_9_method_29_code (4 : Nat) (Option.some Jvm.ClassFile.FieldType.int), Jvm.Cond.instanceMethod ({ cls := "NightjarModel", name := "sceneNow", desc := "(I)I" } : Jvm.MethodName), Cond.selects "NightjarModel" ⟨"NightjarModel", "sceneNow", "(I)I"⟩ ⟨"NightjarModel", "sceneNow", "(I)I"⟩, Jvm.Cond.methodLink "NightjarModel" (159 : Nat) ({ cls := "NightjarModel", name := "holes", desc := "(I)I" } : Jvm.MethodName), Jvm.Cond.code ({ cls := "NightjarModel", name := "holes", desc := "(I)I" } : Jvm.MethodName) prog_9_method_13_code (4 : Nat) (Option.some Jvm.ClassFile.FieldType.int), Jvm.Cond.instanceMethod ({ cls := "NightjarModel", name := "holes", desc := "(I)I" } : Jvm.MethodName), Cond.selects "NightjarModel" ⟨"NightjarModel", "holes", "(I)I"⟩ ⟨"NightjarModel", "holes", "(I)I"⟩, Jvm.Cond.methodLink "NightjarModel" (162 : Nat) ({ cls := "java/lang/Math", name := "max", desc := "(II)I" } : Jvm.MethodName), Jvm.Cond.static ({ cls := "java/lang/Math", name := "max", desc := "(II)I" } : Jvm.MethodName), Jvm.Cond.initialized "java/lang/Math", Jvm.Cond.code ({ cls := "java/lang/Math", name := "max", desc := "(II)I" } : Jvm.MethodName) prog_15_method_65_code (2 : Nat) (Option.some Jvm.ClassFile.FieldType.int), Jvm.Cond.methodLink "NightjarModel" (173 : Nat) ({ cls := "NightjarModel", name := "placeOf", desc := "(II)I" } : Jvm.MethodName), Jvm.Cond.code ({ cls := "NightjarModel", name := "placeOf", desc := "(II)I" } : Jvm.MethodName) prog_9_method_40_code (5 : Nat) (Option.some Jvm.ClassFile.FieldType.int), Jvm.Cond.instanceMethod ({ cls := "NightjarModel", name := "placeOf", desc := "(II)I" } : Jvm.MethodName), Cond.selects "NightjarModel" ⟨"NightjarModel", "placeOf", "(II)I"⟩ ⟨"NightjarModel", "placeOf", "(II)I"⟩, Jvm.Cond.arrayClass Jvm.ClassFile.FieldType.boolean, Jvm.Cond.methodLink "NightjarModel" (182 : Nat) ({ cls := "NightjarModel", name := "haveOnePath", desc := "(II)Z" } : Jvm.MethodName), Jvm.Cond.code ({ cls := "NightjarModel", name := "haveOnePath", desc := "(II)Z" } : Jvm.MethodName) prog_9_method_44_code (5 : Nat) (Option.some Jvm.ClassFile.FieldType.boolean), Jvm.Cond.instanceMethod ({ cls := "NightjarModel", name := "haveOnePath", desc := "(II)Z" } : Jvm.MethodName), Cond.selects "NightjarModel" ⟨"NightjarModel", "haveOnePath", "(II)Z"⟩ ⟨"NightjarModel", "haveOnePath", "(II)Z"⟩, Jvm.Cond.methodLink "NightjarModel" (185 : Nat) ({ cls := "NightjarModel", name := "paths", desc := "(I)I" } : Jvm.MethodName), Jvm.Cond.code ({ cls := "NightjarModel", name := "paths", desc := "(I)I" } : Jvm.MethodName) prog_9_method_46_code (4 : Nat) (Option.some Jvm.ClassFile.FieldType.int), Jvm.Cond.instanceMethod ({ cls := "NightjarModel", name := "paths", desc := "(I)I" } : Jvm.MethodName), Cond.selects "NightjarModel" ⟨"NightjarModel", "paths", "(I)I"⟩ ⟨"NightjarModel", "paths", "(I)I"⟩, Jvm.Cond.classLink "NightjarModel" (201 : Nat) "[I", Jvm.Cond.methodLink "NightjarModel" (86 : Nat) ({ cls := "java/lang/System", name := "arraycopy", desc := "(Ljava/lang/Object;ILjava/lang/Object;II)V" } : Jvm.MethodName), Jvm.Cond.native ({ cls := "java/lang/System", name := "arraycopy", desc := "(Ljava/lang/Object;ILjava/lang/Object;II)V" } : Jvm.MethodName), Jvm.Cond.static ({ cls := "java/lang/System", name := "arraycopy", desc := "(Ljava/lang/Object;ILjava/lang/Object;II)V" } : Jvm.MethodName), Jvm.Cond.initialized "java/lang/System", Jvm.Cond.methodLink "Nightjar$Lines" (3 : Nat) ({ cls := "java/lang/Object", name := "<init>", desc := "()V" } : Jvm.MethodName), Jvm.Cond.classLink "Nightjar$Lines" (9 : Nat) "Nightjar$Row", Jvm.Cond.methodLink "Nightjar$Lines" (11 : Nat) ({ cls := "Nightjar$Row", name := "<init>", desc := "(I)V" } : Jvm.MethodName), Jvm.Cond.fieldLink "Nightjar$Lines" (23 : Nat) "Nightjar$Lines" "levels" "LNightjar$Row;", Jvm.Cond.fieldLink "Nightjar$Lines" (26 : Nat) "Nightjar$Lines" "sizes" "LNightjar$Row;", Jvm.Cond.fieldLink "Nightjar$Lines" (38 : Nat) "Nightjar$Lines" "number" "I", Jvm.Cond.methodLink "Nightjar$Lines" (42 : Nat) ({ cls := "Nightjar$Row", name := "put", desc := "(II)V" } : Jvm.MethodName), Jvm.Cond.code ({ cls := "Nightjar$Row", name := "put", desc := "(II)V" } : Jvm.MethodName) prog_3_method_3_code (3 : Nat) (Option.none : Option Jvm.ClassFile.FieldType), Jvm.Cond.instanceMethod ({ cls := "Nightjar$Row", name := "put", desc := "(II)V" } : Jvm.MethodName), Jvm.Cond.selects "Nightjar$Row" ({ cls := "Nightjar$Row", name := "put", desc := "(II)V" } : Jvm.MethodName) ({ cls := "Nightjar$Row", name := "put", desc := "(II)V" } : Jvm.MethodName), Jvm.Cond.methodLink "Nightjar$Lines" (53 : Nat) ({ cls := "Nightjar$Templates", name := "placeOfHole", desc := "(II)I" } : Jvm.MethodName), Jvm.Cond.code ({ cls := "Nightjar$Templates", name := "placeOfHole", desc := "(II)I" } : Jvm.MethodName) prog_7_method_4_code (5 : Nat) (Option.some Jvm.ClassFile.FieldType.int), Jvm.Cond.instanceMethod ({ cls := "Nightjar$Templates", name := "placeOfHole", desc := "(II)I" } : Jvm.MethodName), Jvm.Cond.selects "Nightjar$Templates" ({ cls := "Nightjar$Templates", name := "placeOfHole", desc := "(II)I" } : Jvm.MethodName) ({ cls := "Nightjar$Templates", name := "placeOfHole", desc := "(II)I" } : Jvm.MethodName)]
def zall_4 : List Jvm.Cond := [Jvm.Cond.methodLink "Nightjar$Lines" (59 : Nat) ({ cls := "Nightjar$Lines", name := "wordIn", desc := "(II)I" } : Jvm.MethodName), Jvm.Cond.methodLink "Nightjar$Lines" (62 : Nat) ({ cls := "Nightjar$Lines", name := "isNewWord", desc := "(II)Z" } : Jvm.MethodName), Jvm.Cond.code ({ cls := "Nightjar$Lines", name := "isNewWord", desc := "(II)Z" } : Jvm.MethodName) prog_2_method_11_code (4 : Nat) (Option.some Jvm.ClassFile.FieldType.boolean), Jvm.Cond.instanceMethod ({ cls := "Nightjar$Lines", name := "isNewWord", desc := "(II)Z" } : Jvm.MethodName), Cond.selects "Nightjar$Lines" ⟨"Nightjar$Lines", "isNewWord", "(II)Z"⟩ ⟨"Nightjar$Lines", "isNewWord", "(II)Z"⟩, Jvm.Cond.methodLink "Nightjar$Scenes" (3 : Nat) ({ cls := "java/lang/Object", name := "<init>", desc := "()V" } : Jvm.MethodName), Jvm.Cond.classLink "Nightjar$Scenes" (9 : Nat) "Nightjar$Row", Jvm.Cond.methodLink "Nightjar$Scenes" (11 : Nat) ({ cls := "Nightjar$Row", name := "<init>", desc := "(I)V" } : Jvm.MethodName), Jvm.Cond.fieldLink "Nightjar$Scenes" (14 : Nat) "Nightjar$Scenes" "sizes" "LNightjar$Row;", Jvm.Cond.fieldLink "Nightjar$Scenes" (20 : Nat) "Nightjar$Scenes" "masks" "LNightjar$Row;", Jvm.Cond.fieldLink "Nightjar$Scenes" (29 : Nat) "Nightjar$Scenes" "lineNumbers" "LNightjar$Row;", Jvm.Cond.fieldLink "Nightjar$Scenes" (38 : Nat) "Nightjar$Scenes" "causeNumbers" "LNightjar$Row;", Jvm.Cond.fieldLink "Nightjar$Scenes" (41 : Nat) "Nightjar$Lines" "number" "I", Jvm.Cond.methodLink "Nightjar$Scenes" (47 : Nat) ({ cls := "Nightjar$Lines", name := "isInScene", desc := "(III)Z" } : Jvm.MethodName), Jvm.Cond.code ({ cls := "Nightjar$Lines", name := "isInScene", desc := "(III)Z" } : Jvm.MethodName) prog_2_method_14_code (5 : Nat) (Option.some Jvm.ClassFile.FieldType.boolean), Jvm.Cond.instanceMethod ({ cls := "Nightjar$Lines", name := "isInScene", desc := "(III)Z" } : Jvm.MethodName), Jvm.Cond.selects "Nightjar$Lines" ({ cls := "Nightjar$Lines", name := "isInScene", desc := "(III)Z" } : Jvm.MethodName) ({ cls := "Nightjar$Lines", name := "isInScene", desc := "(III)Z" } : Jvm.MethodName), Jvm.Cond.fieldLink "Nightjar$Scenes" (51 : Nat) "Nightjar$Lines" "templateOf" "LNightjar$Row;", Jvm.Cond.methodLink "Nightjar$Scenes" (58 : Nat) ({ cls := "Nightjar$Scenes", name := "bitOf", desc := "(I)I" } : Jvm.MethodName), Jvm.Cond.code ({ cls := "Nightjar$Scenes", name := "bitOf", desc := "(I)I" } : Jvm.MethodName) prog_4_method_3_code (1 : Nat) (Option.some Jvm.ClassFile.FieldType.int), Jvm.Cond.static ({ cls := "Nightjar$Scenes", name := "bitOf", desc := "(I)I" } : Jvm.MethodName), Jvm.Cond.methodLink "Nightjar$Scenes" (61 : Nat) ({ cls := "Nightjar$Row", name := "put", desc := "(II)V" } : Jvm.MethodName), Jvm.Cond.methodLink "Nightjar$Scenes" (65 : Nat) ({ cls := "Nightjar$Row", name := "clear", desc := "()V" } : Jvm.MethodName), Jvm.Cond.code ({ cls := "Nightjar$Row", name := "clear", desc := "()V" } : Jvm.MethodName) prog_3_method_5_code (2 : Nat) (Option.none : Option Jvm.ClassFile.FieldType), Jvm.Cond.instanceMethod ({ cls := "Nightjar$Row", name := "clear", desc := "()V" } : Jvm.MethodName), Jvm.Cond.selects "Nightjar$Row" ({ cls := "Nightjar$Row", name := "clear", desc := "()V" } : Jvm.MethodName) ({ cls := "Nightjar$Row", name := "clear", desc := "()V" } : Jvm.MethodName), Jvm.Cond.fieldLink "Nightjar$Scenes" (68 : Nat) "Nightjar$Lines" "learned" "I", Jvm.Cond.methodLink "Nightjar$Scenes" (71 : Nat) ({ cls := "Nightjar$Row", name := "increase", desc := "(I)V" } : Jvm.MethodName), Jvm.Cond.code ({ cls := "Nightjar$Row", name := "increase", desc := "(I)V" } : Jvm.MethodName) prog_3_method_4_code (2 : Nat) (Option.none : Option Jvm.ClassFile.FieldType), Jvm.Cond.instanceMethod ({ cls := "Nightjar$Row", name := "increase", desc := "(I)V" } : Jvm.MethodName), Jvm.Cond.selects "Nightjar$Row" ({ cls := "Nightjar$Row", name := "increase", desc := "(I)V" } : Jvm.MethodName) ({ cls := "Nightjar$Row", name := "increase", desc := "(I)V" } : Jvm.MethodName), Jvm.Cond.methodLink "Nightjar$Scenes" (84 : Nat) ({ cls := "Nightjar$Scenes", name := "rest", desc := "(II)I" } : Jvm.MethodName), Jvm.Cond.code ({ cls := "Nightjar$Scenes", name := "rest", desc := "(II)I" } : Jvm.MethodName) prog_4_method_10_code (3 : Nat) (Option.some Jvm.ClassFile.FieldType.int), Jvm.Cond.instanceMethod ({ cls := "Nightjar$Scenes", name := "rest", desc := "(II)I" } : Jvm.MethodName), Jvm.Cond.selects "Nightjar$Scenes" ({ cls := "Nightjar$Scenes", name := "rest", desc := "(II)I" } : Jvm.MethodName) ({ cls := "Nightjar$Scenes", name := "rest", desc := "(II)I" } : Jvm.MethodName), Jvm.Cond.methodLink "Nightjar$Scenes" (87 : Nat) ({ cls := "Nightjar$Scenes", name := "enter", desc := "(III)V" } : Jvm.MethodName), Jvm.Cond.code ({ cls := "Nightjar$Scenes", name := "enter", desc := "(III)V" } : Jvm.MethodName) prog_4_method_7_code (5 : Nat) (Option.none : Option Jvm.ClassFile.FieldType), Jvm.Cond.instanceMethod ({ cls := "Nightjar$Scenes", name := "enter", desc := "(III)V" } : Jvm.MethodName), Cond.selects "Nightjar$Scenes" ⟨"Nightjar$Scenes", "enter", "(III)V"⟩ ⟨"Nightjar$Scenes", "enter", "(III)V"⟩, Jvm.Cond.methodLink "Nightjar$Scenes" (91 : Nat) ({ cls := "Nightjar$Scenes", name := "causeOf", desc := "(II)I" } : Jvm.MethodName), Jvm.Cond.code ({ cls := "Nightjar$Scenes", name := "causeOf", desc := "(II)I" } : Jvm.MethodName) prog_4_method_8_code (3 : Nat) (Option.some Jvm.ClassFile.FieldType.int), Jvm.Cond.instanceMethod ({ cls := "Nightjar$Scenes", name := "causeOf", desc := "(II)I" } : Jvm.MethodName), Jvm.Cond.selects "Nightjar$Scenes" ({ cls := "Nightjar$Scenes", name := "causeOf", desc := "(II)I" } : Jvm.MethodName) ({ cls := "Nightjar$Scenes", name := "causeOf", desc := "(II)I" } : Jvm.MethodName), Jvm.Cond.methodLink "Nightjar$Scenes" (94 : Nat) ({ cls := "Nightjar$Scenes", name := "score", desc := "(II)I" } : Jvm.MethodName), Jvm.Cond.code ({ cls := "Nightjar$Scenes", name := "score", desc := "(II)I" } : Jvm.MethodName) prog_4_method_11_code (3 : Nat) (Option.some Jvm.ClassFile.FieldType.int), Jvm.Cond.instanceMethod ({ cls := "Nightjar$Scenes", name := "score", desc := "(II)I" } : Jvm.MethodName), Jvm.Cond.selects "Nightjar$Scenes" ({ cls := "Nightjar$Scenes", name := "score", desc := "(II)I" } : Jvm.MethodName) ({ cls := "Nightjar$Scenes", name := "score", desc := "(II)I" } : Jvm.MethodName), Jvm.Cond.methodLink "Nightjar$Scenes" (97 : Nat) ({ cls := "Nightjar$Scenes", name := "lastInScene", desc := "(LNightjar$Lines;III)I" } : Jvm.MethodName), Jvm.Cond.code ({ cls := "Nightjar$Scenes", name := "lastInScene", desc := "(LNightjar$Lines;III)I" } : Jvm.MethodName) prog_4_method_13_code (5 : Nat) (Option.some Jvm.ClassFile.FieldType.int), Jvm.Cond.static ({ cls := "Nightjar$Scenes", name := "lastInScene", desc := "(LNightjar$Lines;III)I" } : Jvm.MethodName), Jvm.Cond.methodLink "Nightjar$Sessions" (3 : Nat) ({ cls := "java/lang/Object", name := "<init>", desc := "()V" } : Jvm.MethodName), Jvm.Cond.classLink "Nightjar$Sessions" (9 : Nat) "Nightjar$Row", Jvm.Cond.methodLink "Nightjar$Sessions" (11 : Nat) ({ cls := "Nightjar$Row", name := "<init>", desc := "(I)V" } : Jvm.MethodName), Jvm.Cond.fieldLink "Nightjar$Sessions" (14 : Nat) "Nightjar$Sessions" "sessionOf" "LNightjar$Row;", Jvm.Cond.fieldLink "Nightjar$Sessions" (20 : Nat) "Nightjar$Sessions" "nexts" "LNightjar$Row;", Jvm.Cond.fieldLink "Nightjar$Sessions" (23 : Nat) "Nightjar$Sessions" "firsts" "LNightjar$Row;", Jvm.Cond.fieldLink "Nightjar$Sessions" (26 : Nat) "Nightjar$Sessions" "lasts" "LNightjar$Row;", Jvm.Cond.fieldLink "Nightjar$Sessions" (29 : Nat) "Nightjar$Sessions" "sizes" "LNightjar$Row;", Jvm.Cond.fieldLink "Nightjar$Sessions" (32 : Nat) "Nightjar$Sessions" "worst" "LNightjar$Row;", Jvm.Cond.fieldLink "Nightjar$Sessions" (41 : Nat) "Nightjar$Sessions" "number" "I"]
def zall_5 : List Jvm.Cond := [Jvm.Cond.fieldLink "Nightjar$Sessions" (45 : Nat) "Nightjar$Lines" "number" "I", Jvm.Cond.methodLink "Nightjar$Sessions" (48 : Nat) ({ cls := "Nightjar$Row", name := "put", desc := "(II)V" } : Jvm.MethodName), Jvm.Cond.fieldLink "Nightjar$Sessions" (52 : Nat) "Nightjar$Lines" "keys" "LNightjar$Row;", Jvm.Cond.methodLink "Nightjar$Sessions" (59 : Nat) ({ cls := "Nightjar$Lines", name := "joined", desc := "(II)I" } : Jvm.MethodName), Jvm.Cond.code ({ cls := "Nightjar$Lines", name := "joined", desc := "(II)I" } : Jvm.MethodName) prog_2_method_13_code (4 : Nat) (Option.some Jvm.ClassFile.FieldType.int), Jvm.Cond.instanceMethod ({ cls := "Nightjar$Lines", name := "joined", desc := "(II)I" } : Jvm.MethodName), Jvm.Cond.selects "Nightjar$Lines" ({ cls := "Nightjar$Lines", name := "joined", desc := "(II)I" } : Jvm.MethodName) ({ cls := "Nightjar$Lines", name := "joined", desc := "(II)I" } : Jvm.MethodName), Jvm.Cond.methodLink "Nightjar$Sessions" (63 : Nat) ({ cls := "Nightjar$Sessions", name := "begin", desc := "(I)I" } : Jvm.MethodName), Jvm.Cond.code ({ cls := "Nightjar$Sessions", name := "begin", desc := "(I)I" } : Jvm.MethodName) prog_5_method_3_code (3 : Nat) (Option.some Jvm.ClassFile.FieldType.int), Jvm.Cond.instanceMethod ({ cls := "Nightjar$Sessions", name := "begin", desc := "(I)I" } : Jvm.MethodName), Cond.selects "Nightjar$Sessions" ⟨"Nightjar$Sessions", "begin", "(I)I"⟩ ⟨"Nightjar$Sessions", "begin", "(I)I"⟩, Jvm.Cond.methodLink "Nightjar$Sessions" (66 : Nat) ({ cls := "Nightjar$Sessions", name := "goOn", desc := "(II)I" } : Jvm.MethodName), Jvm.Cond.code ({ cls := "Nightjar$Sessions", name := "goOn", desc := "(II)I" } : Jvm.MethodName) prog_5_method_4_code (3 : Nat) (Option.some Jvm.ClassFile.FieldType.int), Jvm.Cond.instanceMethod ({ cls := "Nightjar$Sessions", name := "goOn", desc := "(II)I" } : Jvm.MethodName), Cond.selects "Nightjar$Sessions" ⟨"Nightjar$Sessions", "goOn", "(II)I"⟩ ⟨"Nightjar$Sessions", "goOn", "(II)I"⟩, Jvm.Cond.methodLink "Nightjar$Sessions" (69 : Nat) ({ cls := "Nightjar$Row", name := "increase", desc := "(I)V" } : Jvm.MethodName), Jvm.Cond.fieldLink "Nightjar$Sessions" (72 : Nat) "Nightjar$Lines" "levels" "LNightjar$Row;", Jvm.Cond.methodLink "Nightjar$Sessions" (75 : Nat) ({ cls := "Nightjar$Row", name := "clear", desc := "()V" } : Jvm.MethodName), Jvm.Cond.methodLink "Nightjar$Sessions" (78 : Nat) ({ cls := "Nightjar$Sessions", name := "isSamePath", desc := "(LNightjar$Lines;II)Z" } : Jvm.MethodName), Jvm.Cond.code ({ cls := "Nightjar$Sessions", name := "isSamePath", desc := "(LNightjar$Lines;II)Z" } : Jvm.MethodName) prog_5_method_6_code (7 : Nat) (Option.some Jvm.ClassFile.FieldType.boolean), Jvm.Cond.instanceMethod ({ cls := "Nightjar$Sessions", name := "isSamePath", desc := "(LNightjar$Lines;II)Z" } : Jvm.MethodName), Cond.selects "Nightjar$Sessions" ⟨"Nightjar$Sessions", "isSamePath", "(LNightjar$Lines;II)Z"⟩ ⟨"Nightjar$Sessions", "isSamePath", "(LNightjar$Lines;II)Z"⟩, Jvm.Cond.fieldLink "Nightjar$Sessions" (82 : Nat) "Nightjar$Lines" "templateOf" "LNightjar$Row;", Jvm.Cond.methodLink "Nightjar$Sessions" (85 : Nat) ({ cls := "java/lang/Integer", name := "bitCount", desc := "(I)I" } : Jvm.MethodName), Jvm.Cond.code ({ cls := "java/lang/Integer", name := "bitCount", desc := "(I)I" } : Jvm.MethodName) prog_14_method_49_code (1 : Nat) (Option.some Jvm.ClassFile.FieldType.int), Jvm.Cond.static ({ cls := "java/lang/Integer", name := "bitCount", desc := "(I)I" } : Jvm.MethodName), Jvm.Cond.initialized "java/lang/Integer", Jvm.Cond.methodLink "Nightjar$Sessions" (90 : Nat) ({ cls := "Nightjar$Sessions", name := "howManyAlike", desc := "(I)I" } : Jvm.MethodName), Jvm.Cond.code ({ cls := "Nightjar$Sessions", name := "howManyAlike", desc := "(I)I" } : Jvm.MethodName) prog_5_method_11_code (2 : Nat) (Option.some Jvm.ClassFile.FieldType.int), Jvm.Cond.instanceMethod ({ cls := "Nightjar$Sessions", name := "howManyAlike", desc := "(I)I" } : Jvm.MethodName), Jvm.Cond.selects "Nightjar$Sessions" ({ cls := "Nightjar$Sessions", name := "howManyAlike", desc := "(I)I" } : Jvm.MethodName) ({ cls := "Nightjar$Sessions", name := "howManyAlike", desc := "(I)I" } : Jvm.MethodName), Jvm.Cond.methodLink "Nightjar$Spikes" (3 : Nat) ({ cls := "java/lang/Object", name := "<init>", desc := "()V" } : Jvm.MethodName), Jvm.Cond.classLink "Nightjar$Spikes" (9 : Nat) "Nightjar$Row", Jvm.Cond.methodLink "Nightjar$Spikes" (11 : Nat) ({ cls := "Nightjar$Row", name := "<init>", desc := "(I)V" } : Jvm.MethodName), Jvm.Cond.fieldLink "Nightjar$Spikes" (14 : Nat) "Nightjar$Spikes" "windows" "LNightjar$Row;", Jvm.Cond.fieldLink "Nightjar$Spikes" (20 : Nat) "Nightjar$Spikes" "templates" "LNightjar$Row;", Jvm.Cond.fieldLink "Nightjar$Spikes" (23 : Nat) "Nightjar$Spikes" "counts" "LNightjar$Row;", Jvm.Cond.fieldLink "Nightjar$Spikes" (26 : Nat) "Nightjar$Spikes" "inWindow" "LNightjar$Row;", Jvm.Cond.fieldLink "Nightjar$Spikes" (29 : Nat) "Nightjar$Spikes" "number" "I", Jvm.Cond.methodLink "Nightjar$Spikes" (33 : Nat) ({ cls := "Nightjar$Row", name := "clear", desc := "()V" } : Jvm.MethodName), Jvm.Cond.fieldLink "Nightjar$Spikes" (36 : Nat) "Nightjar$Lines" "learned" "I", Jvm.Cond.fieldLink "Nightjar$Spikes" (41 : Nat) "Nightjar$Lines" "templateOf" "LNightjar$Row;", Jvm.Cond.methodLink "Nightjar$Spikes" (44 : Nat) ({ cls := "Nightjar$Row", name := "at", desc := "(I)I" } : Jvm.MethodName), Jvm.Cond.methodLink "Nightjar$Spikes" (48 : Nat) ({ cls := "Nightjar$Row", name := "increase", desc := "(I)V" } : Jvm.MethodName), Jvm.Cond.fieldLink "Nightjar$Spikes" (51 : Nat) "Nightjar$Lines" "times" "LNightjar$Row;", Jvm.Cond.methodLink "Nightjar$Spikes" (58 : Nat) ({ cls := "Nightjar$Spikes", name := "closeWindow", desc := "(LNightjar$Lines;III)V" } : Jvm.MethodName), Jvm.Cond.code ({ cls := "Nightjar$Spikes", name := "closeWindow", desc := "(LNightjar$Lines;III)V" } : Jvm.MethodName) prog_6_method_3_code (8 : Nat) (Option.none : Option Jvm.ClassFile.FieldType), Jvm.Cond.instanceMethod ({ cls := "Nightjar$Spikes", name := "closeWindow", desc := "(LNightjar$Lines;III)V" } : Jvm.MethodName), Cond.selects "Nightjar$Spikes" ⟨"Nightjar$Spikes", "closeWindow", "(LNightjar$Lines;III)V"⟩ ⟨"Nightjar$Spikes", "closeWindow", "(LNightjar$Lines;III)V"⟩, Jvm.Cond.methodLink "Nightjar$Spikes" (62 : Nat) ({ cls := "Nightjar$Lines", name := "howManyBetween", desc := "(IIII)I" } : Jvm.MethodName), Jvm.Cond.code ({ cls := "Nightjar$Lines", name := "howManyBetween", desc := "(IIII)I" } : Jvm.MethodName) prog_2_method_12_code (8 : Nat) (Option.some Jvm.ClassFile.FieldType.int), Jvm.Cond.instanceMethod ({ cls := "Nightjar$Lines", name := "howManyBetween", desc := "(IIII)I" } : Jvm.MethodName), Jvm.Cond.selects "Nightjar$Lines" ({ cls := "Nightjar$Lines", name := "howManyBetween", desc := "(IIII)I" } : Jvm.MethodName) ({ cls := "Nightjar$Lines", name := "howManyBetween", desc := "(IIII)I" } : Jvm.MethodName), Jvm.Cond.methodLink "Nightjar$Spikes" (66 : Nat) ({ cls := "Nightjar$Spikes", name := "enter", desc := "(III)V" } : Jvm.MethodName), Jvm.Cond.code ({ cls := "Nightjar$Spikes", name := "enter", desc := "(III)V" } : Jvm.MethodName) prog_6_method_4_code (4 : Nat) (Option.none : Option Jvm.ClassFile.FieldType), Jvm.Cond.instanceMethod ({ cls := "Nightjar$Spikes", name := "enter", desc := "(III)V" } : Jvm.MethodName), Cond.selects "Nightjar$Spikes" ⟨"Nightjar$Spikes", "enter", "(III)V"⟩ ⟨"Nightjar$Spikes", "enter", "(III)V"⟩, Jvm.Cond.methodLink "Nightjar$Spikes" (70 : Nat) ({ cls := "Nightjar$Row", name := "put", desc := "(II)V" } : Jvm.MethodName), Jvm.Cond.methodLink "Nightjar$Templates" (56 : Nat) ({ cls := "Nightjar$Row", name := "put", desc := "(II)V" } : Jvm.MethodName), Jvm.Cond.methodLink "Nightjar" (60 : Nat) ({ cls := "Nightjar", name := "isWithin", desc := "(II)Z" } : Jvm.MethodName)]
def zall_6 : List Jvm.Cond := [Jvm.Cond.code ({ cls := "Nightjar", name := "isWithin", desc := "(II)Z" } : Jvm.MethodName) prog_1_method_33_code (2 : Nat) (Option.some Jvm.ClassFile.FieldType.boolean), Jvm.Cond.static ({ cls := "Nightjar", name := "isWithin", desc := "(II)Z" } : Jvm.MethodName), Jvm.Cond.methodLink "Nightjar" (130 : Nat) ({ cls := "Nightjar$Sessions", name := "howManyBroken", desc := "()I" } : Jvm.MethodName), Jvm.Cond.code ({ cls := "Nightjar$Sessions", name := "howManyBroken", desc := "()I" } : Jvm.MethodName) prog_5_method_9_code (3 : Nat) (Option.some Jvm.ClassFile.FieldType.int), Jvm.Cond.instanceMethod ({ cls := "Nightjar$Sessions", name := "howManyBroken", desc := "()I" } : Jvm.MethodName), Jvm.Cond.selects "Nightjar$Sessions" ({ cls := "Nightjar$Sessions", name := "howManyBroken", desc := "()I" } : Jvm.MethodName) ({ cls := "Nightjar$Sessions", name := "howManyBroken", desc := "()I" } : Jvm.MethodName), Jvm.Cond.fieldLink "Nightjar" (134 : Nat) "Nightjar$Spikes" "number" "I", Jvm.Cond.methodLink "Nightjar" (135 : Nat) ({ cls := "Nightjar", name := "hasLine", desc := "(I)Z" } : Jvm.MethodName), Jvm.Cond.code ({ cls := "Nightjar", name := "hasLine", desc := "(I)Z" } : Jvm.MethodName) prog_1_method_30_code (2 : Nat) (Option.some Jvm.ClassFile.FieldType.boolean), Jvm.Cond.instanceMethod ({ cls := "Nightjar", name := "hasLine", desc := "(I)Z" } : Jvm.MethodName), Cond.selects "Nightjar" ⟨"Nightjar", "hasLine", "(I)Z"⟩ ⟨"Nightjar", "hasLine", "(I)Z"⟩, Jvm.Cond.fieldLink "Nightjar" (80 : Nat) "Nightjar$Lines" "times" "LNightjar$Row;", Jvm.Cond.fieldLink "Nightjar" (146 : Nat) "Nightjar$Lines" "sources" "LNightjar$Row;", Jvm.Cond.fieldLink "Nightjar" (149 : Nat) "Nightjar$Lines" "levels" "LNightjar$Row;", Jvm.Cond.fieldLink "Nightjar" (98 : Nat) "Nightjar$Lines" "sizes" "LNightjar$Row;", Jvm.Cond.fieldLink "Nightjar" (112 : Nat) "Nightjar$Lines" "templateOf" "LNightjar$Row;", Jvm.Cond.fieldLink "Nightjar" (152 : Nat) "Nightjar$Lines" "keys" "LNightjar$Row;", Jvm.Cond.fieldLink "Nightjar" (155 : Nat) "Nightjar$Sessions" "sessionOf" "LNightjar$Row;", Jvm.Cond.methodLink "Nightjar" (158 : Nat) ({ cls := "Nightjar", name := "quotient", desc := "(II)I" } : Jvm.MethodName), Jvm.Cond.fieldLink "Nightjar" (161 : Nat) "Nightjar$Scenes" "sizes" "LNightjar$Row;", Jvm.Cond.methodLink "Nightjar" (167 : Nat) ({ cls := "Nightjar", name := "hasTemplate", desc := "(I)Z" } : Jvm.MethodName), Jvm.Cond.code ({ cls := "Nightjar", name := "hasTemplate", desc := "(I)Z" } : Jvm.MethodName) prog_1_method_31_code (2 : Nat) (Option.some Jvm.ClassFile.FieldType.boolean), Jvm.Cond.instanceMethod ({ cls := "Nightjar", name := "hasTemplate", desc := "(I)Z" } : Jvm.MethodName), Cond.selects "Nightjar" ⟨"Nightjar", "hasTemplate", "(I)Z"⟩ ⟨"Nightjar", "hasTemplate", "(I)Z"⟩, Jvm.Cond.fieldLink "Nightjar" (174 : Nat) "Nightjar$Templates" "sizes" "LNightjar$Row;", Jvm.Cond.methodLink "Nightjar" (175 : Nat) ({ cls := "Nightjar$Templates", name := "howManyHoles", desc := "(I)I" } : Jvm.MethodName), Jvm.Cond.code ({ cls := "Nightjar$Templates", name := "howManyHoles", desc := "(I)I" } : Jvm.MethodName) prog_7_method_3_code (4 : Nat) (Option.some Jvm.ClassFile.FieldType.int), Jvm.Cond.instanceMethod ({ cls := "Nightjar$Templates", name := "howManyHoles", desc := "(I)I" } : Jvm.MethodName), Jvm.Cond.selects "Nightjar$Templates" ({ cls := "Nightjar$Templates", name := "howManyHoles", desc := "(I)I" } : Jvm.MethodName) ({ cls := "Nightjar$Templates", name := "howManyHoles", desc := "(I)I" } : Jvm.MethodName), Jvm.Cond.methodLink "Nightjar" (178 : Nat) ({ cls := "Nightjar$Lines", name := "howManyOf", desc := "(I)I" } : Jvm.MethodName), Jvm.Cond.code ({ cls := "Nightjar$Lines", name := "howManyOf", desc := "(I)I" } : Jvm.MethodName) prog_2_method_7_code (4 : Nat) (Option.some Jvm.ClassFile.FieldType.int), Jvm.Cond.instanceMethod ({ cls := "Nightjar$Lines", name := "howManyOf", desc := "(I)I" } : Jvm.MethodName), Jvm.Cond.selects "Nightjar$Lines" ({ cls := "Nightjar$Lines", name := "howManyOf", desc := "(I)I" } : Jvm.MethodName) ({ cls := "Nightjar$Lines", name := "howManyOf", desc := "(I)I" } : Jvm.MethodName), Jvm.Cond.methodLink "Nightjar" (181 : Nat) ({ cls := "Nightjar$Lines", name := "firstOf", desc := "(I)I" } : Jvm.MethodName), Jvm.Cond.code ({ cls := "Nightjar$Lines", name := "firstOf", desc := "(I)I" } : Jvm.MethodName) prog_2_method_8_code (3 : Nat) (Option.some Jvm.ClassFile.FieldType.int), Jvm.Cond.instanceMethod ({ cls := "Nightjar$Lines", name := "firstOf", desc := "(I)I" } : Jvm.MethodName), Jvm.Cond.selects "Nightjar$Lines" ({ cls := "Nightjar$Lines", name := "firstOf", desc := "(I)I" } : Jvm.MethodName) ({ cls := "Nightjar$Lines", name := "firstOf", desc := "(I)I" } : Jvm.MethodName), Jvm.Cond.methodLink "Nightjar" (184 : Nat) ({ cls := "Nightjar$Lines", name := "worstLevelOf", desc := "(I)I" } : Jvm.MethodName), Jvm.Cond.code ({ cls := "Nightjar$Lines", name := "worstLevelOf", desc := "(I)I" } : Jvm.MethodName) prog_2_method_9_code (4 : Nat) (Option.some Jvm.ClassFile.FieldType.int), Jvm.Cond.instanceMethod ({ cls := "Nightjar$Lines", name := "worstLevelOf", desc := "(I)I" } : Jvm.MethodName), Jvm.Cond.selects "Nightjar$Lines" ({ cls := "Nightjar$Lines", name := "worstLevelOf", desc := "(I)I" } : Jvm.MethodName) ({ cls := "Nightjar$Lines", name := "worstLevelOf", desc := "(I)I" } : Jvm.MethodName), Jvm.Cond.methodLink "Nightjar" (189 : Nat) ({ cls := "Nightjar$Templates", name := "slotIn", desc := "(II)I" } : Jvm.MethodName), Jvm.Cond.methodLink "Nightjar" (192 : Nat) ({ cls := "Nightjar$Templates", name := "placeOfHole", desc := "(II)I" } : Jvm.MethodName), Jvm.Cond.methodLink "Nightjar" (197 : Nat) ({ cls := "Nightjar$Lines", name := "howManyWordsOf", desc := "(II)I" } : Jvm.MethodName), Jvm.Cond.code ({ cls := "Nightjar$Lines", name := "howManyWordsOf", desc := "(II)I" } : Jvm.MethodName) prog_2_method_10_code (5 : Nat) (Option.some Jvm.ClassFile.FieldType.int), Jvm.Cond.instanceMethod ({ cls := "Nightjar$Lines", name := "howManyWordsOf", desc := "(II)I" } : Jvm.MethodName), Jvm.Cond.selects "Nightjar$Lines" ({ cls := "Nightjar$Lines", name := "howManyWordsOf", desc := "(II)I" } : Jvm.MethodName) ({ cls := "Nightjar$Lines", name := "howManyWordsOf", desc := "(II)I" } : Jvm.MethodName), Jvm.Cond.methodLink "Nightjar" (203 : Nat) ({ cls := "Nightjar", name := "hasSession", desc := "(I)Z" } : Jvm.MethodName), Jvm.Cond.code ({ cls := "Nightjar", name := "hasSession", desc := "(I)Z" } : Jvm.MethodName) prog_1_method_32_code (2 : Nat) (Option.some Jvm.ClassFile.FieldType.boolean), Jvm.Cond.instanceMethod ({ cls := "Nightjar", name := "hasSession", desc := "(I)Z" } : Jvm.MethodName), Cond.selects "Nightjar" ⟨"Nightjar", "hasSession", "(I)Z"⟩ ⟨"Nightjar", "hasSession", "(I)Z"⟩, Jvm.Cond.fieldLink "Nightjar" (210 : Nat) "Nightjar$Sessions" "firsts" "LNightjar$Row;", Jvm.Cond.fieldLink "Nightjar" (213 : Nat) "Nightjar$Sessions" "lasts" "LNightjar$Row;", Jvm.Cond.fieldLink "Nightjar" (216 : Nat) "Nightjar$Sessions" "sizes" "LNightjar$Row;", Jvm.Cond.fieldLink "Nightjar" (217 : Nat) "Nightjar$Sessions" "worst" "LNightjar$Row;", Jvm.Cond.methodLink "Nightjar" (220 : Nat) ({ cls := "Nightjar$Sessions", name := "howManyTemplates", desc := "(LNightjar$Lines;I)I" } : Jvm.MethodName), Jvm.Cond.code ({ cls := "Nightjar$Sessions", name := "howManyTemplates", desc := "(LNightjar$Lines;I)I" } : Jvm.MethodName) prog_5_method_8_code (6 : Nat) (Option.some Jvm.ClassFile.FieldType.int), Jvm.Cond.instanceMethod ({ cls := "Nightjar$Sessions", name := "howManyTemplates", desc := "(LNightjar$Lines;I)I" } : Jvm.MethodName), Jvm.Cond.selects "Nightjar$Sessions" ({ cls := "Nightjar$Sessions", name := "howManyTemplates", desc := "(LNightjar$Lines;I)I" } : Jvm.MethodName) ({ cls := "Nightjar$Sessions", name := "howManyTemplates", desc := "(LNightjar$Lines;I)I" } : Jvm.MethodName), Jvm.Cond.methodLink "Nightjar" (224 : Nat) ({ cls := "Nightjar$Sessions", name := "howManyAlike", desc := "(I)I" } : Jvm.MethodName)]
def zall_7 : List Jvm.Cond := [Jvm.Cond.methodLink "Nightjar" (232 : Nat) ({ cls := "Nightjar$Sessions", name := "mostAlike", desc := "()I" } : Jvm.MethodName), Jvm.Cond.code ({ cls := "Nightjar$Sessions", name := "mostAlike", desc := "()I" } : Jvm.MethodName) prog_5_method_12_code (4 : Nat) (Option.some Jvm.ClassFile.FieldType.int), Jvm.Cond.instanceMethod ({ cls := "Nightjar$Sessions", name := "mostAlike", desc := "()I" } : Jvm.MethodName), Jvm.Cond.selects "Nightjar$Sessions" ({ cls := "Nightjar$Sessions", name := "mostAlike", desc := "()I" } : Jvm.MethodName) ({ cls := "Nightjar$Sessions", name := "mostAlike", desc := "()I" } : Jvm.MethodName), Jvm.Cond.fieldLink "Nightjar" (248 : Nat) "Nightjar$Spikes" "windows" "LNightjar$Row;", Jvm.Cond.fieldLink "Nightjar" (251 : Nat) "Nightjar$Spikes" "templates" "LNightjar$Row;", Jvm.Cond.fieldLink "Nightjar" (253 : Nat) "Nightjar$Spikes" "counts" "LNightjar$Row;", Jvm.Cond.fieldLink "Nightjar" (256 : Nat) "Nightjar$Scenes" "causeNumbers" "LNightjar$Row;", Jvm.Cond.methodLink "Nightjar" (263 : Nat) ({ cls := "Nightjar$Scenes", name := "causeOf", desc := "(II)I" } : Jvm.MethodName), Jvm.Cond.methodLink "Nightjar" (266 : Nat) ({ cls := "Nightjar$Scenes", name := "hits", desc := "(II)I" } : Jvm.MethodName), Jvm.Cond.methodLink "Nightjar" (269 : Nat) ({ cls := "Nightjar$Scenes", name := "rest", desc := "(II)I" } : Jvm.MethodName), Jvm.Cond.methodLink "Nightjar" (272 : Nat) ({ cls := "Nightjar$Scenes", name := "score", desc := "(II)I" } : Jvm.MethodName), Jvm.Cond.methodLink "Nightjar" (275 : Nat) ({ cls := "Nightjar$Scenes", name := "lineBehind", desc := "(LNightjar$Lines;II)I" } : Jvm.MethodName), Jvm.Cond.code ({ cls := "Nightjar$Scenes", name := "lineBehind", desc := "(LNightjar$Lines;II)I" } : Jvm.MethodName) prog_4_method_12_code (7 : Nat) (Option.some Jvm.ClassFile.FieldType.int), Jvm.Cond.instanceMethod ({ cls := "Nightjar$Scenes", name := "lineBehind", desc := "(LNightjar$Lines;II)I" } : Jvm.MethodName), Jvm.Cond.selects "Nightjar$Scenes" ({ cls := "Nightjar$Scenes", name := "lineBehind", desc := "(LNightjar$Lines;II)I" } : Jvm.MethodName) ({ cls := "Nightjar$Scenes", name := "lineBehind", desc := "(LNightjar$Lines;II)I" } : Jvm.MethodName), Jvm.Cond.methodLink "Nightjar" (314 : Nat) ({ cls := "Nightjar", name := "ofLine", desc := "(II)I" } : Jvm.MethodName), Jvm.Cond.code ({ cls := "Nightjar", name := "ofLine", desc := "(II)I" } : Jvm.MethodName) prog_1_method_8_code (3 : Nat) (Option.some Jvm.ClassFile.FieldType.int), Jvm.Cond.instanceMethod ({ cls := "Nightjar", name := "ofLine", desc := "(II)I" } : Jvm.MethodName), Jvm.Cond.selects "Nightjar" ({ cls := "Nightjar", name := "ofLine", desc := "(II)I" } : Jvm.MethodName) ({ cls := "Nightjar", name := "ofLine", desc := "(II)I" } : Jvm.MethodName), Jvm.Cond.methodLink "Nightjar" (295 : Nat) ({ cls := "Nightjar", name := "mix", desc := "(JI)J" } : Jvm.MethodName), Jvm.Cond.code ({ cls := "Nightjar", name := "mix", desc := "(JI)J" } : Jvm.MethodName) prog_1_method_29_code (3 : Nat) (Option.some Jvm.ClassFile.FieldType.long), Jvm.Cond.static ({ cls := "Nightjar", name := "mix", desc := "(JI)J" } : Jvm.MethodName), Jvm.Cond.methodLink "Nightjar" (317 : Nat) ({ cls := "Nightjar", name := "because", desc := "(I)I" } : Jvm.MethodName), Jvm.Cond.code ({ cls := "Nightjar", name := "because", desc := "(I)I" } : Jvm.MethodName) prog_1_method_22_code (2 : Nat) (Option.some Jvm.ClassFile.FieldType.int), Jvm.Cond.instanceMethod ({ cls := "Nightjar", name := "because", desc := "(I)I" } : Jvm.MethodName), Jvm.Cond.selects "Nightjar" ({ cls := "Nightjar", name := "because", desc := "(I)I" } : Jvm.MethodName) ({ cls := "Nightjar", name := "because", desc := "(I)I" } : Jvm.MethodName), Jvm.Cond.methodLink "Nightjar" (320 : Nat) ({ cls := "Nightjar", name := "ofTemplate", desc := "(II)I" } : Jvm.MethodName), Jvm.Cond.code ({ cls := "Nightjar", name := "ofTemplate", desc := "(II)I" } : Jvm.MethodName) prog_1_method_10_code (3 : Nat) (Option.some Jvm.ClassFile.FieldType.int), Jvm.Cond.instanceMethod ({ cls := "Nightjar", name := "ofTemplate", desc := "(II)I" } : Jvm.MethodName), Jvm.Cond.selects "Nightjar" ({ cls := "Nightjar", name := "ofTemplate", desc := "(II)I" } : Jvm.MethodName) ({ cls := "Nightjar", name := "ofTemplate", desc := "(II)I" } : Jvm.MethodName), Jvm.Cond.methodLink "Nightjar" (323 : Nat) ({ cls := "Nightjar", name := "slot", desc := "(II)I" } : Jvm.MethodName), Jvm.Cond.code ({ cls := "Nightjar", name := "slot", desc := "(II)I" } : Jvm.MethodName) prog_1_method_11_code (3 : Nat) (Option.some Jvm.ClassFile.FieldType.int), Jvm.Cond.instanceMethod ({ cls := "Nightjar", name := "slot", desc := "(II)I" } : Jvm.MethodName), Jvm.Cond.selects "Nightjar" ({ cls := "Nightjar", name := "slot", desc := "(II)I" } : Jvm.MethodName) ({ cls := "Nightjar", name := "slot", desc := "(II)I" } : Jvm.MethodName), Jvm.Cond.methodLink "Nightjar" (326 : Nat) ({ cls := "Nightjar", name := "values", desc := "(II)I" } : Jvm.MethodName), Jvm.Cond.code ({ cls := "Nightjar", name := "values", desc := "(II)I" } : Jvm.MethodName) prog_1_method_12_code (4 : Nat) (Option.some Jvm.ClassFile.FieldType.int), Jvm.Cond.instanceMethod ({ cls := "Nightjar", name := "values", desc := "(II)I" } : Jvm.MethodName), Jvm.Cond.selects "Nightjar" ({ cls := "Nightjar", name := "values", desc := "(II)I" } : Jvm.MethodName) ({ cls := "Nightjar", name := "values", desc := "(II)I" } : Jvm.MethodName), Jvm.Cond.methodLink "Nightjar" (329 : Nat) ({ cls := "Nightjar", name := "causes", desc := "(I)I" } : Jvm.MethodName), Jvm.Cond.code ({ cls := "Nightjar", name := "causes", desc := "(I)I" } : Jvm.MethodName) prog_1_method_20_code (2 : Nat) (Option.some Jvm.ClassFile.FieldType.int), Jvm.Cond.instanceMethod ({ cls := "Nightjar", name := "causes", desc := "(I)I" } : Jvm.MethodName), Jvm.Cond.selects "Nightjar" ({ cls := "Nightjar", name := "causes", desc := "(I)I" } : Jvm.MethodName) ({ cls := "Nightjar", name := "causes", desc := "(I)I" } : Jvm.MethodName), Jvm.Cond.methodLink "Nightjar" (332 : Nat) ({ cls := "Nightjar", name := "cause", desc := "(III)I" } : Jvm.MethodName), Jvm.Cond.code ({ cls := "Nightjar", name := "cause", desc := "(III)I" } : Jvm.MethodName) prog_1_method_21_code (5 : Nat) (Option.some Jvm.ClassFile.FieldType.int), Jvm.Cond.instanceMethod ({ cls := "Nightjar", name := "cause", desc := "(III)I" } : Jvm.MethodName), Jvm.Cond.selects "Nightjar" ({ cls := "Nightjar", name := "cause", desc := "(III)I" } : Jvm.MethodName) ({ cls := "Nightjar", name := "cause", desc := "(III)I" } : Jvm.MethodName), Jvm.Cond.methodLink "NightjarModel" (76 : Nat) ({ cls := "NightjarModel", name := "alikeNow", desc := "(II)I" } : Jvm.MethodName), Jvm.Cond.code ({ cls := "NightjarModel", name := "alikeNow", desc := "(II)I" } : Jvm.MethodName) prog_9_method_9_code (5 : Nat) (Option.some Jvm.ClassFile.FieldType.int), Jvm.Cond.instanceMethod ({ cls := "NightjarModel", name := "alikeNow", desc := "(II)I" } : Jvm.MethodName), Cond.selects "NightjarModel" ⟨"NightjarModel", "alikeNow", "(II)I"⟩ ⟨"NightjarModel", "alikeNow", "(II)I"⟩, Jvm.Cond.methodLink "NightjarModel" (179 : Nat) ({ cls := "NightjarModel", name := "nextIn", desc := "(II)I" } : Jvm.MethodName), Jvm.Cond.code ({ cls := "NightjarModel", name := "nextIn", desc := "(II)I" } : Jvm.MethodName) prog_9_method_45_code (4 : Nat) (Option.some Jvm.ClassFile.FieldType.int), Jvm.Cond.instanceMethod ({ cls := "NightjarModel", name := "nextIn", desc := "(II)I" } : Jvm.MethodName), Cond.selects "NightjarModel" ⟨"NightjarModel", "nextIn", "(II)I"⟩ ⟨"NightjarModel", "nextIn", "(II)I"⟩, Jvm.Cond.constant "java/lang/Integer" (265 : Nat) (1431655765 : Int32), Jvm.Cond.constant "java/lang/Integer" (266 : Nat) (858993459 : Int32), Jvm.Cond.constant "java/lang/Integer" (267 : Nat) (252645135 : Int32), Jvm.Cond.methodLink "Nightjar" (3 : Nat) ({ cls := "java/lang/Object", name := "<init>", desc := "()V" } : Jvm.MethodName), Jvm.Cond.classLink "Nightjar" (9 : Nat) "Nightjar$Lines"]
def zall_8 : List Jvm.Cond := [Jvm.Cond.instantiable "Nightjar$Lines" (9 : Nat), Jvm.Cond.code ({ cls := "Nightjar$Lines", name := "<init>", desc := "()V" } : Jvm.MethodName) prog_2_method_1_code (1 : Nat) (Option.none : Option Jvm.ClassFile.FieldType), Jvm.Cond.instanceMethod ({ cls := "Nightjar$Lines", name := "<init>", desc := "()V" } : Jvm.MethodName), Jvm.Cond.classLink "Nightjar" (16 : Nat) "Nightjar$Templates", Jvm.Cond.instantiable "Nightjar$Templates" (3 : Nat), Jvm.Cond.code ({ cls := "Nightjar$Templates", name := "<init>", desc := "()V" } : Jvm.MethodName) prog_7_method_1_code (1 : Nat) (Option.none : Option Jvm.ClassFile.FieldType), Jvm.Cond.instanceMethod ({ cls := "Nightjar$Templates", name := "<init>", desc := "()V" } : Jvm.MethodName), Jvm.Cond.fieldLink "Nightjar" (23 : Nat) "Nightjar" "trial" "LNightjar$Templates;", Jvm.Cond.classLink "Nightjar" (26 : Nat) "Nightjar$Sessions", Jvm.Cond.instantiable "Nightjar$Sessions" (9 : Nat), Jvm.Cond.code ({ cls := "Nightjar$Sessions", name := "<init>", desc := "()V" } : Jvm.MethodName) prog_5_method_1_code (1 : Nat) (Option.none : Option Jvm.ClassFile.FieldType), Jvm.Cond.instanceMethod ({ cls := "Nightjar$Sessions", name := "<init>", desc := "()V" } : Jvm.MethodName), Jvm.Cond.classLink "Nightjar" (33 : Nat) "Nightjar$Spikes", Jvm.Cond.instantiable "Nightjar$Spikes" (5 : Nat), Jvm.Cond.code ({ cls := "Nightjar$Spikes", name := "<init>", desc := "()V" } : Jvm.MethodName) prog_6_method_1_code (1 : Nat) (Option.none : Option Jvm.ClassFile.FieldType), Jvm.Cond.instanceMethod ({ cls := "Nightjar$Spikes", name := "<init>", desc := "()V" } : Jvm.MethodName), Jvm.Cond.classLink "Nightjar" (40 : Nat) "Nightjar$Scenes", Jvm.Cond.instantiable "Nightjar$Scenes" (8 : Nat), Jvm.Cond.code ({ cls := "Nightjar$Scenes", name := "<init>", desc := "()V" } : Jvm.MethodName) prog_4_method_1_code (1 : Nat) (Option.none : Option Jvm.ClassFile.FieldType), Jvm.Cond.instanceMethod ({ cls := "Nightjar$Scenes", name := "<init>", desc := "()V" } : Jvm.MethodName), Jvm.Cond.classLink "Nightjar" (47 : Nat) "Nightjar$Row", Jvm.Cond.methodLink "Nightjar" (49 : Nat) ({ cls := "Nightjar$Row", name := "<init>", desc := "(I)V" } : Jvm.MethodName), Jvm.Cond.methodLink "Nightjar" (56 : Nat) ({ cls := "Nightjar$Row", name := "put", desc := "(II)V" } : Jvm.MethodName), Jvm.Cond.methodLink "Nightjar" (89 : Nat) ({ cls := "Nightjar$Lines", name := "append", desc := "(III)I" } : Jvm.MethodName), Jvm.Cond.code ({ cls := "Nightjar$Lines", name := "append", desc := "(III)I" } : Jvm.MethodName) prog_2_method_2_code (5 : Nat) (Option.some Jvm.ClassFile.FieldType.int), Jvm.Cond.instanceMethod ({ cls := "Nightjar$Lines", name := "append", desc := "(III)I" } : Jvm.MethodName), Jvm.Cond.selects "Nightjar$Lines" ({ cls := "Nightjar$Lines", name := "append", desc := "(III)I" } : Jvm.MethodName) ({ cls := "Nightjar$Lines", name := "append", desc := "(III)I" } : Jvm.MethodName), Jvm.Cond.methodLink "Nightjar" (93 : Nat) ({ cls := "Nightjar", name := "recompute", desc := "()V" } : Jvm.MethodName), Jvm.Cond.code ({ cls := "Nightjar", name := "recompute", desc := "()V" } : Jvm.MethodName) prog_1_method_35_code (1 : Nat) (Option.none : Option Jvm.ClassFile.FieldType), Jvm.Cond.instanceMethod ({ cls := "Nightjar", name := "recompute", desc := "()V" } : Jvm.MethodName), Cond.selects "Nightjar" ⟨"Nightjar", "recompute", "()V"⟩ ⟨"Nightjar", "recompute", "()V"⟩, Jvm.Cond.methodLink "Nightjar" (106 : Nat) ({ cls := "Nightjar$Lines", name := "appendWord", desc := "(II)I" } : Jvm.MethodName), Jvm.Cond.code ({ cls := "Nightjar$Lines", name := "appendWord", desc := "(II)I" } : Jvm.MethodName) prog_2_method_3_code (4 : Nat) (Option.some Jvm.ClassFile.FieldType.int), Jvm.Cond.instanceMethod ({ cls := "Nightjar$Lines", name := "appendWord", desc := "(II)I" } : Jvm.MethodName), Jvm.Cond.selects "Nightjar$Lines" ({ cls := "Nightjar$Lines", name := "appendWord", desc := "(II)I" } : Jvm.MethodName) ({ cls := "Nightjar$Lines", name := "appendWord", desc := "(II)I" } : Jvm.MethodName), Jvm.Cond.methodLink "Nightjar" (115 : Nat) ({ cls := "Nightjar$Templates", name := "take", desc := "(LNightjar$Lines;II)I" } : Jvm.MethodName), Jvm.Cond.code ({ cls := "Nightjar$Templates", name := "take", desc := "(LNightjar$Lines;II)I" } : Jvm.MethodName) prog_7_method_7_code (5 : Nat) (Option.some Jvm.ClassFile.FieldType.int), Jvm.Cond.instanceMethod ({ cls := "Nightjar$Templates", name := "take", desc := "(LNightjar$Lines;II)I" } : Jvm.MethodName), Jvm.Cond.selects "Nightjar$Templates" ({ cls := "Nightjar$Templates", name := "take", desc := "(LNightjar$Lines;II)I" } : Jvm.MethodName) ({ cls := "Nightjar$Templates", name := "take", desc := "(LNightjar$Lines;II)I" } : Jvm.MethodName), Jvm.Cond.methodLink "Nightjar" (123 : Nat) ({ cls := "Nightjar$Lines", name := "unlearn", desc := "()V" } : Jvm.MethodName), Jvm.Cond.code ({ cls := "Nightjar$Lines", name := "unlearn", desc := "()V" } : Jvm.MethodName) prog_2_method_4_code (2 : Nat) (Option.none : Option Jvm.ClassFile.FieldType), Jvm.Cond.instanceMethod ({ cls := "Nightjar$Lines", name := "unlearn", desc := "()V" } : Jvm.MethodName), Jvm.Cond.selects "Nightjar$Lines" ({ cls := "Nightjar$Lines", name := "unlearn", desc := "()V" } : Jvm.MethodName) ({ cls := "Nightjar$Lines", name := "unlearn", desc := "()V" } : Jvm.MethodName), Jvm.Cond.methodLink "Nightjar" (164 : Nat) ({ cls := "Nightjar$Lines", name := "wordIn", desc := "(II)I" } : Jvm.MethodName), Jvm.Cond.methodLink "Nightjar" (200 : Nat) ({ cls := "Nightjar$Templates", name := "likeness", desc := "(LNightjar$Lines;II)I" } : Jvm.MethodName), Jvm.Cond.methodLink "Nightjar" (229 : Nat) ({ cls := "Nightjar$Sessions", name := "lineIn", desc := "(II)I" } : Jvm.MethodName), Jvm.Cond.code ({ cls := "Nightjar$Sessions", name := "lineIn", desc := "(II)I" } : Jvm.MethodName) prog_5_method_7_code (5 : Nat) (Option.some Jvm.ClassFile.FieldType.int), Jvm.Cond.instanceMethod ({ cls := "Nightjar$Sessions", name := "lineIn", desc := "(II)I" } : Jvm.MethodName), Jvm.Cond.selects "Nightjar$Sessions" ({ cls := "Nightjar$Sessions", name := "lineIn", desc := "(II)I" } : Jvm.MethodName) ({ cls := "Nightjar$Sessions", name := "lineIn", desc := "(II)I" } : Jvm.MethodName), Jvm.Cond.methodLink "Nightjar" (235 : Nat) ({ cls := "Nightjar$Sessions", name := "howManyLines", desc := "()I" } : Jvm.MethodName), Jvm.Cond.code ({ cls := "Nightjar$Sessions", name := "howManyLines", desc := "()I" } : Jvm.MethodName) prog_5_method_10_code (3 : Nat) (Option.some Jvm.ClassFile.FieldType.int), Jvm.Cond.instanceMethod ({ cls := "Nightjar$Sessions", name := "howManyLines", desc := "()I" } : Jvm.MethodName), Jvm.Cond.selects "Nightjar$Sessions" ({ cls := "Nightjar$Sessions", name := "howManyLines", desc := "()I" } : Jvm.MethodName) ({ cls := "Nightjar$Sessions", name := "howManyLines", desc := "()I" } : Jvm.MethodName), Jvm.Cond.methodLink "Nightjar" (240 : Nat) ({ cls := "Nightjar$Lines", name := "howManyBetween", desc := "(IIII)I" } : Jvm.MethodName), Jvm.Cond.methodLink "Nightjar" (282 : Nat) ({ cls := "Nightjar$Lines", name := "joined", desc := "(II)I" } : Jvm.MethodName), Jvm.Cond.methodLink "Nightjar" (287 : Nat) ({ cls := "Nightjar$Templates", name := "choose", desc := "(LNightjar$Lines;II)I" } : Jvm.MethodName), Jvm.Cond.constantLong "Nightjar" (290 : Nat) (58085 : Int64), Jvm.Cond.methodLink "Nightjar" (292 : Nat) ({ cls := "Nightjar", name := "many", desc := "(I)I" } : Jvm.MethodName), Jvm.Cond.code ({ cls := "Nightjar", name := "many", desc := "(I)I" } : Jvm.MethodName) prog_1_method_7_code (2 : Nat) (Option.some Jvm.ClassFile.FieldType.int), Jvm.Cond.instanceMethod ({ cls := "Nightjar", name := "many", desc := "(I)I" } : Jvm.MethodName)]
def zall_9 : List Jvm.Cond := [Jvm.Cond.selects "Nightjar" ({ cls := "Nightjar", name := "many", desc := "(I)I" } : Jvm.MethodName) ({ cls := "Nightjar", name := "many", desc := "(I)I" } : Jvm.MethodName), Jvm.Cond.methodLink "Nightjar" (299 : Nat) ({ cls := "Nightjar", name := "mixLine", desc := "(JI)J" } : Jvm.MethodName), Jvm.Cond.code ({ cls := "Nightjar", name := "mixLine", desc := "(JI)J" } : Jvm.MethodName) prog_1_method_27_code (7 : Nat) (Option.some Jvm.ClassFile.FieldType.long), Jvm.Cond.instanceMethod ({ cls := "Nightjar", name := "mixLine", desc := "(JI)J" } : Jvm.MethodName), Cond.selects "Nightjar" ⟨"Nightjar", "mixLine", "(JI)J"⟩ ⟨"Nightjar", "mixLine", "(JI)J"⟩, Jvm.Cond.methodLink "Nightjar" (302 : Nat) ({ cls := "Nightjar", name := "mixTemplate", desc := "(JI)J" } : Jvm.MethodName), Jvm.Cond.code ({ cls := "Nightjar", name := "mixTemplate", desc := "(JI)J" } : Jvm.MethodName) prog_1_method_28_code (11 : Nat) (Option.some Jvm.ClassFile.FieldType.long), Jvm.Cond.instanceMethod ({ cls := "Nightjar", name := "mixTemplate", desc := "(JI)J" } : Jvm.MethodName), Cond.selects "Nightjar" ⟨"Nightjar", "mixTemplate", "(JI)J"⟩ ⟨"Nightjar", "mixTemplate", "(JI)J"⟩, Jvm.Cond.methodLink "Nightjar" (305 : Nat) ({ cls := "Nightjar", name := "ofSession", desc := "(II)I" } : Jvm.MethodName), Jvm.Cond.code ({ cls := "Nightjar", name := "ofSession", desc := "(II)I" } : Jvm.MethodName) prog_1_method_14_code (3 : Nat) (Option.some Jvm.ClassFile.FieldType.int), Jvm.Cond.instanceMethod ({ cls := "Nightjar", name := "ofSession", desc := "(II)I" } : Jvm.MethodName), Jvm.Cond.selects "Nightjar" ({ cls := "Nightjar", name := "ofSession", desc := "(II)I" } : Jvm.MethodName) ({ cls := "Nightjar", name := "ofSession", desc := "(II)I" } : Jvm.MethodName), Jvm.Cond.methodLink "Nightjar" (308 : Nat) ({ cls := "Nightjar", name := "usual", desc := "()I" } : Jvm.MethodName), Jvm.Cond.code ({ cls := "Nightjar", name := "usual", desc := "()I" } : Jvm.MethodName) prog_1_method_16_code (1 : Nat) (Option.some Jvm.ClassFile.FieldType.int), Jvm.Cond.instanceMethod ({ cls := "Nightjar", name := "usual", desc := "()I" } : Jvm.MethodName), Jvm.Cond.selects "Nightjar" ({ cls := "Nightjar", name := "usual", desc := "()I" } : Jvm.MethodName) ({ cls := "Nightjar", name := "usual", desc := "()I" } : Jvm.MethodName), Jvm.Cond.methodLink "Nightjar" (311 : Nat) ({ cls := "Nightjar", name := "spike", desc := "(II)I" } : Jvm.MethodName), Jvm.Cond.code ({ cls := "Nightjar", name := "spike", desc := "(II)I" } : Jvm.MethodName) prog_1_method_19_code (3 : Nat) (Option.some Jvm.ClassFile.FieldType.int), Jvm.Cond.instanceMethod ({ cls := "Nightjar", name := "spike", desc := "(II)I" } : Jvm.MethodName), Jvm.Cond.selects "Nightjar" ({ cls := "Nightjar", name := "spike", desc := "(II)I" } : Jvm.MethodName) ({ cls := "Nightjar", name := "spike", desc := "(II)I" } : Jvm.MethodName), Jvm.Cond.methodLink "NightjarModel" (1 : Nat) ({ cls := "java/lang/Object", name := "<init>", desc := "()V" } : Jvm.MethodName), Jvm.Cond.methodLink "NightjarModel" (69 : Nat) ({ cls := "NightjarModel", name := "no", desc := "(I)I" } : Jvm.MethodName), Jvm.Cond.code ({ cls := "NightjarModel", name := "no", desc := "(I)I" } : Jvm.MethodName) prog_9_method_3_code (2 : Nat) (Option.some Jvm.ClassFile.FieldType.int), Jvm.Cond.instanceMethod ({ cls := "NightjarModel", name := "no", desc := "(I)I" } : Jvm.MethodName), Cond.selects "NightjarModel" ⟨"NightjarModel", "no", "(I)I"⟩ ⟨"NightjarModel", "no", "(I)I"⟩, Jvm.Cond.methodLink "NightjarModel" (92 : Nat) ({ cls := "NightjarModel", name := "learnLine", desc := "(II)V" } : Jvm.MethodName), Jvm.Cond.code ({ cls := "NightjarModel", name := "learnLine", desc := "(II)V" } : Jvm.MethodName) prog_9_method_11_code (5 : Nat) (Option.none : Option Jvm.ClassFile.FieldType), Jvm.Cond.instanceMethod ({ cls := "NightjarModel", name := "learnLine", desc := "(II)V" } : Jvm.MethodName), Cond.selects "NightjarModel" ⟨"NightjarModel", "learnLine", "(II)V"⟩ ⟨"NightjarModel", "learnLine", "(II)V"⟩, Jvm.Cond.methodLink "NightjarModel" (126 : Nat) ({ cls := "NightjarModel", name := "tellAll", desc := "()V" } : Jvm.MethodName), Jvm.Cond.code ({ cls := "NightjarModel", name := "tellAll", desc := "()V" } : Jvm.MethodName) prog_9_method_26_code (1 : Nat) (Option.none : Option Jvm.ClassFile.FieldType), Jvm.Cond.instanceMethod ({ cls := "NightjarModel", name := "tellAll", desc := "()V" } : Jvm.MethodName), Cond.selects "NightjarModel" ⟨"NightjarModel", "tellAll", "()V"⟩ ⟨"NightjarModel", "tellAll", "()V"⟩, Jvm.Cond.methodLink "NightjarModel" (129 : Nat) ({ cls := "NightjarModel", name := "manyNow", desc := "(I)I" } : Jvm.MethodName), Jvm.Cond.code ({ cls := "NightjarModel", name := "manyNow", desc := "(I)I" } : Jvm.MethodName) prog_9_method_25_code (4 : Nat) (Option.some Jvm.ClassFile.FieldType.int), Jvm.Cond.instanceMethod ({ cls := "NightjarModel", name := "manyNow", desc := "(I)I" } : Jvm.MethodName), Cond.selects "NightjarModel" ⟨"NightjarModel", "manyNow", "(I)I"⟩ ⟨"NightjarModel", "manyNow", "(I)I"⟩, Jvm.Cond.methodLink "NightjarModel" (153 : Nat) ({ cls := "NightjarModel", name := "isLine", desc := "(I)Z" } : Jvm.MethodName), Jvm.Cond.code ({ cls := "NightjarModel", name := "isLine", desc := "(I)Z" } : Jvm.MethodName) prog_9_method_5_code (2 : Nat) (Option.some Jvm.ClassFile.FieldType.boolean), Jvm.Cond.instanceMethod ({ cls := "NightjarModel", name := "isLine", desc := "(I)Z" } : Jvm.MethodName), Cond.selects "NightjarModel" ⟨"NightjarModel", "isLine", "(I)Z"⟩ ⟨"NightjarModel", "isLine", "(I)Z"⟩, Jvm.Cond.methodLink "NightjarModel" (156 : Nat) ({ cls := "NightjarModel", name := "ofLineNow", desc := "(II)I" } : Jvm.MethodName), Jvm.Cond.code ({ cls := "NightjarModel", name := "ofLineNow", desc := "(II)I" } : Jvm.MethodName) prog_9_method_34_code (3 : Nat) (Option.some Jvm.ClassFile.FieldType.int), Jvm.Cond.instanceMethod ({ cls := "NightjarModel", name := "ofLineNow", desc := "(II)I" } : Jvm.MethodName), Cond.selects "NightjarModel" ⟨"NightjarModel", "ofLineNow", "(II)I"⟩ ⟨"NightjarModel", "ofLineNow", "(II)I"⟩, Jvm.Cond.methodLink "NightjarModel" (167 : Nat) ({ cls := "NightjarModel", name := "isTemplate", desc := "(I)Z" } : Jvm.MethodName), Jvm.Cond.code ({ cls := "NightjarModel", name := "isTemplate", desc := "(I)Z" } : Jvm.MethodName) prog_9_method_6_code (2 : Nat) (Option.some Jvm.ClassFile.FieldType.boolean), Jvm.Cond.instanceMethod ({ cls := "NightjarModel", name := "isTemplate", desc := "(I)Z" } : Jvm.MethodName), Cond.selects "NightjarModel" ⟨"NightjarModel", "isTemplate", "(I)Z"⟩ ⟨"NightjarModel", "isTemplate", "(I)Z"⟩, Jvm.Cond.methodLink "NightjarModel" (170 : Nat) ({ cls := "NightjarModel", name := "ofTemplateNow", desc := "(II)I" } : Jvm.MethodName), Jvm.Cond.code ({ cls := "NightjarModel", name := "ofTemplateNow", desc := "(II)I" } : Jvm.MethodName) prog_9_method_37_code (7 : Nat) (Option.some Jvm.ClassFile.FieldType.int), Jvm.Cond.instanceMethod ({ cls := "NightjarModel", name := "ofTemplateNow", desc := "(II)I" } : Jvm.MethodName), Cond.selects "NightjarModel" ⟨"NightjarModel", "ofTemplateNow", "(II)I"⟩ ⟨"NightjarModel", "ofTemplateNow", "(II)I"⟩, Jvm.Cond.methodLink "NightjarModel" (176 : Nat) ({ cls := "NightjarModel", name := "valuesNow", desc := "(II)I" } : Jvm.MethodName), Jvm.Cond.code ({ cls := "NightjarModel", name := "valuesNow", desc := "(II)I" } : Jvm.MethodName) prog_9_method_41_code (7 : Nat) (Option.some Jvm.ClassFile.FieldType.int), Jvm.Cond.instanceMethod ({ cls := "NightjarModel", name := "valuesNow", desc := "(II)I" } : Jvm.MethodName), Cond.selects "NightjarModel" ⟨"NightjarModel", "valuesNow", "(II)I"⟩ ⟨"NightjarModel", "valuesNow", "(II)I"⟩, Jvm.Cond.methodLink "NightjarModel" (188 : Nat) ({ cls := "NightjarModel", name := "ofSessionNow", desc := "(II)I" } : Jvm.MethodName), Jvm.Cond.code ({ cls := "NightjarModel", name := "ofSessionNow", desc := "(II)I" } : Jvm.MethodName) prog_9_method_47_code (7 : Nat) (Option.some Jvm.ClassFile.FieldType.int)]
def zall_10 : List Jvm.Cond := [Jvm.Cond.instanceMethod ({ cls := "NightjarModel", name := "ofSessionNow", desc := "(II)I" } : Jvm.MethodName), Cond.selects "NightjarModel" ⟨"NightjarModel", "ofSessionNow", "(II)I"⟩ ⟨"NightjarModel", "ofSessionNow", "(II)I"⟩, Jvm.Cond.methodLink "NightjarModel" (191 : Nat) ({ cls := "NightjarModel", name := "usualNow", desc := "()I" } : Jvm.MethodName), Jvm.Cond.code ({ cls := "NightjarModel", name := "usualNow", desc := "()I" } : Jvm.MethodName) prog_9_method_50_code (5 : Nat) (Option.some Jvm.ClassFile.FieldType.int), Jvm.Cond.instanceMethod ({ cls := "NightjarModel", name := "usualNow", desc := "()I" } : Jvm.MethodName), Cond.selects "NightjarModel" ⟨"NightjarModel", "usualNow", "()I"⟩ ⟨"NightjarModel", "usualNow", "()I"⟩, Jvm.Cond.methodLink "NightjarModel" (195 : Nat) ({ cls := "NightjarModel", name := "spikeNow", desc := "(II)I" } : Jvm.MethodName), Jvm.Cond.code ({ cls := "NightjarModel", name := "spikeNow", desc := "(II)I" } : Jvm.MethodName) prog_9_method_54_code (3 : Nat) (Option.some Jvm.ClassFile.FieldType.int), Jvm.Cond.instanceMethod ({ cls := "NightjarModel", name := "spikeNow", desc := "(II)I" } : Jvm.MethodName), Cond.selects "NightjarModel" ⟨"NightjarModel", "spikeNow", "(II)I"⟩ ⟨"NightjarModel", "spikeNow", "(II)I"⟩, Jvm.Cond.methodLink "NightjarModel" (198 : Nat) ({ cls := "NightjarModel", name := "becauseNow", desc := "(I)I" } : Jvm.MethodName), Jvm.Cond.code ({ cls := "NightjarModel", name := "becauseNow", desc := "(I)I" } : Jvm.MethodName) prog_9_method_33_code (4 : Nat) (Option.some Jvm.ClassFile.FieldType.int), Jvm.Cond.instanceMethod ({ cls := "NightjarModel", name := "becauseNow", desc := "(I)I" } : Jvm.MethodName), Cond.selects "NightjarModel" ⟨"NightjarModel", "becauseNow", "(I)I"⟩ ⟨"NightjarModel", "becauseNow", "(I)I"⟩, Jvm.Cond.methodLink "NightjarModel" (202 : Nat) ({ cls := "NightjarModel", name := "putBy", desc := "(Z)[[I" } : Jvm.MethodName), Jvm.Cond.code ({ cls := "NightjarModel", name := "putBy", desc := "(Z)[[I" } : Jvm.MethodName) prog_9_method_59_code (3 : Nat) (Option.some (Jvm.ClassFile.FieldType.array (Jvm.ClassFile.FieldType.array Jvm.ClassFile.FieldType.int))), Jvm.Cond.instanceMethod ({ cls := "NightjarModel", name := "putBy", desc := "(Z)[[I" } : Jvm.MethodName), Cond.selects "NightjarModel" ⟨"NightjarModel", "putBy", "(Z)[[I"⟩ ⟨"NightjarModel", "putBy", "(Z)[[I"⟩, Jvm.Cond.methodLink "NightjarModel" (206 : Nat) ({ cls := "NightjarModel", name := "takeAgain", desc := "([[I)V" } : Jvm.MethodName), Jvm.Cond.code ({ cls := "NightjarModel", name := "takeAgain", desc := "([[I)V" } : Jvm.MethodName) prog_9_method_60_code (2 : Nat) (Option.none : Option Jvm.ClassFile.FieldType), Jvm.Cond.instanceMethod ({ cls := "NightjarModel", name := "takeAgain", desc := "([[I)V" } : Jvm.MethodName), Cond.selects "NightjarModel" ⟨"NightjarModel", "takeAgain", "([[I)V"⟩ ⟨"NightjarModel", "takeAgain", "([[I)V"⟩, Jvm.Cond.constantLong "NightjarModel" (210 : Nat) (58085 : Int64), Jvm.Cond.constantLong "NightjarModel" (212 : Nat) (31 : Int64), Jvm.Cond.methodLink "NightjarLaw" (7 : Nat) ({ cls := "Nightjar", name := "line", desc := "(III)I" } : Jvm.MethodName), Jvm.Cond.code ({ cls := "Nightjar", name := "line", desc := "(III)I" } : Jvm.MethodName) prog_1_method_2_code (5 : Nat) (Option.some Jvm.ClassFile.FieldType.int), Jvm.Cond.instanceMethod ({ cls := "Nightjar", name := "line", desc := "(III)I" } : Jvm.MethodName), Jvm.Cond.selects "Nightjar" ({ cls := "Nightjar", name := "line", desc := "(III)I" } : Jvm.MethodName) ({ cls := "Nightjar", name := "line", desc := "(III)I" } : Jvm.MethodName), Jvm.Cond.methodLink "NightjarLaw" (17 : Nat) ({ cls := "Nightjar", name := "word", desc := "(I)I" } : Jvm.MethodName), Jvm.Cond.code ({ cls := "Nightjar", name := "word", desc := "(I)I" } : Jvm.MethodName) prog_1_method_3_code (3 : Nat) (Option.some Jvm.ClassFile.FieldType.int), Jvm.Cond.instanceMethod ({ cls := "Nightjar", name := "word", desc := "(I)I" } : Jvm.MethodName), Jvm.Cond.selects "Nightjar" ({ cls := "Nightjar", name := "word", desc := "(I)I" } : Jvm.MethodName) ({ cls := "Nightjar", name := "word", desc := "(I)I" } : Jvm.MethodName), Jvm.Cond.methodLink "NightjarLaw" (21 : Nat) ({ cls := "Nightjar", name := "learn", desc := "(I)I" } : Jvm.MethodName), Jvm.Cond.code ({ cls := "Nightjar", name := "learn", desc := "(I)I" } : Jvm.MethodName) prog_1_method_4_code (6 : Nat) (Option.some Jvm.ClassFile.FieldType.int), Jvm.Cond.instanceMethod ({ cls := "Nightjar", name := "learn", desc := "(I)I" } : Jvm.MethodName), Jvm.Cond.selects "Nightjar" ({ cls := "Nightjar", name := "learn", desc := "(I)I" } : Jvm.MethodName) ({ cls := "Nightjar", name := "learn", desc := "(I)I" } : Jvm.MethodName), Jvm.Cond.methodLink "NightjarLaw" (24 : Nat) ({ cls := "Nightjar", name := "set", desc := "(II)I" } : Jvm.MethodName), Jvm.Cond.code ({ cls := "Nightjar", name := "set", desc := "(II)I" } : Jvm.MethodName) prog_1_method_5_code (6 : Nat) (Option.some Jvm.ClassFile.FieldType.int), Jvm.Cond.instanceMethod ({ cls := "Nightjar", name := "set", desc := "(II)I" } : Jvm.MethodName), Jvm.Cond.selects "Nightjar" ({ cls := "Nightjar", name := "set", desc := "(II)I" } : Jvm.MethodName) ({ cls := "Nightjar", name := "set", desc := "(II)I" } : Jvm.MethodName), Jvm.Cond.methodLink "NightjarLaw" (28 : Nat) ({ cls := "Nightjar", name := "many", desc := "(I)I" } : Jvm.MethodName), Jvm.Cond.methodLink "NightjarLaw" (31 : Nat) ({ cls := "Nightjar", name := "ofLine", desc := "(II)I" } : Jvm.MethodName), Jvm.Cond.methodLink "NightjarLaw" (36 : Nat) ({ cls := "Nightjar", name := "wordAt", desc := "(II)I" } : Jvm.MethodName), Jvm.Cond.code ({ cls := "Nightjar", name := "wordAt", desc := "(II)I" } : Jvm.MethodName) prog_1_method_9_code (3 : Nat) (Option.some Jvm.ClassFile.FieldType.int), Jvm.Cond.instanceMethod ({ cls := "Nightjar", name := "wordAt", desc := "(II)I" } : Jvm.MethodName), Jvm.Cond.selects "Nightjar" ({ cls := "Nightjar", name := "wordAt", desc := "(II)I" } : Jvm.MethodName) ({ cls := "Nightjar", name := "wordAt", desc := "(II)I" } : Jvm.MethodName), Jvm.Cond.methodLink "NightjarLaw" (39 : Nat) ({ cls := "Nightjar", name := "ofTemplate", desc := "(II)I" } : Jvm.MethodName), Jvm.Cond.methodLink "NightjarLaw" (42 : Nat) ({ cls := "Nightjar", name := "slot", desc := "(II)I" } : Jvm.MethodName), Jvm.Cond.methodLink "NightjarLaw" (45 : Nat) ({ cls := "Nightjar", name := "values", desc := "(II)I" } : Jvm.MethodName), Jvm.Cond.methodLink "NightjarLaw" (48 : Nat) ({ cls := "Nightjar", name := "alike", desc := "(II)I" } : Jvm.MethodName), Jvm.Cond.code ({ cls := "Nightjar", name := "alike", desc := "(II)I" } : Jvm.MethodName) prog_1_method_13_code (3 : Nat) (Option.some Jvm.ClassFile.FieldType.int), Jvm.Cond.instanceMethod ({ cls := "Nightjar", name := "alike", desc := "(II)I" } : Jvm.MethodName), Jvm.Cond.selects "Nightjar" ({ cls := "Nightjar", name := "alike", desc := "(II)I" } : Jvm.MethodName) ({ cls := "Nightjar", name := "alike", desc := "(II)I" } : Jvm.MethodName), Jvm.Cond.methodLink "NightjarLaw" (51 : Nat) ({ cls := "Nightjar", name := "ofSession", desc := "(II)I" } : Jvm.MethodName), Jvm.Cond.methodLink "NightjarLaw" (54 : Nat) ({ cls := "Nightjar", name := "inSession", desc := "(II)I" } : Jvm.MethodName), Jvm.Cond.code ({ cls := "Nightjar", name := "inSession", desc := "(II)I" } : Jvm.MethodName) prog_1_method_15_code (3 : Nat) (Option.some Jvm.ClassFile.FieldType.int), Jvm.Cond.instanceMethod ({ cls := "Nightjar", name := "inSession", desc := "(II)I" } : Jvm.MethodName), Jvm.Cond.selects "Nightjar" ({ cls := "Nightjar", name := "inSession", desc := "(II)I" } : Jvm.MethodName) ({ cls := "Nightjar", name := "inSession", desc := "(II)I" } : Jvm.MethodName), Jvm.Cond.methodLink "NightjarLaw" (57 : Nat) ({ cls := "Nightjar", name := "count", desc := "(II)I" } : Jvm.MethodName), Jvm.Cond.code ({ cls := "Nightjar", name := "count", desc := "(II)I" } : Jvm.MethodName) prog_1_method_18_code (3 : Nat) (Option.some Jvm.ClassFile.FieldType.int)]
def zall_11 : List Jvm.Cond := [Jvm.Cond.instanceMethod ({ cls := "Nightjar", name := "count", desc := "(II)I" } : Jvm.MethodName), Jvm.Cond.selects "Nightjar" ({ cls := "Nightjar", name := "count", desc := "(II)I" } : Jvm.MethodName) ({ cls := "Nightjar", name := "count", desc := "(II)I" } : Jvm.MethodName), Jvm.Cond.methodLink "NightjarLaw" (60 : Nat) ({ cls := "Nightjar", name := "spike", desc := "(II)I" } : Jvm.MethodName), Jvm.Cond.methodLink "NightjarLaw" (63 : Nat) ({ cls := "Nightjar", name := "causes", desc := "(I)I" } : Jvm.MethodName), Jvm.Cond.methodLink "NightjarLaw" (66 : Nat) ({ cls := "Nightjar", name := "cause", desc := "(III)I" } : Jvm.MethodName), Jvm.Cond.methodLink "NightjarLaw" (69 : Nat) ({ cls := "Nightjar", name := "because", desc := "(I)I" } : Jvm.MethodName), Jvm.Cond.methodLink "NightjarLaw" (72 : Nat) ({ cls := "Nightjar", name := "templatesWith", desc := "(I)I" } : Jvm.MethodName), Jvm.Cond.code ({ cls := "Nightjar", name := "templatesWith", desc := "(I)I" } : Jvm.MethodName) prog_1_method_23_code (3 : Nat) (Option.some Jvm.ClassFile.FieldType.int), Jvm.Cond.instanceMethod ({ cls := "Nightjar", name := "templatesWith", desc := "(I)I" } : Jvm.MethodName), Jvm.Cond.selects "Nightjar" ({ cls := "Nightjar", name := "templatesWith", desc := "(I)I" } : Jvm.MethodName) ({ cls := "Nightjar", name := "templatesWith", desc := "(I)I" } : Jvm.MethodName), Jvm.Cond.methodLink "NightjarLaw" (75 : Nat) ({ cls := "Nightjar", name := "sessionsWith", desc := "(I)I" } : Jvm.MethodName), Jvm.Cond.code ({ cls := "Nightjar", name := "sessionsWith", desc := "(I)I" } : Jvm.MethodName) prog_1_method_24_code (4 : Nat) (Option.some Jvm.ClassFile.FieldType.int), Jvm.Cond.instanceMethod ({ cls := "Nightjar", name := "sessionsWith", desc := "(I)I" } : Jvm.MethodName), Jvm.Cond.selects "Nightjar" ({ cls := "Nightjar", name := "sessionsWith", desc := "(I)I" } : Jvm.MethodName) ({ cls := "Nightjar", name := "sessionsWith", desc := "(I)I" } : Jvm.MethodName), Jvm.Cond.methodLink "NightjarLaw" (78 : Nat) ({ cls := "Nightjar", name := "wouldBe", desc := "(I)I" } : Jvm.MethodName), Jvm.Cond.code ({ cls := "Nightjar", name := "wouldBe", desc := "(I)I" } : Jvm.MethodName) prog_1_method_25_code (2 : Nat) (Option.some Jvm.ClassFile.FieldType.int), Jvm.Cond.instanceMethod ({ cls := "Nightjar", name := "wouldBe", desc := "(I)I" } : Jvm.MethodName), Jvm.Cond.selects "Nightjar" ({ cls := "Nightjar", name := "wouldBe", desc := "(I)I" } : Jvm.MethodName) ({ cls := "Nightjar", name := "wouldBe", desc := "(I)I" } : Jvm.MethodName), Jvm.Cond.classLink "NightjarLaw" (8 : Nat) "Nightjar", Jvm.Cond.instantiable "Nightjar" (7 : Nat), Jvm.Cond.methodLink "NightjarLaw" (81 : Nat) ({ cls := "Nightjar", name := "<init>", desc := "()V" } : Jvm.MethodName), Jvm.Cond.code ({ cls := "Nightjar", name := "<init>", desc := "()V" } : Jvm.MethodName) prog_1_method_1_code (1 : Nat) (Option.none : Option Jvm.ClassFile.FieldType), Jvm.Cond.instanceMethod ({ cls := "Nightjar", name := "<init>", desc := "()V" } : Jvm.MethodName), Jvm.Cond.classLink "NightjarLaw" (82 : Nat) "NightjarModel", Jvm.Cond.instantiable "NightjarModel" (22 : Nat), Jvm.Cond.methodLink "NightjarLaw" (84 : Nat) ({ cls := "NightjarModel", name := "<init>", desc := "()V" } : Jvm.MethodName), Jvm.Cond.code ({ cls := "NightjarModel", name := "<init>", desc := "()V" } : Jvm.MethodName) prog_9_method_1_code (1 : Nat) (Option.none : Option Jvm.ClassFile.FieldType), Jvm.Cond.instanceMethod ({ cls := "NightjarModel", name := "<init>", desc := "()V" } : Jvm.MethodName), Jvm.Cond.arrayClass Jvm.ClassFile.FieldType.long, Jvm.Cond.methodLink "NightjarLaw" (85 : Nat) ({ cls := "NightjarLaw", name := "line", desc := "(LNightjar;III[J)I" } : Jvm.MethodName), Jvm.Cond.methodLink "NightjarLaw" (90 : Nat) ({ cls := "NightjarModel", name := "line", desc := "(III)I" } : Jvm.MethodName), Jvm.Cond.code ({ cls := "NightjarModel", name := "line", desc := "(III)I" } : Jvm.MethodName) prog_9_method_7_code (4 : Nat) (Option.some Jvm.ClassFile.FieldType.int), Jvm.Cond.instanceMethod ({ cls := "NightjarModel", name := "line", desc := "(III)I" } : Jvm.MethodName), Jvm.Cond.selects "NightjarModel" ({ cls := "NightjarModel", name := "line", desc := "(III)I" } : Jvm.MethodName) ({ cls := "NightjarModel", name := "line", desc := "(III)I" } : Jvm.MethodName), Jvm.Cond.methodLink "NightjarLaw" (91 : Nat) ({ cls := "NightjarModel", name := "thrown", desc := "()I" } : Jvm.MethodName), Jvm.Cond.code ({ cls := "NightjarModel", name := "thrown", desc := "()I" } : Jvm.MethodName) prog_9_method_2_code (1 : Nat) (Option.some Jvm.ClassFile.FieldType.int), Jvm.Cond.instanceMethod ({ cls := "NightjarModel", name := "thrown", desc := "()I" } : Jvm.MethodName), Jvm.Cond.selects "NightjarModel" ({ cls := "NightjarModel", name := "thrown", desc := "()I" } : Jvm.MethodName) ({ cls := "NightjarModel", name := "thrown", desc := "()I" } : Jvm.MethodName), Jvm.Cond.methodLink "NightjarLaw" (95 : Nat) ({ cls := "NightjarLaw", name := "word", desc := "(LNightjar;I[J)I" } : Jvm.MethodName), Jvm.Cond.methodLink "NightjarLaw" (98 : Nat) ({ cls := "NightjarModel", name := "word", desc := "(I)I" } : Jvm.MethodName), Jvm.Cond.code ({ cls := "NightjarModel", name := "word", desc := "(I)I" } : Jvm.MethodName) prog_9_method_8_code (2 : Nat) (Option.some Jvm.ClassFile.FieldType.int), Jvm.Cond.instanceMethod ({ cls := "NightjarModel", name := "word", desc := "(I)I" } : Jvm.MethodName), Jvm.Cond.selects "NightjarModel" ({ cls := "NightjarModel", name := "word", desc := "(I)I" } : Jvm.MethodName) ({ cls := "NightjarModel", name := "word", desc := "(I)I" } : Jvm.MethodName), Jvm.Cond.methodLink "NightjarLaw" (99 : Nat) ({ cls := "NightjarLaw", name := "learn", desc := "(LNightjar;I[J)I" } : Jvm.MethodName), Jvm.Cond.methodLink "NightjarLaw" (101 : Nat) ({ cls := "NightjarModel", name := "learn", desc := "(I)I" } : Jvm.MethodName), Jvm.Cond.code ({ cls := "NightjarModel", name := "learn", desc := "(I)I" } : Jvm.MethodName) prog_9_method_14_code (3 : Nat) (Option.some Jvm.ClassFile.FieldType.int), Jvm.Cond.instanceMethod ({ cls := "NightjarModel", name := "learn", desc := "(I)I" } : Jvm.MethodName), Jvm.Cond.selects "NightjarModel" ({ cls := "NightjarModel", name := "learn", desc := "(I)I" } : Jvm.MethodName) ({ cls := "NightjarModel", name := "learn", desc := "(I)I" } : Jvm.MethodName), Jvm.Cond.methodLink "NightjarLaw" (102 : Nat) ({ cls := "NightjarLaw", name := "set", desc := "(LNightjar;II[J)I" } : Jvm.MethodName), Jvm.Cond.methodLink "NightjarLaw" (105 : Nat) ({ cls := "NightjarModel", name := "set", desc := "(II)I" } : Jvm.MethodName), Jvm.Cond.code ({ cls := "NightjarModel", name := "set", desc := "(II)I" } : Jvm.MethodName) prog_9_method_15_code (4 : Nat) (Option.some Jvm.ClassFile.FieldType.int), Jvm.Cond.instanceMethod ({ cls := "NightjarModel", name := "set", desc := "(II)I" } : Jvm.MethodName), Jvm.Cond.selects "NightjarModel" ({ cls := "NightjarModel", name := "set", desc := "(II)I" } : Jvm.MethodName) ({ cls := "NightjarModel", name := "set", desc := "(II)I" } : Jvm.MethodName), Jvm.Cond.methodLink "NightjarLaw" (106 : Nat) ({ cls := "Nightjar", name := "forget", desc := "()I" } : Jvm.MethodName), Jvm.Cond.code ({ cls := "Nightjar", name := "forget", desc := "()I" } : Jvm.MethodName) prog_1_method_6_code (2 : Nat) (Option.some Jvm.ClassFile.FieldType.int), Jvm.Cond.instanceMethod ({ cls := "Nightjar", name := "forget", desc := "()I" } : Jvm.MethodName), Jvm.Cond.selects "Nightjar" ({ cls := "Nightjar", name := "forget", desc := "()I" } : Jvm.MethodName) ({ cls := "Nightjar", name := "forget", desc := "()I" } : Jvm.MethodName), Jvm.Cond.methodLink "NightjarLaw" (109 : Nat) ({ cls := "NightjarModel", name := "forget", desc := "()I" } : Jvm.MethodName), Jvm.Cond.code ({ cls := "NightjarModel", name := "forget", desc := "()I" } : Jvm.MethodName) prog_9_method_16_code (2 : Nat) (Option.some Jvm.ClassFile.FieldType.int), Jvm.Cond.instanceMethod ({ cls := "NightjarModel", name := "forget", desc := "()I" } : Jvm.MethodName)]
def zall_12 : List Jvm.Cond := [Jvm.Cond.selects "NightjarModel" ({ cls := "NightjarModel", name := "forget", desc := "()I" } : Jvm.MethodName) ({ cls := "NightjarModel", name := "forget", desc := "()I" } : Jvm.MethodName), Jvm.Cond.methodLink "NightjarLaw" (110 : Nat) ({ cls := "NightjarLaw", name := "many", desc := "(LNightjar;I[J)I" } : Jvm.MethodName), Jvm.Cond.methodLink "NightjarLaw" (112 : Nat) ({ cls := "NightjarModel", name := "many", desc := "(I)I" } : Jvm.MethodName), Jvm.Cond.code ({ cls := "NightjarModel", name := "many", desc := "(I)I" } : Jvm.MethodName) prog_9_method_27_code (2 : Nat) (Option.some Jvm.ClassFile.FieldType.int), Jvm.Cond.instanceMethod ({ cls := "NightjarModel", name := "many", desc := "(I)I" } : Jvm.MethodName), Jvm.Cond.selects "NightjarModel" ({ cls := "NightjarModel", name := "many", desc := "(I)I" } : Jvm.MethodName) ({ cls := "NightjarModel", name := "many", desc := "(I)I" } : Jvm.MethodName), Jvm.Cond.methodLink "NightjarLaw" (113 : Nat) ({ cls := "NightjarLaw", name := "ofLine", desc := "(LNightjar;II[J)I" } : Jvm.MethodName), Jvm.Cond.methodLink "NightjarLaw" (115 : Nat) ({ cls := "NightjarModel", name := "ofLine", desc := "(II)I" } : Jvm.MethodName), Jvm.Cond.code ({ cls := "NightjarModel", name := "ofLine", desc := "(II)I" } : Jvm.MethodName) prog_9_method_35_code (3 : Nat) (Option.some Jvm.ClassFile.FieldType.int), Jvm.Cond.instanceMethod ({ cls := "NightjarModel", name := "ofLine", desc := "(II)I" } : Jvm.MethodName), Jvm.Cond.selects "NightjarModel" ({ cls := "NightjarModel", name := "ofLine", desc := "(II)I" } : Jvm.MethodName) ({ cls := "NightjarModel", name := "ofLine", desc := "(II)I" } : Jvm.MethodName), Jvm.Cond.methodLink "NightjarLaw" (116 : Nat) ({ cls := "NightjarLaw", name := "wordAt", desc := "(LNightjar;II[J)I" } : Jvm.MethodName), Jvm.Cond.methodLink "NightjarLaw" (118 : Nat) ({ cls := "NightjarModel", name := "wordAt", desc := "(II)I" } : Jvm.MethodName), Jvm.Cond.code ({ cls := "NightjarModel", name := "wordAt", desc := "(II)I" } : Jvm.MethodName) prog_9_method_36_code (3 : Nat) (Option.some Jvm.ClassFile.FieldType.int), Jvm.Cond.instanceMethod ({ cls := "NightjarModel", name := "wordAt", desc := "(II)I" } : Jvm.MethodName), Jvm.Cond.selects "NightjarModel" ({ cls := "NightjarModel", name := "wordAt", desc := "(II)I" } : Jvm.MethodName) ({ cls := "NightjarModel", name := "wordAt", desc := "(II)I" } : Jvm.MethodName), Jvm.Cond.methodLink "NightjarLaw" (119 : Nat) ({ cls := "NightjarLaw", name := "ofTemplate", desc := "(LNightjar;II[J)I" } : Jvm.MethodName), Jvm.Cond.methodLink "NightjarLaw" (121 : Nat) ({ cls := "NightjarModel", name := "ofTemplate", desc := "(II)I" } : Jvm.MethodName), Jvm.Cond.code ({ cls := "NightjarModel", name := "ofTemplate", desc := "(II)I" } : Jvm.MethodName) prog_9_method_38_code (3 : Nat) (Option.some Jvm.ClassFile.FieldType.int), Jvm.Cond.instanceMethod ({ cls := "NightjarModel", name := "ofTemplate", desc := "(II)I" } : Jvm.MethodName), Jvm.Cond.selects "NightjarModel" ({ cls := "NightjarModel", name := "ofTemplate", desc := "(II)I" } : Jvm.MethodName) ({ cls := "NightjarModel", name := "ofTemplate", desc := "(II)I" } : Jvm.MethodName), Jvm.Cond.methodLink "NightjarLaw" (122 : Nat) ({ cls := "NightjarLaw", name := "slot", desc := "(LNightjar;II[J)I" } : Jvm.MethodName), Jvm.Cond.methodLink "NightjarLaw" (124 : Nat) ({ cls := "NightjarModel", name := "slot", desc := "(II)I" } : Jvm.MethodName), Jvm.Cond.code ({ cls := "NightjarModel", name := "slot", desc := "(II)I" } : Jvm.MethodName) prog_9_method_39_code (3 : Nat) (Option.some Jvm.ClassFile.FieldType.int), Jvm.Cond.instanceMethod ({ cls := "NightjarModel", name := "slot", desc := "(II)I" } : Jvm.MethodName), Jvm.Cond.selects "NightjarModel" ({ cls := "NightjarModel", name := "slot", desc := "(II)I" } : Jvm.MethodName) ({ cls := "NightjarModel", name := "slot", desc := "(II)I" } : Jvm.MethodName), Jvm.Cond.methodLink "NightjarLaw" (125 : Nat) ({ cls := "NightjarLaw", name := "values", desc := "(LNightjar;II[J)I" } : Jvm.MethodName), Jvm.Cond.methodLink "NightjarLaw" (127 : Nat) ({ cls := "NightjarModel", name := "values", desc := "(II)I" } : Jvm.MethodName), Jvm.Cond.code ({ cls := "NightjarModel", name := "values", desc := "(II)I" } : Jvm.MethodName) prog_9_method_42_code (3 : Nat) (Option.some Jvm.ClassFile.FieldType.int), Jvm.Cond.instanceMethod ({ cls := "NightjarModel", name := "values", desc := "(II)I" } : Jvm.MethodName), Jvm.Cond.selects "NightjarModel" ({ cls := "NightjarModel", name := "values", desc := "(II)I" } : Jvm.MethodName) ({ cls := "NightjarModel", name := "values", desc := "(II)I" } : Jvm.MethodName), Jvm.Cond.methodLink "NightjarLaw" (128 : Nat) ({ cls := "NightjarLaw", name := "alike", desc := "(LNightjar;II[J)I" } : Jvm.MethodName), Jvm.Cond.methodLink "NightjarLaw" (130 : Nat) ({ cls := "NightjarModel", name := "alike", desc := "(II)I" } : Jvm.MethodName), Jvm.Cond.code ({ cls := "NightjarModel", name := "alike", desc := "(II)I" } : Jvm.MethodName) prog_9_method_43_code (3 : Nat) (Option.some Jvm.ClassFile.FieldType.int), Jvm.Cond.instanceMethod ({ cls := "NightjarModel", name := "alike", desc := "(II)I" } : Jvm.MethodName), Jvm.Cond.selects "NightjarModel" ({ cls := "NightjarModel", name := "alike", desc := "(II)I" } : Jvm.MethodName) ({ cls := "NightjarModel", name := "alike", desc := "(II)I" } : Jvm.MethodName), Jvm.Cond.methodLink "NightjarLaw" (131 : Nat) ({ cls := "NightjarLaw", name := "ofSession", desc := "(LNightjar;II[J)I" } : Jvm.MethodName), Jvm.Cond.methodLink "NightjarLaw" (133 : Nat) ({ cls := "NightjarModel", name := "ofSession", desc := "(II)I" } : Jvm.MethodName), Jvm.Cond.code ({ cls := "NightjarModel", name := "ofSession", desc := "(II)I" } : Jvm.MethodName) prog_9_method_48_code (3 : Nat) (Option.some Jvm.ClassFile.FieldType.int), Jvm.Cond.instanceMethod ({ cls := "NightjarModel", name := "ofSession", desc := "(II)I" } : Jvm.MethodName), Jvm.Cond.selects "NightjarModel" ({ cls := "NightjarModel", name := "ofSession", desc := "(II)I" } : Jvm.MethodName) ({ cls := "NightjarModel", name := "ofSession", desc := "(II)I" } : Jvm.MethodName), Jvm.Cond.methodLink "NightjarLaw" (134 : Nat) ({ cls := "NightjarLaw", name := "inSession", desc := "(LNightjar;II[J)I" } : Jvm.MethodName), Jvm.Cond.methodLink "NightjarLaw" (136 : Nat) ({ cls := "NightjarModel", name := "inSession", desc := "(II)I" } : Jvm.MethodName), Jvm.Cond.code ({ cls := "NightjarModel", name := "inSession", desc := "(II)I" } : Jvm.MethodName) prog_9_method_49_code (5 : Nat) (Option.some Jvm.ClassFile.FieldType.int), Jvm.Cond.instanceMethod ({ cls := "NightjarModel", name := "inSession", desc := "(II)I" } : Jvm.MethodName), Jvm.Cond.selects "NightjarModel" ({ cls := "NightjarModel", name := "inSession", desc := "(II)I" } : Jvm.MethodName) ({ cls := "NightjarModel", name := "inSession", desc := "(II)I" } : Jvm.MethodName), Jvm.Cond.methodLink "NightjarLaw" (137 : Nat) ({ cls := "Nightjar", name := "usual", desc := "()I" } : Jvm.MethodName), Jvm.Cond.methodLink "NightjarLaw" (140 : Nat) ({ cls := "NightjarModel", name := "usual", desc := "()I" } : Jvm.MethodName), Jvm.Cond.code ({ cls := "NightjarModel", name := "usual", desc := "()I" } : Jvm.MethodName) prog_9_method_51_code (1 : Nat) (Option.some Jvm.ClassFile.FieldType.int), Jvm.Cond.instanceMethod ({ cls := "NightjarModel", name := "usual", desc := "()I" } : Jvm.MethodName), Jvm.Cond.selects "NightjarModel" ({ cls := "NightjarModel", name := "usual", desc := "()I" } : Jvm.MethodName) ({ cls := "NightjarModel", name := "usual", desc := "()I" } : Jvm.MethodName), Jvm.Cond.methodLink "NightjarLaw" (141 : Nat) ({ cls := "Nightjar", name := "meanSession", desc := "()D" } : Jvm.MethodName), Jvm.Cond.code ({ cls := "Nightjar", name := "meanSession", desc := "()D" } : Jvm.MethodName) prog_1_method_17_code (1 : Nat) (Option.some Jvm.ClassFile.FieldType.double), Jvm.Cond.instanceMethod ({ cls := "Nightjar", name := "meanSession", desc := "()D" } : Jvm.MethodName), Jvm.Cond.selects "Nightjar" ({ cls := "Nightjar", name := "meanSession", desc := "()D" } : Jvm.MethodName) ({ cls := "Nightjar", name := "meanSession", desc := "()D" } : Jvm.MethodName), Jvm.Cond.methodLink "NightjarLaw" (145 : Nat) ({ cls := "NightjarModel", name := "meanSession", desc := "()D" } : Jvm.MethodName), Jvm.Cond.code ({ cls := "NightjarModel", name := "meanSession", desc := "()D" } : Jvm.MethodName) prog_9_method_52_code (3 : Nat) (Option.some Jvm.ClassFile.FieldType.double), Jvm.Cond.instanceMethod ({ cls := "NightjarModel", name := "meanSession", desc := "()D" } : Jvm.MethodName), Jvm.Cond.selects "NightjarModel" ({ cls := "NightjarModel", name := "meanSession", desc := "()D" } : Jvm.MethodName) ({ cls := "NightjarModel", name := "meanSession", desc := "()D" } : Jvm.MethodName), Jvm.Cond.methodLink "NightjarLaw" (146 : Nat) ({ cls := "NightjarLaw", name := "count", desc := "(LNightjar;II[J)I" } : Jvm.MethodName)]
def zall_13 : List Jvm.Cond := [Jvm.Cond.methodLink "NightjarLaw" (148 : Nat) ({ cls := "NightjarModel", name := "count", desc := "(II)I" } : Jvm.MethodName), Jvm.Cond.code ({ cls := "NightjarModel", name := "count", desc := "(II)I" } : Jvm.MethodName) prog_9_method_53_code (3 : Nat) (Option.some Jvm.ClassFile.FieldType.int), Jvm.Cond.instanceMethod ({ cls := "NightjarModel", name := "count", desc := "(II)I" } : Jvm.MethodName), Jvm.Cond.selects "NightjarModel" ({ cls := "NightjarModel", name := "count", desc := "(II)I" } : Jvm.MethodName) ({ cls := "NightjarModel", name := "count", desc := "(II)I" } : Jvm.MethodName), Jvm.Cond.methodLink "NightjarLaw" (149 : Nat) ({ cls := "NightjarLaw", name := "spike", desc := "(LNightjar;II[J)I" } : Jvm.MethodName), Jvm.Cond.methodLink "NightjarLaw" (151 : Nat) ({ cls := "NightjarModel", name := "spike", desc := "(II)I" } : Jvm.MethodName), Jvm.Cond.code ({ cls := "NightjarModel", name := "spike", desc := "(II)I" } : Jvm.MethodName) prog_9_method_55_code (3 : Nat) (Option.some Jvm.ClassFile.FieldType.int), Jvm.Cond.instanceMethod ({ cls := "NightjarModel", name := "spike", desc := "(II)I" } : Jvm.MethodName), Jvm.Cond.selects "NightjarModel" ({ cls := "NightjarModel", name := "spike", desc := "(II)I" } : Jvm.MethodName) ({ cls := "NightjarModel", name := "spike", desc := "(II)I" } : Jvm.MethodName), Jvm.Cond.methodLink "NightjarLaw" (152 : Nat) ({ cls := "NightjarLaw", name := "causes", desc := "(LNightjar;I[J)I" } : Jvm.MethodName), Jvm.Cond.methodLink "NightjarLaw" (154 : Nat) ({ cls := "NightjarModel", name := "causes", desc := "(I)I" } : Jvm.MethodName), Jvm.Cond.code ({ cls := "NightjarModel", name := "causes", desc := "(I)I" } : Jvm.MethodName) prog_9_method_56_code (2 : Nat) (Option.some Jvm.ClassFile.FieldType.int), Jvm.Cond.instanceMethod ({ cls := "NightjarModel", name := "causes", desc := "(I)I" } : Jvm.MethodName), Jvm.Cond.selects "NightjarModel" ({ cls := "NightjarModel", name := "causes", desc := "(I)I" } : Jvm.MethodName) ({ cls := "NightjarModel", name := "causes", desc := "(I)I" } : Jvm.MethodName), Jvm.Cond.methodLink "NightjarLaw" (155 : Nat) ({ cls := "NightjarLaw", name := "cause", desc := "(LNightjar;III[J)I" } : Jvm.MethodName), Jvm.Cond.methodLink "NightjarLaw" (157 : Nat) ({ cls := "NightjarModel", name := "cause", desc := "(III)I" } : Jvm.MethodName), Jvm.Cond.code ({ cls := "NightjarModel", name := "cause", desc := "(III)I" } : Jvm.MethodName) prog_9_method_57_code (4 : Nat) (Option.some Jvm.ClassFile.FieldType.int), Jvm.Cond.instanceMethod ({ cls := "NightjarModel", name := "cause", desc := "(III)I" } : Jvm.MethodName), Jvm.Cond.selects "NightjarModel" ({ cls := "NightjarModel", name := "cause", desc := "(III)I" } : Jvm.MethodName) ({ cls := "NightjarModel", name := "cause", desc := "(III)I" } : Jvm.MethodName), Jvm.Cond.methodLink "NightjarLaw" (158 : Nat) ({ cls := "NightjarLaw", name := "because", desc := "(LNightjar;I[J)I" } : Jvm.MethodName), Jvm.Cond.methodLink "NightjarLaw" (160 : Nat) ({ cls := "NightjarModel", name := "because", desc := "(I)I" } : Jvm.MethodName), Jvm.Cond.code ({ cls := "NightjarModel", name := "because", desc := "(I)I" } : Jvm.MethodName) prog_9_method_58_code (2 : Nat) (Option.some Jvm.ClassFile.FieldType.int), Jvm.Cond.instanceMethod ({ cls := "NightjarModel", name := "because", desc := "(I)I" } : Jvm.MethodName), Jvm.Cond.selects "NightjarModel" ({ cls := "NightjarModel", name := "because", desc := "(I)I" } : Jvm.MethodName) ({ cls := "NightjarModel", name := "because", desc := "(I)I" } : Jvm.MethodName), Jvm.Cond.methodLink "NightjarLaw" (161 : Nat) ({ cls := "NightjarLaw", name := "templatesWith", desc := "(LNightjar;I[J)I" } : Jvm.MethodName), Jvm.Cond.methodLink "NightjarLaw" (163 : Nat) ({ cls := "NightjarModel", name := "templatesWith", desc := "(I)I" } : Jvm.MethodName), Jvm.Cond.code ({ cls := "NightjarModel", name := "templatesWith", desc := "(I)I" } : Jvm.MethodName) prog_9_method_61_code (4 : Nat) (Option.some Jvm.ClassFile.FieldType.int), Jvm.Cond.instanceMethod ({ cls := "NightjarModel", name := "templatesWith", desc := "(I)I" } : Jvm.MethodName), Jvm.Cond.selects "NightjarModel" ({ cls := "NightjarModel", name := "templatesWith", desc := "(I)I" } : Jvm.MethodName) ({ cls := "NightjarModel", name := "templatesWith", desc := "(I)I" } : Jvm.MethodName), Jvm.Cond.methodLink "NightjarLaw" (164 : Nat) ({ cls := "NightjarLaw", name := "sessionsWith", desc := "(LNightjar;I[J)I" } : Jvm.MethodName), Jvm.Cond.methodLink "NightjarLaw" (166 : Nat) ({ cls := "NightjarModel", name := "sessionsWith", desc := "(I)I" } : Jvm.MethodName), Jvm.Cond.code ({ cls := "NightjarModel", name := "sessionsWith", desc := "(I)I" } : Jvm.MethodName) prog_9_method_62_code (2 : Nat) (Option.some Jvm.ClassFile.FieldType.int), Jvm.Cond.instanceMethod ({ cls := "NightjarModel", name := "sessionsWith", desc := "(I)I" } : Jvm.MethodName), Jvm.Cond.selects "NightjarModel" ({ cls := "NightjarModel", name := "sessionsWith", desc := "(I)I" } : Jvm.MethodName) ({ cls := "NightjarModel", name := "sessionsWith", desc := "(I)I" } : Jvm.MethodName), Jvm.Cond.methodLink "NightjarLaw" (167 : Nat) ({ cls := "NightjarLaw", name := "wouldBe", desc := "(LNightjar;I[J)I" } : Jvm.MethodName), Jvm.Cond.methodLink "NightjarLaw" (169 : Nat) ({ cls := "NightjarModel", name := "wouldBe", desc := "(I)I" } : Jvm.MethodName), Jvm.Cond.code ({ cls := "NightjarModel", name := "wouldBe", desc := "(I)I" } : Jvm.MethodName) prog_9_method_63_code (4 : Nat) (Option.some Jvm.ClassFile.FieldType.int), Jvm.Cond.instanceMethod ({ cls := "NightjarModel", name := "wouldBe", desc := "(I)I" } : Jvm.MethodName), Jvm.Cond.selects "NightjarModel" ({ cls := "NightjarModel", name := "wouldBe", desc := "(I)I" } : Jvm.MethodName) ({ cls := "NightjarModel", name := "wouldBe", desc := "(I)I" } : Jvm.MethodName), Jvm.Cond.methodLink "NightjarLaw" (170 : Nat) ({ cls := "Nightjar", name := "digest", desc := "()J" } : Jvm.MethodName), Jvm.Cond.code ({ cls := "Nightjar", name := "digest", desc := "()J" } : Jvm.MethodName) prog_1_method_26_code (5 : Nat) (Option.some Jvm.ClassFile.FieldType.long), Jvm.Cond.instanceMethod ({ cls := "Nightjar", name := "digest", desc := "()J" } : Jvm.MethodName), Jvm.Cond.selects "Nightjar" ({ cls := "Nightjar", name := "digest", desc := "()J" } : Jvm.MethodName) ({ cls := "Nightjar", name := "digest", desc := "()J" } : Jvm.MethodName), Jvm.Cond.methodLink "NightjarLaw" (174 : Nat) ({ cls := "NightjarModel", name := "digest", desc := "()J" } : Jvm.MethodName), Jvm.Cond.code ({ cls := "NightjarModel", name := "digest", desc := "()J" } : Jvm.MethodName) prog_9_method_64_code (5 : Nat) (Option.some Jvm.ClassFile.FieldType.long), Jvm.Cond.instanceMethod ({ cls := "NightjarModel", name := "digest", desc := "()J" } : Jvm.MethodName), Jvm.Cond.selects "NightjarModel" ({ cls := "NightjarModel", name := "digest", desc := "()J" } : Jvm.MethodName) ({ cls := "NightjarModel", name := "digest", desc := "()J" } : Jvm.MethodName), Jvm.Cond.laysFinal "Nightjar$Lines" "Nightjar$Lines" "times" "LNightjar$Row;", Jvm.Cond.laysFinal "Nightjar$Lines" "Nightjar$Lines" "sources" "LNightjar$Row;", Jvm.Cond.laysFinal "Nightjar$Lines" "Nightjar$Lines" "levels" "LNightjar$Row;", Jvm.Cond.laysFinal "Nightjar$Lines" "Nightjar$Lines" "sizes" "LNightjar$Row;", Jvm.Cond.laysFinal "Nightjar$Lines" "Nightjar$Lines" "words" "LNightjar$Row;", Jvm.Cond.laysFinal "Nightjar$Lines" "Nightjar$Lines" "templateOf" "LNightjar$Row;", Jvm.Cond.laysFinal "Nightjar$Lines" "Nightjar$Lines" "keys" "LNightjar$Row;", Jvm.Cond.lays "Nightjar$Lines" "Nightjar$Lines" "number" "I", Jvm.Cond.lays "Nightjar$Lines" "Nightjar$Lines" "learned" "I", Jvm.Cond.laysFinal "Nightjar$Row" "Nightjar$Row" "cells" "[I", Jvm.Cond.laysFinal "Nightjar$Scenes" "Nightjar$Scenes" "sizes" "LNightjar$Row;", Jvm.Cond.laysFinal "Nightjar$Scenes" "Nightjar$Scenes" "masks" "LNightjar$Row;", Jvm.Cond.laysFinal "Nightjar$Scenes" "Nightjar$Scenes" "together" "LNightjar$Row;"]
def zall_14 : List Jvm.Cond := [Jvm.Cond.laysFinal "Nightjar$Scenes" "Nightjar$Scenes" "all" "LNightjar$Row;", Jvm.Cond.laysFinal "Nightjar$Scenes" "Nightjar$Scenes" "lineNumbers" "LNightjar$Row;", Jvm.Cond.laysFinal "Nightjar$Scenes" "Nightjar$Scenes" "scores" "LNightjar$Row;", Jvm.Cond.laysFinal "Nightjar$Scenes" "Nightjar$Scenes" "ranking" "LNightjar$Row;", Jvm.Cond.laysFinal "Nightjar$Scenes" "Nightjar$Scenes" "causeNumbers" "LNightjar$Row;", Jvm.Cond.laysFinal "Nightjar$Sessions" "Nightjar$Sessions" "sessionOf" "LNightjar$Row;", Jvm.Cond.laysFinal "Nightjar$Sessions" "Nightjar$Sessions" "nexts" "LNightjar$Row;", Jvm.Cond.laysFinal "Nightjar$Sessions" "Nightjar$Sessions" "firsts" "LNightjar$Row;", Jvm.Cond.laysFinal "Nightjar$Sessions" "Nightjar$Sessions" "lasts" "LNightjar$Row;", Jvm.Cond.laysFinal "Nightjar$Sessions" "Nightjar$Sessions" "sizes" "LNightjar$Row;", Jvm.Cond.laysFinal "Nightjar$Sessions" "Nightjar$Sessions" "worst" "LNightjar$Row;", Jvm.Cond.laysFinal "Nightjar$Sessions" "Nightjar$Sessions" "paths" "LNightjar$Row;", Jvm.Cond.laysFinal "Nightjar$Sessions" "Nightjar$Sessions" "users" "LNightjar$Row;", Jvm.Cond.lays "Nightjar$Sessions" "Nightjar$Sessions" "number" "I", Jvm.Cond.laysFinal "Nightjar$Spikes" "Nightjar$Spikes" "windows" "LNightjar$Row;", Jvm.Cond.laysFinal "Nightjar$Spikes" "Nightjar$Spikes" "templates" "LNightjar$Row;", Jvm.Cond.laysFinal "Nightjar$Spikes" "Nightjar$Spikes" "counts" "LNightjar$Row;", Jvm.Cond.laysFinal "Nightjar$Spikes" "Nightjar$Spikes" "inWindow" "LNightjar$Row;", Jvm.Cond.lays "Nightjar$Spikes" "Nightjar$Spikes" "number" "I", Jvm.Cond.laysFinal "Nightjar$Templates" "Nightjar$Templates" "sizes" "LNightjar$Row;", Jvm.Cond.laysFinal "Nightjar$Templates" "Nightjar$Templates" "slots" "LNightjar$Row;", Jvm.Cond.lays "Nightjar$Templates" "Nightjar$Templates" "number" "I", Jvm.Cond.laysFinal "Nightjar" "Nightjar" "lines" "LNightjar$Lines;", Jvm.Cond.laysFinal "Nightjar" "Nightjar" "templates" "LNightjar$Templates;", Jvm.Cond.laysFinal "Nightjar" "Nightjar" "trial" "LNightjar$Templates;", Jvm.Cond.laysFinal "Nightjar" "Nightjar" "sessions" "LNightjar$Sessions;", Jvm.Cond.laysFinal "Nightjar" "Nightjar" "spikes" "LNightjar$Spikes;", Jvm.Cond.laysFinal "Nightjar" "Nightjar" "scenes" "LNightjar$Scenes;", Jvm.Cond.laysFinal "Nightjar" "Nightjar" "settings" "LNightjar$Row;", Jvm.Cond.lays "NightjarModel" "NightjarModel" "thrown" "I", Jvm.Cond.lays "NightjarModel" "NightjarModel" "lines" "I", Jvm.Cond.laysFinal "NightjarModel" "NightjarModel" "time" "[I", Jvm.Cond.laysFinal "NightjarModel" "NightjarModel" "source" "[I", Jvm.Cond.laysFinal "NightjarModel" "NightjarModel" "level" "[I", Jvm.Cond.laysFinal "NightjarModel" "NightjarModel" "many" "[I", Jvm.Cond.laysFinal "NightjarModel" "NightjarModel" "word" "[I", Jvm.Cond.laysFinal "NightjarModel" "NightjarModel" "setting" "[I", Jvm.Cond.lays "NightjarModel" "NightjarModel" "learned" "I", Jvm.Cond.lays "NightjarModel" "NightjarModel" "of" "[I", Jvm.Cond.lays "NightjarModel" "NightjarModel" "templates" "I", Jvm.Cond.lays "NightjarModel" "NightjarModel" "places" "[I", Jvm.Cond.lays "NightjarModel" "NightjarModel" "slot" "[I", Jvm.Cond.lays "NightjarModel" "NightjarModel" "sessions" "I", Jvm.Cond.laysFinal "NightjarModel" "NightjarModel" "sessionOf" "[I", Jvm.Cond.laysFinal "NightjarModel" "NightjarModel" "first" "[I", Jvm.Cond.laysFinal "NightjarModel" "NightjarModel" "last" "[I", Jvm.Cond.lays "NightjarModel" "NightjarModel" "spikes" "I", Jvm.Cond.laysFinal "NightjarModel" "NightjarModel" "spikeWindow" "[I", Jvm.Cond.laysFinal "NightjarModel" "NightjarModel" "spikeTemplate" "[I", Jvm.Cond.lays "NightjarModel" "NightjarModel" "causes" "I", Jvm.Cond.laysFinal "NightjarModel" "NightjarModel" "cause" "[I", Cond.selects "java/lang/Throwable" ⟨"java/lang/Throwable", "fillInStackTrace", "(I)Ljava/lang/Throwable;"⟩ ⟨"java/lang/Throwable", "fillInStackTrace", "(I)Ljava/lang/Throwable;"⟩, Jvm.Cond.initialized "NightjarLaw", Jvm.Cond.initialized "java/lang/Throwable", Jvm.Cond.initialized "java/lang/Exception", Jvm.Cond.initialized "java/lang/RuntimeException", Jvm.Cond.initialized "java/lang/IllegalArgumentException", Jvm.Cond.initialized "java/lang/IllegalStateException", Jvm.Cond.initialized "java/lang/IndexOutOfBoundsException", Jvm.Cond.classLink "Nightjar" (64 : Nat) "java/lang/IllegalArgumentException"]
def zall_15 : List Jvm.Cond := [Jvm.Cond.instantiable "java/lang/IllegalArgumentException" (6 : Nat), Jvm.Cond.selects "java/lang/IllegalArgumentException" ({ cls := "java/lang/Throwable", name := "fillInStackTrace", desc := "(I)Ljava/lang/Throwable;" } : Jvm.MethodName) ({ cls := "java/lang/Throwable", name := "fillInStackTrace", desc := "(I)Ljava/lang/Throwable;" } : Jvm.MethodName), Jvm.Cond.selects "java/lang/IllegalArgumentException" ({ cls := "java/lang/Throwable", name := "fillInStackTrace", desc := "()Ljava/lang/Throwable;" } : Jvm.MethodName) ({ cls := "java/lang/Throwable", name := "fillInStackTrace", desc := "()Ljava/lang/Throwable;" } : Jvm.MethodName), Jvm.Cond.lays "java/lang/IllegalArgumentException" "java/lang/Throwable" "cause" "Ljava/lang/Throwable;", Jvm.Cond.lays "java/lang/Throwable" "java/lang/Throwable" "cause" "Ljava/lang/Throwable;", Jvm.Cond.lays "java/lang/IllegalArgumentException" "java/lang/Throwable" "stackTrace" "[Ljava/lang/StackTraceElement;", Jvm.Cond.lays "java/lang/Throwable" "java/lang/Throwable" "stackTrace" "[Ljava/lang/StackTraceElement;", Jvm.Cond.lays "java/lang/IllegalArgumentException" "java/lang/Throwable" "suppressedExceptions" "Ljava/util/List;", Jvm.Cond.lays "java/lang/Throwable" "java/lang/Throwable" "suppressedExceptions" "Ljava/util/List;", Jvm.Cond.lays "java/lang/IllegalArgumentException" "java/lang/Throwable" "detailMessage" "Ljava/lang/String;", Jvm.Cond.lays "java/lang/Throwable" "java/lang/Throwable" "detailMessage" "Ljava/lang/String;", Jvm.Cond.lays "java/lang/IllegalArgumentException" "java/lang/Throwable" "backtrace" "Ljava/lang/Object;", Jvm.Cond.lays "java/lang/Throwable" "java/lang/Throwable" "backtrace" "Ljava/lang/Object;", Jvm.Cond.fieldLink "java/lang/Throwable" (198 : Nat) "java/lang/Throwable" "backtrace" "Ljava/lang/Object;", Jvm.Cond.superclass "java/lang/Throwable" "java/lang/Object", Jvm.Cond.instanceMethod ({ cls := "java/lang/Throwable", name := "<init>", desc := "()V" } : Jvm.MethodName), Jvm.Cond.code ({ cls := "java/lang/Throwable", name := "<init>", desc := "()V" } : Jvm.MethodName) prog_19_method_1_code (1 : Nat) (Option.none : Option Jvm.ClassFile.FieldType), Jvm.Cond.methodLink "java/lang/Throwable" (1 : Nat) ({ cls := "java/lang/Object", name := "<init>", desc := "()V" } : Jvm.MethodName), Jvm.Cond.fieldLink "java/lang/Throwable" (13 : Nat) "java/lang/Throwable" "UNASSIGNED_STACK" "[Ljava/lang/StackTraceElement;", Jvm.Cond.fieldLink "java/lang/Throwable" (20 : Nat) "java/lang/Throwable" "SUPPRESSED_SENTINEL" "Ljava/util/List;", Jvm.Cond.methodLink "java/lang/Throwable" (27 : Nat) ({ cls := "java/lang/Throwable", name := "fillInStackTrace", desc := "()Ljava/lang/Throwable;" } : Jvm.MethodName), Jvm.Cond.instanceMethod ({ cls := "java/lang/Throwable", name := "fillInStackTrace", desc := "()Ljava/lang/Throwable;" } : Jvm.MethodName), Jvm.Cond.selects "java/lang/IllegalStateException" ({ cls := "java/lang/Throwable", name := "fillInStackTrace", desc := "()Ljava/lang/Throwable;" } : Jvm.MethodName) ({ cls := "java/lang/Throwable", name := "fillInStackTrace", desc := "()Ljava/lang/Throwable;" } : Jvm.MethodName), Jvm.Cond.selects "java/lang/IndexOutOfBoundsException" ({ cls := "java/lang/Throwable", name := "fillInStackTrace", desc := "()Ljava/lang/Throwable;" } : Jvm.MethodName) ({ cls := "java/lang/Throwable", name := "fillInStackTrace", desc := "()Ljava/lang/Throwable;" } : Jvm.MethodName), Jvm.Cond.codeSync ({ cls := "java/lang/Throwable", name := "fillInStackTrace", desc := "()Ljava/lang/Throwable;" } : Jvm.MethodName) prog_19_method_18_code (1 : Nat) (Option.some (Jvm.ClassFile.FieldType.object "java/lang/Throwable")), Jvm.Cond.methodLink "java/lang/Throwable" (202 : Nat) ({ cls := "java/lang/Throwable", name := "fillInStackTrace", desc := "(I)Ljava/lang/Throwable;" } : Jvm.MethodName), Jvm.Cond.instanceMethod ({ cls := "java/lang/Throwable", name := "fillInStackTrace", desc := "(I)Ljava/lang/Throwable;" } : Jvm.MethodName), Jvm.Cond.instantiable "java/lang/Throwable" (6 : Nat), Jvm.Cond.native ({ cls := "java/lang/Throwable", name := "fillInStackTrace", desc := "(I)Ljava/lang/Throwable;" } : Jvm.MethodName), Jvm.Cond.methodLink "Nightjar" (68 : Nat) ({ cls := "java/lang/IllegalArgumentException", name := "<init>", desc := "(Ljava/lang/String;)V" } : Jvm.MethodName), Jvm.Cond.instanceMethod ({ cls := "java/lang/IllegalArgumentException", name := "<init>", desc := "(Ljava/lang/String;)V" } : Jvm.MethodName), Jvm.Cond.code ({ cls := "java/lang/IllegalArgumentException", name := "<init>", desc := "(Ljava/lang/String;)V" } : Jvm.MethodName) prog_11_method_2_code (2 : Nat) (Option.none : Option Jvm.ClassFile.FieldType), Jvm.Cond.methodLink "java/lang/IllegalArgumentException" (7 : Nat) ({ cls := "java/lang/RuntimeException", name := "<init>", desc := "(Ljava/lang/String;)V" } : Jvm.MethodName), Jvm.Cond.instanceMethod ({ cls := "java/lang/RuntimeException", name := "<init>", desc := "(Ljava/lang/String;)V" } : Jvm.MethodName), Jvm.Cond.code ({ cls := "java/lang/RuntimeException", name := "<init>", desc := "(Ljava/lang/String;)V" } : Jvm.MethodName) prog_16_method_2_code (2 : Nat) (Option.none : Option Jvm.ClassFile.FieldType), Jvm.Cond.methodLink "java/lang/RuntimeException" (7 : Nat) ({ cls := "java/lang/Exception", name := "<init>", desc := "(Ljava/lang/String;)V" } : Jvm.MethodName), Jvm.Cond.instanceMethod ({ cls := "java/lang/Exception", name := "<init>", desc := "(Ljava/lang/String;)V" } : Jvm.MethodName), Jvm.Cond.code ({ cls := "java/lang/Exception", name := "<init>", desc := "(Ljava/lang/String;)V" } : Jvm.MethodName) prog_10_method_2_code (2 : Nat) (Option.none : Option Jvm.ClassFile.FieldType), Jvm.Cond.methodLink "java/lang/Exception" (7 : Nat) ({ cls := "java/lang/Throwable", name := "<init>", desc := "(Ljava/lang/String;)V" } : Jvm.MethodName), Jvm.Cond.instanceMethod ({ cls := "java/lang/Throwable", name := "<init>", desc := "(Ljava/lang/String;)V" } : Jvm.MethodName), Jvm.Cond.code ({ cls := "java/lang/Throwable", name := "<init>", desc := "(Ljava/lang/String;)V" } : Jvm.MethodName) prog_19_method_2_code (2 : Nat) (Option.none : Option Jvm.ClassFile.FieldType), Jvm.Cond.fieldLink "java/lang/Throwable" (31 : Nat) "java/lang/Throwable" "detailMessage" "Ljava/lang/String;", Jvm.Cond.fieldLink "java/lang/Throwable" (7 : Nat) "java/lang/Throwable" "cause" "Ljava/lang/Throwable;", Jvm.Cond.fieldLink "java/lang/Throwable" (17 : Nat) "java/lang/Throwable" "stackTrace" "[Ljava/lang/StackTraceElement;", Jvm.Cond.fieldLink "java/lang/Throwable" (24 : Nat) "java/lang/Throwable" "suppressedExceptions" "Ljava/util/List;", Jvm.Cond.lays "java/lang/IllegalArgumentException" "java/lang/Throwable" "depth" "I", Jvm.Cond.superclass "java/lang/IllegalArgumentException" "java/lang/RuntimeException", Jvm.Cond.classLink "Nightjar" (139 : Nat) "java/lang/IndexOutOfBoundsException", Jvm.Cond.instantiable "java/lang/IndexOutOfBoundsException" (6 : Nat), Jvm.Cond.selects "java/lang/IndexOutOfBoundsException" ({ cls := "java/lang/Throwable", name := "fillInStackTrace", desc := "(I)Ljava/lang/Throwable;" } : Jvm.MethodName) ({ cls := "java/lang/Throwable", name := "fillInStackTrace", desc := "(I)Ljava/lang/Throwable;" } : Jvm.MethodName), Jvm.Cond.lays "java/lang/IndexOutOfBoundsException" "java/lang/Throwable" "cause" "Ljava/lang/Throwable;", Jvm.Cond.lays "java/lang/IndexOutOfBoundsException" "java/lang/Throwable" "stackTrace" "[Ljava/lang/StackTraceElement;", Jvm.Cond.lays "java/lang/IndexOutOfBoundsException" "java/lang/Throwable" "suppressedExceptions" "Ljava/util/List;", Jvm.Cond.lays "java/lang/IndexOutOfBoundsException" "java/lang/Throwable" "detailMessage" "Ljava/lang/String;", Jvm.Cond.lays "java/lang/IndexOutOfBoundsException" "java/lang/Throwable" "backtrace" "Ljava/lang/Object;", Jvm.Cond.methodLink "Nightjar" (143 : Nat) ({ cls := "java/lang/IndexOutOfBoundsException", name := "<init>", desc := "(Ljava/lang/String;)V" } : Jvm.MethodName), Jvm.Cond.instanceMethod ({ cls := "java/lang/IndexOutOfBoundsException", name := "<init>", desc := "(Ljava/lang/String;)V" } : Jvm.MethodName), Jvm.Cond.code ({ cls := "java/lang/IndexOutOfBoundsException", name := "<init>", desc := "(Ljava/lang/String;)V" } : Jvm.MethodName) prog_13_method_2_code (2 : Nat) (Option.none : Option Jvm.ClassFile.FieldType), Jvm.Cond.methodLink "java/lang/IndexOutOfBoundsException" (7 : Nat) ({ cls := "java/lang/RuntimeException", name := "<init>", desc := "(Ljava/lang/String;)V" } : Jvm.MethodName), Jvm.Cond.lays "java/lang/IndexOutOfBoundsException" "java/lang/Throwable" "depth" "I"]
def zall_16 : List Jvm.Cond := [Jvm.Cond.superclass "java/lang/IndexOutOfBoundsException" "java/lang/RuntimeException", Jvm.Cond.static ({ cls := "NightjarLaw", name := "line", desc := "(LNightjar;III[J)I" } : Jvm.MethodName), Jvm.Cond.codeWith ({ cls := "NightjarLaw", name := "line", desc := "(LNightjar;III[J)I" } : Jvm.MethodName) method_3_code (6 : Nat) (Option.some Jvm.ClassFile.FieldType.int) [((0 : Nat), (12 : Nat), (15 : Nat), (13 : Nat)), ((0 : Nat), (12 : Nat), (19 : Nat), (15 : Nat))], Jvm.Cond.classLink "NightjarLaw" (13 : Nat) "java/lang/IllegalArgumentException", Jvm.Cond.classLink "NightjarLaw" (15 : Nat) "java/lang/IllegalStateException", Jvm.Cond.classLink "Nightjar" (75 : Nat) "java/lang/IllegalStateException", Jvm.Cond.instantiable "java/lang/IllegalStateException" (6 : Nat), Jvm.Cond.selects "java/lang/IllegalStateException" ({ cls := "java/lang/Throwable", name := "fillInStackTrace", desc := "(I)Ljava/lang/Throwable;" } : Jvm.MethodName) ({ cls := "java/lang/Throwable", name := "fillInStackTrace", desc := "(I)Ljava/lang/Throwable;" } : Jvm.MethodName), Jvm.Cond.lays "java/lang/IllegalStateException" "java/lang/Throwable" "cause" "Ljava/lang/Throwable;", Jvm.Cond.lays "java/lang/IllegalStateException" "java/lang/Throwable" "stackTrace" "[Ljava/lang/StackTraceElement;", Jvm.Cond.lays "java/lang/IllegalStateException" "java/lang/Throwable" "suppressedExceptions" "Ljava/util/List;", Jvm.Cond.lays "java/lang/IllegalStateException" "java/lang/Throwable" "detailMessage" "Ljava/lang/String;", Jvm.Cond.lays "java/lang/IllegalStateException" "java/lang/Throwable" "backtrace" "Ljava/lang/Object;", Jvm.Cond.methodLink "Nightjar" (79 : Nat) ({ cls := "java/lang/IllegalStateException", name := "<init>", desc := "(Ljava/lang/String;)V" } : Jvm.MethodName), Jvm.Cond.instanceMethod ({ cls := "java/lang/IllegalStateException", name := "<init>", desc := "(Ljava/lang/String;)V" } : Jvm.MethodName), Jvm.Cond.code ({ cls := "java/lang/IllegalStateException", name := "<init>", desc := "(Ljava/lang/String;)V" } : Jvm.MethodName) prog_12_method_2_code (2 : Nat) (Option.none : Option Jvm.ClassFile.FieldType), Jvm.Cond.methodLink "java/lang/IllegalStateException" (7 : Nat) ({ cls := "java/lang/RuntimeException", name := "<init>", desc := "(Ljava/lang/String;)V" } : Jvm.MethodName), Jvm.Cond.lays "java/lang/IllegalStateException" "java/lang/Throwable" "depth" "I", Jvm.Cond.superclass "java/lang/IllegalStateException" "java/lang/RuntimeException", Jvm.Cond.static ({ cls := "NightjarLaw", name := "word", desc := "(LNightjar;I[J)I" } : Jvm.MethodName), Jvm.Cond.codeWith ({ cls := "NightjarLaw", name := "word", desc := "(LNightjar;I[J)I" } : Jvm.MethodName) method_4_code (4 : Nat) (Option.some Jvm.ClassFile.FieldType.int) [((0 : Nat), (9 : Nat), (12 : Nat), (13 : Nat)), ((0 : Nat), (9 : Nat), (15 : Nat), (15 : Nat))], Jvm.Cond.static ({ cls := "NightjarLaw", name := "learn", desc := "(LNightjar;I[J)I" } : Jvm.MethodName), Jvm.Cond.codeWith ({ cls := "NightjarLaw", name := "learn", desc := "(LNightjar;I[J)I" } : Jvm.MethodName) method_5_code (4 : Nat) (Option.some Jvm.ClassFile.FieldType.int) [((0 : Nat), (9 : Nat), (12 : Nat), (13 : Nat))], Jvm.Cond.static ({ cls := "NightjarLaw", name := "set", desc := "(LNightjar;II[J)I" } : Jvm.MethodName), Jvm.Cond.codeWith ({ cls := "NightjarLaw", name := "set", desc := "(LNightjar;II[J)I" } : Jvm.MethodName) method_6_code (5 : Nat) (Option.some Jvm.ClassFile.FieldType.int) [((0 : Nat), (10 : Nat), (13 : Nat), (13 : Nat))], Jvm.Cond.static ({ cls := "NightjarLaw", name := "many", desc := "(LNightjar;I[J)I" } : Jvm.MethodName), Jvm.Cond.codeWith ({ cls := "NightjarLaw", name := "many", desc := "(LNightjar;I[J)I" } : Jvm.MethodName) method_7_code (4 : Nat) (Option.some Jvm.ClassFile.FieldType.int) [((0 : Nat), (9 : Nat), (12 : Nat), (13 : Nat))], Jvm.Cond.static ({ cls := "NightjarLaw", name := "ofLine", desc := "(LNightjar;II[J)I" } : Jvm.MethodName), Jvm.Cond.codeWith ({ cls := "NightjarLaw", name := "ofLine", desc := "(LNightjar;II[J)I" } : Jvm.MethodName) method_8_code (5 : Nat) (Option.some Jvm.ClassFile.FieldType.int) [((0 : Nat), (10 : Nat), (13 : Nat), (34 : Nat)), ((0 : Nat), (10 : Nat), (17 : Nat), (13 : Nat))], Jvm.Cond.classLink "NightjarLaw" (34 : Nat) "java/lang/IndexOutOfBoundsException", Jvm.Cond.static ({ cls := "NightjarLaw", name := "wordAt", desc := "(LNightjar;II[J)I" } : Jvm.MethodName), Jvm.Cond.codeWith ({ cls := "NightjarLaw", name := "wordAt", desc := "(LNightjar;II[J)I" } : Jvm.MethodName) method_9_code (5 : Nat) (Option.some Jvm.ClassFile.FieldType.int) [((0 : Nat), (10 : Nat), (13 : Nat), (34 : Nat))], Jvm.Cond.static ({ cls := "NightjarLaw", name := "ofTemplate", desc := "(LNightjar;II[J)I" } : Jvm.MethodName), Jvm.Cond.codeWith ({ cls := "NightjarLaw", name := "ofTemplate", desc := "(LNightjar;II[J)I" } : Jvm.MethodName) method_10_code (5 : Nat) (Option.some Jvm.ClassFile.FieldType.int) [((0 : Nat), (10 : Nat), (13 : Nat), (34 : Nat)), ((0 : Nat), (10 : Nat), (17 : Nat), (13 : Nat))], Jvm.Cond.static ({ cls := "NightjarLaw", name := "slot", desc := "(LNightjar;II[J)I" } : Jvm.MethodName), Jvm.Cond.codeWith ({ cls := "NightjarLaw", name := "slot", desc := "(LNightjar;II[J)I" } : Jvm.MethodName) method_11_code (5 : Nat) (Option.some Jvm.ClassFile.FieldType.int) [((0 : Nat), (10 : Nat), (13 : Nat), (34 : Nat))], Jvm.Cond.static ({ cls := "NightjarLaw", name := "values", desc := "(LNightjar;II[J)I" } : Jvm.MethodName), Jvm.Cond.codeWith ({ cls := "NightjarLaw", name := "values", desc := "(LNightjar;II[J)I" } : Jvm.MethodName) method_12_code (5 : Nat) (Option.some Jvm.ClassFile.FieldType.int) [((0 : Nat), (10 : Nat), (13 : Nat), (34 : Nat))], Jvm.Cond.static ({ cls := "NightjarLaw", name := "alike", desc := "(LNightjar;II[J)I" } : Jvm.MethodName), Jvm.Cond.codeWith ({ cls := "NightjarLaw", name := "alike", desc := "(LNightjar;II[J)I" } : Jvm.MethodName) method_13_code (5 : Nat) (Option.some Jvm.ClassFile.FieldType.int) [((0 : Nat), (10 : Nat), (13 : Nat), (34 : Nat))], Jvm.Cond.static ({ cls := "NightjarLaw", name := "ofSession", desc := "(LNightjar;II[J)I" } : Jvm.MethodName), Jvm.Cond.codeWith ({ cls := "NightjarLaw", name := "ofSession", desc := "(LNightjar;II[J)I" } : Jvm.MethodName) method_14_code (5 : Nat) (Option.some Jvm.ClassFile.FieldType.int) [((0 : Nat), (10 : Nat), (13 : Nat), (34 : Nat)), ((0 : Nat), (10 : Nat), (17 : Nat), (13 : Nat))], Jvm.Cond.static ({ cls := "NightjarLaw", name := "inSession", desc := "(LNightjar;II[J)I" } : Jvm.MethodName), Jvm.Cond.codeWith ({ cls := "NightjarLaw", name := "inSession", desc := "(LNightjar;II[J)I" } : Jvm.MethodName) method_15_code (5 : Nat) (Option.some Jvm.ClassFile.FieldType.int) [((0 : Nat), (10 : Nat), (13 : Nat), (34 : Nat))], Jvm.Cond.static ({ cls := "NightjarLaw", name := "count", desc := "(LNightjar;II[J)I" } : Jvm.MethodName), Jvm.Cond.codeWith ({ cls := "NightjarLaw", name := "count", desc := "(LNightjar;II[J)I" } : Jvm.MethodName) method_16_code (5 : Nat) (Option.some Jvm.ClassFile.FieldType.int) [((0 : Nat), (10 : Nat), (13 : Nat), (34 : Nat)), ((0 : Nat), (10 : Nat), (17 : Nat), (13 : Nat))], Jvm.Cond.static ({ cls := "NightjarLaw", name := "spike", desc := "(LNightjar;II[J)I" } : Jvm.MethodName), Jvm.Cond.codeWith ({ cls := "NightjarLaw", name := "spike", desc := "(LNightjar;II[J)I" } : Jvm.MethodName) method_17_code (5 : Nat) (Option.some Jvm.ClassFile.FieldType.int) [((0 : Nat), (10 : Nat), (13 : Nat), (34 : Nat)), ((0 : Nat), (10 : Nat), (17 : Nat), (13 : Nat))], Jvm.Cond.static ({ cls := "NightjarLaw", name := "causes", desc := "(LNightjar;I[J)I" } : Jvm.MethodName), Jvm.Cond.codeWith ({ cls := "NightjarLaw", name := "causes", desc := "(LNightjar;I[J)I" } : Jvm.MethodName) method_18_code (4 : Nat) (Option.some Jvm.ClassFile.FieldType.int) [((0 : Nat), (9 : Nat), (12 : Nat), (34 : Nat))], Jvm.Cond.static ({ cls := "NightjarLaw", name := "cause", desc := "(LNightjar;III[J)I" } : Jvm.MethodName), Jvm.Cond.codeWith ({ cls := "NightjarLaw", name := "cause", desc := "(LNightjar;III[J)I" } : Jvm.MethodName) method_19_code (6 : Nat) (Option.some Jvm.ClassFile.FieldType.int) [((0 : Nat), (12 : Nat), (15 : Nat), (34 : Nat)), ((0 : Nat), (12 : Nat), (19 : Nat), (13 : Nat))], Jvm.Cond.static ({ cls := "NightjarLaw", name := "because", desc := "(LNightjar;I[J)I" } : Jvm.MethodName), Jvm.Cond.codeWith ({ cls := "NightjarLaw", name := "because", desc := "(LNightjar;I[J)I" } : Jvm.MethodName) method_20_code (4 : Nat) (Option.some Jvm.ClassFile.FieldType.int) [((0 : Nat), (9 : Nat), (12 : Nat), (34 : Nat))], Jvm.Cond.static ({ cls := "NightjarLaw", name := "templatesWith", desc := "(LNightjar;I[J)I" } : Jvm.MethodName), Jvm.Cond.codeWith ({ cls := "NightjarLaw", name := "templatesWith", desc := "(LNightjar;I[J)I" } : Jvm.MethodName) method_21_code (4 : Nat) (Option.some Jvm.ClassFile.FieldType.int) [((0 : Nat), (9 : Nat), (12 : Nat), (13 : Nat))], Jvm.Cond.static ({ cls := "NightjarLaw", name := "sessionsWith", desc := "(LNightjar;I[J)I" } : Jvm.MethodName), Jvm.Cond.codeWith ({ cls := "NightjarLaw", name := "sessionsWith", desc := "(LNightjar;I[J)I" } : Jvm.MethodName) method_22_code (4 : Nat) (Option.some Jvm.ClassFile.FieldType.int) [((0 : Nat), (9 : Nat), (12 : Nat), (13 : Nat))], Jvm.Cond.static ({ cls := "NightjarLaw", name := "wouldBe", desc := "(LNightjar;I[J)I" } : Jvm.MethodName), Jvm.Cond.codeWith ({ cls := "NightjarLaw", name := "wouldBe", desc := "(LNightjar;I[J)I" } : Jvm.MethodName) method_23_code (4 : Nat) (Option.some Jvm.ClassFile.FieldType.int) [((0 : Nat), (9 : Nat), (12 : Nat), (34 : Nat)), ((0 : Nat), (9 : Nat), (15 : Nat), (15 : Nat))]]
def zall : List Jvm.Cond := zall_0 ++ zall_1 ++ zall_2 ++ zall_3 ++ zall_4 ++ zall_5 ++ zall_6 ++ zall_7 ++ zall_8 ++ zall_9 ++ zall_10 ++ zall_11 ++ zall_12 ++ zall_13 ++ zall_14 ++ zall_15 ++ zall_16
def zchk : List (List Jvm.Cond) := [zall_0, zall_1, zall_2, zall_3, zall_4, zall_5, zall_6, zall_7, zall_8, zall_9, zall_10, zall_11, zall_12, zall_13, zall_14, zall_15, zall_16]
theorem zall_in_0 : ∀ w ∈ zall_0, w ∈ lw_tbl := by
  have h : zall_0 = [90, 870, 89, 76, 77, 94, 542, 106, 312, 315, 313, 314, 55, 274, 154, 880, 945, 947, 946, 60, 1007, 1010, 1009, 25, 881, 882, 876, 877, 999, 1002, 1001, 23, 152, 320, 273, 118, 871, 878, 879, 1015, 1018, 1017, 27, 247, 407, 409, 408, 59, 396, 308, 311, 309, 310, 54, 276, 279, 329, 330, 333, 331].filterMap (fun i => lw_tbl[i]?) := by decide +kernel
  intro w hw
  rw [h] at hw
  obtain ⟨i, -, hi⟩ := List.mem_filterMap.mp hw
  exact List.mem_of_getElem? hi
theorem zall_in_1 : ∀ w ∈ zall_1, w ∈ lw_tbl := by
  have h : zall_1 = [332, 57, 352, 355, 353, 354, 277, 364, 367, 365, 366, 58, 278, 388, 391, 389, 390, 401, 404, 402, 403, 120, 410, 413, 411, 412, 875, 890, 1151, 1154, 1153, 47, 1155, 1158, 1157, 48, 884, 243, 182, 181, 335, 964, 967, 966, 18, 972, 975, 974, 20, 872, 1047, 1050, 1049, 34, 121, 95, 373, 372, 53, 107].filterMap (fun i => lw_tbl[i]?) := by decide +kernel
  intro w hw
  rw [h] at hw
  obtain ⟨i, -, hi⟩ := List.mem_filterMap.mp hw
  exact List.mem_of_getElem? hi
theorem zall_in_2 : ∀ w ∈ zall_2, w ∈ lw_tbl := by
  have h : zall_2 = [112, 98, 244, 414, 417, 415, 416, 246, 147, 148, 85, 149, 88, 87, 150, 321, 324, 322, 323, 56, 105, 740, 328, 326, 327, 153, 736, 739, 737, 738, 732, 735, 733, 734, 741, 744, 743, 14, 746, 749, 748, 15, 184, 883, 1003, 1006, 1005, 24, 885, 886, 887, 1019, 1022, 1021, 28, 888, 889, 1027, 1030, 1029].filterMap (fun i => lw_tbl[i]?) := by decide +kernel
  intro w hw
  rw [h] at hw
  obtain ⟨i, -, hi⟩ := List.mem_filterMap.mp hw
  exact List.mem_of_getElem? hi
theorem zall_in_3 : ∀ w ∈ zall_3, w ∈ lw_tbl := by
  have h : zall_3 = [30, 995, 998, 997, 22, 1011, 1014, 1013, 26, 873, 1147, 1150, 1149, 46, 891, 874, 1043, 1046, 1045, 33, 1067, 1070, 1069, 37, 1071, 1072, 68, 1073, 1086, 1089, 1088, 39, 1090, 1107, 1110, 1109, 42, 1103, 1106, 1105, 41, 1179, 976, 978, 977, 66, 83, 84, 86, 100, 103, 115, 303, 272, 270, 271, 316, 319, 317, 318].filterMap (fun i => lw_tbl[i]?) := by decide +kernel
  intro w hw
  rw [h] at hw
  obtain ⟨i, -, hi⟩ := List.mem_filterMap.mp hw
  exact List.mem_of_getElem? hi
theorem zall_in_4 : ∀ w ∈ zall_4, w ∈ lw_tbl := by
  have h : zall_4 = [325, 630, 633, 632, 12, 237, 238, 239, 240, 242, 245, 248, 116, 392, 395, 393, 394, 109, 397, 399, 398, 400, 405, 359, 357, 358, 122, 406, 351, 349, 350, 419, 422, 420, 421, 423, 426, 425, 6, 427, 430, 428, 429, 431, 434, 432, 433, 581, 583, 582, 167, 168, 169, 170, 172, 173, 175, 177, 179, 183].filterMap (fun i => lw_tbl[i]?) := by decide +kernel
  intro w hw
  rw [h] at hw
  obtain ⟨i, -, hi⟩ := List.mem_filterMap.mp hw
  exact List.mem_of_getElem? hi
theorem zall_in_5 : ∀ w ∈ zall_5, w ∈ lw_tbl := by
  have h : zall_5 = [117, 334, 113, 336, 339, 337, 338, 340, 343, 342, 1, 344, 347, 346, 2, 348, 101, 356, 360, 363, 362, 3, 111, 662, 664, 663, 69, 443, 446, 444, 445, 209, 210, 211, 212, 214, 216, 218, 219, 368, 119, 108, 369, 370, 96, 374, 377, 376, 4, 378, 381, 379, 380, 383, 386, 385, 5, 387, 745, 464].filterMap (fun i => lw_tbl[i]?) := by decide +kernel
  intro w hw
  rw [h] at hw
  obtain ⟨i, -, hi⟩ := List.mem_filterMap.mp hw
  exact List.mem_of_getElem? hi
theorem zall_in_6 : ∀ w ∈ zall_6, w ∈ lw_tbl := by
  have h : zall_6 = [466, 465, 535, 538, 536, 537, 220, 551, 554, 553, 9, 97, 99, 102, 104, 110, 114, 171, 572, 241, 592, 595, 594, 11, 151, 598, 601, 599, 600, 602, 605, 603, 604, 606, 609, 607, 608, 610, 613, 611, 612, 619, 624, 626, 629, 627, 628, 652, 655, 654, 13, 174, 176, 178, 180, 658, 661, 659, 660, 668].filterMap (fun i => lw_tbl[i]?) := by decide +kernel
  intro w hw
  rw [h] at hw
  obtain ⟨i, -, hi⟩ := List.mem_filterMap.mp hw
  exact List.mem_of_getElem? hi
theorem zall_in_7 : ∀ w ∈ zall_7, w ∈ lw_tbl := by
  have h : zall_7 = [439, 442, 440, 441, 213, 215, 217, 249, 644, 645, 646, 647, 577, 580, 578, 579, 547, 550, 548, 549, 539, 541, 540, 573, 576, 574, 575, 588, 591, 589, 590, 614, 617, 615, 616, 620, 623, 621, 622, 634, 637, 635, 636, 638, 641, 639, 640, 968, 971, 970, 19, 1111, 1114, 1113, 43, 665, 666, 667, 75, 78].filterMap (fun i => lw_tbl[i]?) := by decide +kernel
  intro w hw
  rw [h] at hw
  obtain ⟨i, -, hi⟩ := List.mem_filterMap.mp hw
  exact List.mem_of_getElem? hi
theorem zall_in_8 : ∀ w ∈ zall_8, w ∈ lw_tbl := by
  have h : zall_8 = [79, 82, 81, 142, 143, 146, 145, 275, 162, 163, 166, 165, 204, 205, 208, 207, 232, 233, 236, 235, 267, 268, 269, 703, 706, 704, 705, 304, 307, 306, 0, 716, 719, 717, 718, 728, 731, 729, 730, 299, 302, 300, 301, 776, 796, 809, 812, 810, 811, 451, 454, 452, 453, 821, 854, 863, 459, 460, 463, 461].filterMap (fun i => lw_tbl[i]?) := by decide +kernel
  intro w hw
  rw [h] at hw
  obtain ⟨i, -, hi⟩ := List.mem_filterMap.mp hw
  exact List.mem_of_getElem? hi
theorem zall_in_9 : ∀ w ∈ zall_9, w ∈ lw_tbl := by
  have h : zall_9 = [462, 543, 546, 545, 8, 584, 587, 586, 10, 648, 651, 649, 650, 669, 438, 436, 437, 670, 673, 671, 672, 869, 948, 951, 950, 16, 960, 963, 962, 17, 991, 994, 993, 21, 1023, 1026, 1025, 29, 1035, 1038, 1037, 31, 1039, 1042, 1041, 32, 1059, 1062, 1061, 35, 1063, 1066, 1065, 36, 1082, 1085, 1084, 38, 1099, 1102].filterMap (fun i => lw_tbl[i]?) := by decide +kernel
  intro w hw
  rw [h] at hw
  obtain ⟨i, -, hi⟩ := List.mem_filterMap.mp hw
  exact List.mem_of_getElem? hi
theorem zall_in_10 : ∀ w ∈ zall_10, w ∈ lw_tbl := by
  have h : zall_10 = [1101, 40, 1123, 1126, 1125, 44, 1139, 1142, 1141, 45, 1167, 1170, 1169, 49, 1175, 1178, 1177, 50, 1181, 1184, 1183, 51, 1197, 1198, 681, 684, 682, 683, 710, 713, 711, 712, 723, 726, 724, 725, 753, 756, 754, 755, 762, 767, 771, 774, 772, 773, 780, 784, 788, 792, 795, 793, 794, 800, 804, 807, 805, 806, 816, 819].filterMap (fun i => lw_tbl[i]?) := by decide +kernel
  intro w hw
  rw [h] at hw
  obtain ⟨i, -, hi⟩ := List.mem_filterMap.mp hw
  exact List.mem_of_getElem? hi
theorem zall_in_11 : ∀ w ∈ zall_11, w ∈ lw_tbl := by
  have h : zall_11 = [817, 818, 825, 829, 833, 837, 841, 844, 842, 843, 849, 852, 850, 851, 858, 861, 859, 860, 70, 71, 72, 74, 73, 864, 865, 866, 868, 867, 1199, 676, 941, 944, 942, 943, 937, 940, 938, 939, 707, 952, 955, 953, 954, 720, 956, 959, 957, 958, 750, 979, 982, 980, 981, 295, 298, 296, 297, 983, 986, 984].filterMap (fun i => lw_tbl[i]?) := by decide +kernel
  intro w hw
  rw [h] at hw
  obtain ⟨i, -, hi⟩ := List.mem_filterMap.mp hw
  exact List.mem_of_getElem? hi
theorem zall_in_12 : ∀ w ∈ zall_12, w ∈ lw_tbl := by
  have h : zall_12 = [985, 759, 987, 990, 988, 989, 763, 1031, 1034, 1032, 1033, 768, 1051, 1054, 1052, 1053, 777, 1055, 1058, 1056, 1057, 781, 1074, 1077, 1075, 1076, 785, 1078, 1081, 1079, 1080, 789, 1091, 1094, 1092, 1093, 797, 1095, 1098, 1096, 1097, 801, 1115, 1118, 1116, 1117, 435, 1119, 1122, 1120, 1121, 447, 450, 448, 449, 1127, 1130, 1128, 1129, 813].filterMap (fun i => lw_tbl[i]?) := by decide +kernel
  intro w hw
  rw [h] at hw
  obtain ⟨i, -, hi⟩ := List.mem_filterMap.mp hw
  exact List.mem_of_getElem? hi
theorem zall_in_13 : ∀ w ∈ zall_13, w ∈ lw_tbl := by
  have h : zall_13 = [1131, 1134, 1132, 1133, 822, 1135, 1138, 1136, 1137, 826, 1143, 1146, 1144, 1145, 830, 1159, 1162, 1160, 1161, 834, 1163, 1166, 1164, 1165, 838, 1171, 1174, 1172, 1173, 846, 1185, 1188, 1186, 1187, 855, 1189, 1192, 1190, 1191, 455, 458, 456, 457, 1193, 1196, 1194, 1195, 123, 125, 127, 129, 131, 133, 135, 137, 139, 91, 250, 252, 254].filterMap (fun i => lw_tbl[i]?) := by decide +kernel
  intro w hw
  rw [h] at hw
  obtain ⟨i, -, hi⟩ := List.mem_filterMap.mp hw
  exact List.mem_of_getElem? hi
theorem zall_in_14 : ∀ w ∈ zall_14, w ∈ lw_tbl := by
  have h : zall_14 = [256, 258, 260, 262, 264, 185, 187, 189, 191, 193, 195, 197, 199, 201, 221, 223, 225, 227, 229, 155, 157, 159, 280, 282, 284, 286, 288, 290, 292, 892, 894, 896, 898, 900, 902, 904, 906, 908, 910, 912, 914, 916, 918, 920, 922, 924, 926, 928, 930, 932, 934, 7, 52, 61, 62, 63, 64, 65, 67, 467].filterMap (fun i => lw_tbl[i]?) := by decide +kernel
  intro w hw
  rw [h] at hw
  obtain ⟨i, -, hi⟩ := List.mem_filterMap.mp hw
  exact List.mem_of_getElem? hi
theorem zall_in_15 : ∀ w ∈ zall_15, w ∈ lw_tbl := by
  have h : zall_15 = [468, 476, 477, 478, 479, 480, 481, 482, 483, 484, 485, 486, 487, 488, 489, 490, 491, 492, 493, 495, 497, 498, 500, 501, 502, 503, 505, 506, 507, 509, 510, 511, 512, 513, 514, 515, 516, 517, 518, 519, 520, 522, 523, 524, 525, 530, 533, 555, 556, 558, 559, 560, 561, 562, 563, 565, 566, 567, 568, 569].filterMap (fun i => lw_tbl[i]?) := by decide +kernel
  intro w hw
  rw [h] at hw
  obtain ⟨i, -, hi⟩ := List.mem_filterMap.mp hw
  exact List.mem_of_getElem? hi
theorem zall_in_16 : ∀ w ∈ zall_16, w ∈ lw_tbl := by
  have h : zall_16 = [570, 677, 678, 679, 680, 686, 687, 689, 690, 691, 692, 693, 694, 696, 697, 698, 699, 700, 701, 708, 709, 721, 722, 751, 752, 760, 761, 764, 765, 766, 769, 770, 778, 779, 782, 783, 786, 787, 790, 791, 798, 799, 802, 803, 814, 815, 823, 824, 827, 828, 831, 832, 835, 836, 839, 840, 847, 848, 856, 857].filterMap (fun i => lw_tbl[i]?) := by decide +kernel
  intro w hw
  rw [h] at hw
  obtain ⟨i, -, hi⟩ := List.mem_filterMap.mp hw
  exact List.mem_of_getElem? hi
theorem zall_in : ∀ w ∈ zall, w ∈ lw_tbl := by
  intro w hw
  simp only [zall, List.mem_append] at hw
  rcases hw with (((((((((((((((h0 | h1) | h2) | h3) | h4) | h5) | h6) | h7) | h8) | h9) | h10) | h11) | h12) | h13) | h14) | h15) | h16
  · exact zall_in_0 w h0
  · exact zall_in_1 w h1
  · exact zall_in_2 w h2
  · exact zall_in_3 w h3
  · exact zall_in_4 w h4
  · exact zall_in_5 w h5
  · exact zall_in_6 w h6
  · exact zall_in_7 w h7
  · exact zall_in_8 w h8
  · exact zall_in_9 w h9
  · exact zall_in_10 w h10
  · exact zall_in_11 w h11
  · exact zall_in_12 w h12
  · exact zall_in_13 w h13
  · exact zall_in_14 w h14
  · exact zall_in_15 w h15
  · exact zall_in_16 w h16
theorem zchk_in : ∀ k, ∀ w ∈ zchk.getD k [], w ∈ zall := by
  intro k w hw
  simp only [zall, List.mem_append]
  rcases k with _ | k
  · exact Or.inl (Or.inl (Or.inl (Or.inl (Or.inl (Or.inl (Or.inl (Or.inl (Or.inl (Or.inl (Or.inl (Or.inl (Or.inl (Or.inl (Or.inl (Or.inl (hw))))))))))))))))
  rcases k with _ | k
  · exact Or.inl (Or.inl (Or.inl (Or.inl (Or.inl (Or.inl (Or.inl (Or.inl (Or.inl (Or.inl (Or.inl (Or.inl (Or.inl (Or.inl (Or.inl (Or.inr hw)))))))))))))))
  rcases k with _ | k
  · exact Or.inl (Or.inl (Or.inl (Or.inl (Or.inl (Or.inl (Or.inl (Or.inl (Or.inl (Or.inl (Or.inl (Or.inl (Or.inl (Or.inl (Or.inr hw))))))))))))))
  rcases k with _ | k
  · exact Or.inl (Or.inl (Or.inl (Or.inl (Or.inl (Or.inl (Or.inl (Or.inl (Or.inl (Or.inl (Or.inl (Or.inl (Or.inl (Or.inr hw)))))))))))))
  rcases k with _ | k
  · exact Or.inl (Or.inl (Or.inl (Or.inl (Or.inl (Or.inl (Or.inl (Or.inl (Or.inl (Or.inl (Or.inl (Or.inl (Or.inr hw))))))))))))
  rcases k with _ | k
  · exact Or.inl (Or.inl (Or.inl (Or.inl (Or.inl (Or.inl (Or.inl (Or.inl (Or.inl (Or.inl (Or.inl (Or.inr hw)))))))))))
  rcases k with _ | k
  · exact Or.inl (Or.inl (Or.inl (Or.inl (Or.inl (Or.inl (Or.inl (Or.inl (Or.inl (Or.inl (Or.inr hw))))))))))
  rcases k with _ | k
  · exact Or.inl (Or.inl (Or.inl (Or.inl (Or.inl (Or.inl (Or.inl (Or.inl (Or.inl (Or.inr hw)))))))))
  rcases k with _ | k
  · exact Or.inl (Or.inl (Or.inl (Or.inl (Or.inl (Or.inl (Or.inl (Or.inl (Or.inr hw))))))))
  rcases k with _ | k
  · exact Or.inl (Or.inl (Or.inl (Or.inl (Or.inl (Or.inl (Or.inl (Or.inr hw)))))))
  rcases k with _ | k
  · exact Or.inl (Or.inl (Or.inl (Or.inl (Or.inl (Or.inl (Or.inr hw))))))
  rcases k with _ | k
  · exact Or.inl (Or.inl (Or.inl (Or.inl (Or.inl (Or.inr hw)))))
  rcases k with _ | k
  · exact Or.inl (Or.inl (Or.inl (Or.inl (Or.inr hw))))
  rcases k with _ | k
  · exact Or.inl (Or.inl (Or.inl (Or.inr hw)))
  rcases k with _ | k
  · exact Or.inl (Or.inl (Or.inr hw))
  rcases k with _ | k
  · exact Or.inl (Or.inr hw)
  rcases k with _ | k
  · exact Or.inr hw
  · simp [zchk] at hw
theorem zall_good : zall.all goodWord = true := by decide +kernel
def znest : List (String × Nat × MethodName × String) := [("Nightjar$Lines", 66, ⟨"Nightjar", "quotient", "(II)I"⟩, "Nightjar"), ("Nightjar$Scenes", 81, ⟨"Nightjar", "quotient", "(II)I"⟩, "Nightjar"), ("Nightjar$Spikes", 54, ⟨"Nightjar", "quotient", "(II)I"⟩, "Nightjar"), ("Nightjar", 11, ⟨"Nightjar$Lines", "<init>", "()V"⟩, "Nightjar"), ("Nightjar", 18, ⟨"Nightjar$Templates", "<init>", "()V"⟩, "Nightjar"), ("Nightjar", 28, ⟨"Nightjar$Sessions", "<init>", "()V"⟩, "Nightjar"), ("Nightjar", 35, ⟨"Nightjar$Spikes", "<init>", "()V"⟩, "Nightjar"), ("Nightjar", 42, ⟨"Nightjar$Scenes", "<init>", "()V"⟩, "Nightjar")]
theorem znest_in : ∀ q ∈ znest, Cond.methodLinkNest q.1 q.2.1 q.2.2.1 q.2.2.2 ∈ lw_tbl := by
  have h : znest.map (fun q => Cond.methodLinkNest q.1 q.2.1 q.2.2.1 q.2.2.2) = [382, 418, 371, 80, 144, 164, 206, 234].filterMap (fun i => lw_tbl[i]?) := by decide +kernel
  intro q hq
  have h2 : Cond.methodLinkNest q.1 q.2.1 q.2.2.1 q.2.2.2 ∈ [382, 418, 371, 80, 144, 164, 206, 234].filterMap (fun i => lw_tbl[i]?) := by
    rw [← h]
    exact List.mem_map.mpr ⟨q, hq, rfl⟩
  obtain ⟨i, -, hi⟩ := List.mem_filterMap.mp h2
  exact List.mem_of_getElem? hi
def zF0 : u_T := fun k => match k with
  | 0 => ("Nightjar$Lines", "times", "LNightjar$Row;", true)
  | 1 => ("Nightjar$Lines", "sources", "LNightjar$Row;", true)
  | 2 => ("Nightjar$Lines", "levels", "LNightjar$Row;", true)
  | 3 => ("Nightjar$Lines", "sizes", "LNightjar$Row;", true)
  | 4 => ("Nightjar$Lines", "words", "LNightjar$Row;", true)
  | 5 => ("Nightjar$Lines", "templateOf", "LNightjar$Row;", true)
  | 6 => ("Nightjar$Lines", "keys", "LNightjar$Row;", true)
  | 7 => ("Nightjar$Lines", "number", "I", false)
  | _ => ("Nightjar$Lines", "learned", "I", false)
def zF1 : u_T := fun k => match k with
  | _ => ("Nightjar$Row", "cells", "[I", true)
def zF2 : u_T := fun k => match k with
  | 0 => ("Nightjar$Scenes", "sizes", "LNightjar$Row;", true)
  | 1 => ("Nightjar$Scenes", "masks", "LNightjar$Row;", true)
  | 2 => ("Nightjar$Scenes", "together", "LNightjar$Row;", true)
  | 3 => ("Nightjar$Scenes", "all", "LNightjar$Row;", true)
  | 4 => ("Nightjar$Scenes", "lineNumbers", "LNightjar$Row;", true)
  | 5 => ("Nightjar$Scenes", "scores", "LNightjar$Row;", true)
  | 6 => ("Nightjar$Scenes", "ranking", "LNightjar$Row;", true)
  | _ => ("Nightjar$Scenes", "causeNumbers", "LNightjar$Row;", true)
def zF3 : u_T := fun k => match k with
  | 0 => ("Nightjar$Sessions", "sessionOf", "LNightjar$Row;", true)
  | 1 => ("Nightjar$Sessions", "nexts", "LNightjar$Row;", true)
  | 2 => ("Nightjar$Sessions", "firsts", "LNightjar$Row;", true)
  | 3 => ("Nightjar$Sessions", "lasts", "LNightjar$Row;", true)
  | 4 => ("Nightjar$Sessions", "sizes", "LNightjar$Row;", true)
  | 5 => ("Nightjar$Sessions", "worst", "LNightjar$Row;", true)
  | 6 => ("Nightjar$Sessions", "paths", "LNightjar$Row;", true)
  | 7 => ("Nightjar$Sessions", "users", "LNightjar$Row;", true)
  | _ => ("Nightjar$Sessions", "number", "I", false)
def zF4 : u_T := fun k => match k with
  | 0 => ("Nightjar$Spikes", "windows", "LNightjar$Row;", true)
  | 1 => ("Nightjar$Spikes", "templates", "LNightjar$Row;", true)
  | 2 => ("Nightjar$Spikes", "counts", "LNightjar$Row;", true)
  | 3 => ("Nightjar$Spikes", "inWindow", "LNightjar$Row;", true)
  | _ => ("Nightjar$Spikes", "number", "I", false)
def zF5 : u_T := fun k => match k with
  | 0 => ("Nightjar$Templates", "sizes", "LNightjar$Row;", true)
  | 1 => ("Nightjar$Templates", "slots", "LNightjar$Row;", true)
  | _ => ("Nightjar$Templates", "number", "I", false)
def zF6 : u_T := fun k => match k with
  | 0 => ("Nightjar", "lines", "LNightjar$Lines;", true)
  | 1 => ("Nightjar", "templates", "LNightjar$Templates;", true)
  | 2 => ("Nightjar", "trial", "LNightjar$Templates;", true)
  | 3 => ("Nightjar", "sessions", "LNightjar$Sessions;", true)
  | 4 => ("Nightjar", "spikes", "LNightjar$Spikes;", true)
  | 5 => ("Nightjar", "scenes", "LNightjar$Scenes;", true)
  | _ => ("Nightjar", "settings", "LNightjar$Row;", true)
def zF7 : u_T := fun k => match k with
  | 0 => ("NightjarModel", "thrown", "I", false)
  | 1 => ("NightjarModel", "lines", "I", false)
  | 2 => ("NightjarModel", "time", "[I", true)
  | 3 => ("NightjarModel", "source", "[I", true)
  | 4 => ("NightjarModel", "level", "[I", true)
  | 5 => ("NightjarModel", "many", "[I", true)
  | 6 => ("NightjarModel", "word", "[I", true)
  | 7 => ("NightjarModel", "setting", "[I", true)
  | 8 => ("NightjarModel", "learned", "I", false)
  | 9 => ("NightjarModel", "of", "[I", false)
  | 10 => ("NightjarModel", "templates", "I", false)
  | 11 => ("NightjarModel", "places", "[I", false)
  | 12 => ("NightjarModel", "slot", "[I", false)
  | 13 => ("NightjarModel", "sessions", "I", false)
  | 14 => ("NightjarModel", "sessionOf", "[I", true)
  | 15 => ("NightjarModel", "first", "[I", true)
  | 16 => ("NightjarModel", "last", "[I", true)
  | 17 => ("NightjarModel", "spikes", "I", false)
  | 18 => ("NightjarModel", "spikeWindow", "[I", true)
  | 19 => ("NightjarModel", "spikeTemplate", "[I", true)
  | 20 => ("NightjarModel", "causes", "I", false)
  | _ => ("NightjarModel", "cause", "[I", true)
def zcl : List vw_C := [("Nightjar$Lines", zF0, 9), ("Nightjar$Row", zF1, 1), ("Nightjar$Scenes", zF2, 8), ("Nightjar$Sessions", zF3, 9), ("Nightjar$Spikes", zF4, 5), ("Nightjar$Templates", zF5, 3), ("Nightjar", zF6, 7), ("NightjarModel", zF7, 22)]
def zty0 : List FieldType := [.object "Nightjar$Row", .object "Nightjar$Row", .object "Nightjar$Row", .object "Nightjar$Row", .object "Nightjar$Row", .object "Nightjar$Row", .object "Nightjar$Row", .int, .int]
def zty1 : List FieldType := [.array .int]
def zty2 : List FieldType := [.object "Nightjar$Row", .object "Nightjar$Row", .object "Nightjar$Row", .object "Nightjar$Row", .object "Nightjar$Row", .object "Nightjar$Row", .object "Nightjar$Row", .object "Nightjar$Row"]
def zty3 : List FieldType := [.object "Nightjar$Row", .object "Nightjar$Row", .object "Nightjar$Row", .object "Nightjar$Row", .object "Nightjar$Row", .object "Nightjar$Row", .object "Nightjar$Row", .object "Nightjar$Row", .int]
def zty4 : List FieldType := [.object "Nightjar$Row", .object "Nightjar$Row", .object "Nightjar$Row", .object "Nightjar$Row", .int]
def zty5 : List FieldType := [.object "Nightjar$Row", .object "Nightjar$Row", .int]
def zty6 : List FieldType := [.object "Nightjar$Lines", .object "Nightjar$Templates", .object "Nightjar$Templates", .object "Nightjar$Sessions", .object "Nightjar$Spikes", .object "Nightjar$Scenes", .object "Nightjar$Row"]
def zty7 : List FieldType := [.int, .int, .array .int, .array .int, .array .int, .array .int, .array .int, .array .int, .int, .array .int, .int, .array .int, .array .int, .int, .array .int, .array .int, .array .int, .int, .array .int, .array .int, .int, .array .int]
def ztyp (c k : Nat) : FieldType := (([zty0, zty1, zty2, zty3, zty4, zty5, zty6, zty7] : List (List FieldType)).getD c []).getD k .int
def zlay : List (List Nat) := [[827, 828, 829, 830, 831, 832, 833, 834, 835], [836], [837, 838, 839, 840, 841, 842, 843, 844], [845, 846, 847, 848, 849, 850, 851, 852, 853], [854, 855, 856, 857, 858], [859, 860, 861], [862, 863, 864, 865, 866, 867, 868], [869, 870, 871, 872, 873, 874, 875, 876, 877, 878, 879, 880, 881, 882, 883, 884, 885, 886, 887, 888, 889, 890]]
def zm_0 : zM := (⟨"Nightjar$Row", "at", "(I)I"⟩, prog_3_method_2_code, 2, (Option.some Jvm.ClassFile.FieldType.int), 0, 0)
def zc_0 : List (Nat × Instr × List Nat) := [(0, .iload_n 1, []), (1, .ifCond .lt 21, [22]), (4, .iload_n 1, []), (5, .aload_n 0, []), (6, .getfield 9, [1, 0, 0]), (9, .arraylength, []), (10, .if_icmp .ge 12, [22]), (13, .aload_n 0, []), (14, .getfield 9, [1, 0, 0]), (17, .iload_n 1, []), (18, .iaload, []), (19, .goto 4, [23]), (22, .iconst (-1), []), (23, .ireturn, [])]
def zm_1 : zM := (⟨"Nightjar$Row", "put", "(II)V"⟩, prog_3_method_3_code, 3, (Option.none : Option Jvm.ClassFile.FieldType), 0, 0)
def zc_1 : List (Nat × Instr × List Nat) := [(0, .iload_n 1, []), (1, .ifCond .lt 19, [20]), (4, .iload_n 1, []), (5, .aload_n 0, []), (6, .getfield 9, [1, 0, 0]), (9, .arraylength, []), (10, .if_icmp .ge 10, [20]), (13, .aload_n 0, []), (14, .getfield 9, [1, 0, 0]), (17, .iload_n 1, []), (18, .iload_n 2, []), (19, .iastore, []), (20, .return_, [])]
def zm_2 : zM := (⟨"NightjarModel", "no", "(I)I"⟩, prog_9_method_3_code, 2, (Option.some Jvm.ClassFile.FieldType.int), 0, 0)
def zc_2 : List (Nat × Instr × List Nat) := [(0, .aload_n 0, []), (1, .iload_n 1, []), (2, .putfield 55, [7, 0, 0, 1]), (5, .iconst 0, []), (6, .ireturn, [])]
def zm_3 : zM := (⟨"Nightjar$Row", "<init>", "(I)V"⟩, prog_3_method_1_code, 2, (Option.none : Option Jvm.ClassFile.FieldType), 1, 20)
def zc_3 : List (Nat × Instr × List Nat) := [(0, .aload_n 0, []), (1, .invokespecial 3, [0, 5, 2, 3, 4]), (4, .aload_n 0, []), (5, .iload_n 1, []), (6, .ifCond .le 7, [13]), (9, .iload_n 1, []), (10, .goto 4, [14]), (13, .iconst 0, []), (14, .newarray .int, [0, 5]), (16, .putfield 9, [1, 0, 1, 0]), (19, .return_, [])]
def zm_4 : zM := (⟨"NightjarModel", "isIn", "(III)Z"⟩, prog_9_method_4_code, 3, (Option.some Jvm.ClassFile.FieldType.boolean), 0, 0)
def zc_4 : List (Nat × Instr × List Nat) := [(0, .iload_n 0, []), (1, .iload_n 1, []), (2, .if_icmp .lt 12, [14]), (5, .iload_n 0, []), (6, .iload_n 2, []), (7, .if_icmp .gt 7, [14]), (10, .iconst 1, []), (11, .goto 4, [15]), (14, .iconst 0, []), (15, .ireturn, [])]
def zm_5 : zM := (⟨"Nightjar", "isWithin", "(II)Z"⟩, prog_1_method_33_code, 2, (Option.some Jvm.ClassFile.FieldType.boolean), 0, 0)
def zc_5 : List (Nat × Instr × List Nat) := [(0, .iload_n 0, []), (1, .ifCond .lt 12, [13]), (4, .iload_n 0, []), (5, .iload_n 1, []), (6, .if_icmp .gt 7, [13]), (9, .iconst 1, []), (10, .goto 4, [14]), (13, .iconst 0, []), (14, .ireturn, [])]
def zm_6 : zM := (⟨"Nightjar", "mix", "(JI)J"⟩, prog_1_method_29_code, 3, (Option.some Jvm.ClassFile.FieldType.long), 0, 0)
def zc_6 : List (Nat × Instr × List Nat) := [(0, .lload_n 0, []), (1, .ldc2_w 335, [31, 6]), (4, .lmul, []), (5, .iload_n 2, []), (6, .i2l, []), (7, .ladd, []), (8, .lreturn, [])]
def zm_7 : zM := (⟨"Nightjar$Row", "increase", "(I)V"⟩, prog_3_method_4_code, 2, (Option.none : Option Jvm.ClassFile.FieldType), 0, 0)
def zc_7 : List (Nat × Instr × List Nat) := [(0, .iload_n 1, []), (1, .ifCond .lt 22, [23]), (4, .iload_n 1, []), (5, .aload_n 0, []), (6, .getfield 9, [1, 0, 0]), (9, .arraylength, []), (10, .if_icmp .ge 13, [23]), (13, .aload_n 0, []), (14, .getfield 9, [1, 0, 0]), (17, .iload_n 1, []), (18, .dup2, []), (19, .iaload, []), (20, .iconst 1, []), (21, .iadd, []), (22, .iastore, []), (23, .return_, [])]
def zm_8 : zM := (⟨"Nightjar$Lines", "wordIn", "(II)I"⟩, prog_2_method_5_code, 3, (Option.some Jvm.ClassFile.FieldType.int), 1, 21)
def zc_8 : List (Nat × Instr × List Nat) := [(0, .aload_n 0, []), (1, .getfield 29, [0, 4, 7]), (4, .iload_n 1, []), (5, .bipush 8, []), (7, .imul, []), (8, .iload_n 2, []), (9, .iadd, []), (10, .invokevirtual 46, [0, 0, 1, 1, 10, 11, 12, 9, 0, 8]), (13, .ireturn, [])]
def zm_9 : zM := (⟨"Nightjar$Scenes", "pair", "(II)I"⟩, prog_4_method_4_code, 2, (Option.some Jvm.ClassFile.FieldType.int), 0, 0)
def zc_9 : List (Nat × Instr × List Nat) := [(0, .iload_n 0, []), (1, .bipush 20, []), (3, .imul, []), (4, .iload_n 1, []), (5, .iadd, []), (6, .ireturn, [])]
def zm_10 : zM := (⟨"Nightjar", "hasTemplate", "(I)Z"⟩, prog_1_method_31_code, 2, (Option.some Jvm.ClassFile.FieldType.boolean), 0, 0)
def zc_10 : List (Nat × Instr × List Nat) := [(0, .iload_n 1, []), (1, .ifCond .lt 18, [19]), (4, .iload_n 1, []), (5, .aload_n 0, []), (6, .getfield 19, [6, 1, 13]), (9, .getfield 126, [5, 2, 14]), (12, .if_icmp .ge 7, [19]), (15, .iconst 1, []), (16, .goto 4, [20]), (19, .iconst 0, []), (20, .ireturn, [])]
def zm_11 : zM := (⟨"NightjarModel", "isTemplate", "(I)Z"⟩, prog_9_method_6_code, 2, (Option.some Jvm.ClassFile.FieldType.boolean), 1, 22)
def zc_11 : List (Nat × Instr × List Nat) := [(0, .iload_n 1, []), (1, .iconst 0, []), (2, .aload_n 0, []), (3, .getfield 66, [7, 10, 15]), (6, .iconst 1, []), (7, .isub, []), (8, .invokestatic 62, [4, 1, 3, 0, 18, 0, 19, 17, 0, 16]), (11, .ireturn, [])]
def zm_12 : zM := (⟨"NightjarModel", "key", "(I)I"⟩, prog_9_method_18_code, 4, (Option.some Jvm.ClassFile.FieldType.int), 1, 21)
def zc_12 : List (Nat × Instr × List Nat) := [(0, .aload_n 0, []), (1, .iload_n 1, []), (2, .invokevirtual 96, [23, 0, 1, 7, 22, 23, 19, 21, 0, 20]), (5, .istore_n 2, []), (6, .iconst 0, []), (7, .istore_n 3, []), (8, .iload_n 2, []), (9, .iconst (-1), []), (10, .if_icmp .eq 46, [56]), (13, .iload_n 3, []), (14, .aload_n 0, []), (15, .getfield 31, [7, 11, 24]), (18, .iload_n 2, []), (19, .iaload, []), (20, .if_icmp .ge 36, [56]), (23, .aload_n 0, []), (24, .getfield 34, [7, 12, 25]), (27, .iload_n 2, []), (28, .bipush 8, []), (30, .imul, []), (31, .iload_n 3, []), (32, .iadd, []), (33, .iaload, []), (34, .iconst (-1), []), (35, .if_icmp .ne 15, [50]), (38, .aload_n 0, []), (39, .getfield 22, [7, 6, 26]), (42, .iload_n 1, []), (43, .bipush 8, []), (45, .imul, []), (46, .iload_n 3, []), (47, .iadd, []), (48, .iaload, []), (49, .ireturn, []), (50, .iinc 3 1, []), (53, .goto (-45), [8]), (56, .iconst (-1), []), (57, .ireturn, [])]
def zm_13 : zM := (⟨"Nightjar", "quotient", "(II)I"⟩, prog_1_method_34_code, 2, (Option.some Jvm.ClassFile.FieldType.int), 0, 0)
def zc_13 : List (Nat × Instr × List Nat) := [(0, .iload_n 1, []), (1, .ifCond .ne 7, [8]), (4, .iconst 0, []), (5, .goto 6, [11]), (8, .iload_n 0, []), (9, .iload_n 1, []), (10, .idiv, []), (11, .ireturn, [])]
def zm_14 : zM := (⟨"NightjarModel", "tellSessions", "()V"⟩, prog_9_method_20_code, 1, (Option.none : Option Jvm.ClassFile.FieldType), 3, 68)
def zc_14 : List (Nat × Instr × List Nat) := [(0, .aload_n 0, []), (1, .aload_n 0, []), (2, .getfield 25, [7, 7, 27]), (5, .iconst 1, []), (6, .iaload, []), (7, .invokevirtual 105, [45, 0, 1, 7, 30, 31, 19, 29, 0, 28]), (10, .pop, []), (11, .return_, [])]
def zm_15 : zM := (⟨"Nightjar$Row", "clear", "()V"⟩, prog_3_method_5_code, 2, (Option.none : Option Jvm.ClassFile.FieldType), 0, 0)
def zc_15 : List (Nat × Instr × List Nat) := [(0, .iconst 0, []), (1, .istore_n 1, []), (2, .iload_n 1, []), (3, .aload_n 0, []), (4, .getfield 9, [1, 0, 0]), (7, .arraylength, []), (8, .if_icmp .ge 16, [24]), (11, .aload_n 0, []), (12, .getfield 9, [1, 0, 0]), (15, .iload_n 1, []), (16, .iconst 0, []), (17, .iastore, []), (18, .iinc 1 1, []), (21, .goto (-19), [2]), (24, .return_, [])]
def zm_16 : zM := (⟨"Nightjar$Templates", "slotIn", "(II)I"⟩, prog_7_method_2_code, 3, (Option.some Jvm.ClassFile.FieldType.int), 1, 21)
def zc_16 : List (Nat × Instr × List Nat) := [(0, .aload_n 0, []), (1, .getfield 20, [5, 1, 32]), (4, .iload_n 1, []), (5, .bipush 8, []), (7, .imul, []), (8, .iload_n 2, []), (9, .iadd, []), (10, .invokevirtual 23, [0, 0, 1, 1, 10, 11, 12, 9, 0, 33]), (13, .ireturn, [])]
def zm_17 : zM := (⟨"Nightjar", "hasLine", "(I)Z"⟩, prog_1_method_30_code, 2, (Option.some Jvm.ClassFile.FieldType.boolean), 0, 0)
def zc_17 : List (Nat × Instr × List Nat) := [(0, .iload_n 1, []), (1, .ifCond .lt 18, [19]), (4, .iload_n 1, []), (5, .aload_n 0, []), (6, .getfield 12, [6, 0, 34]), (9, .getfield 71, [0, 7, 35]), (12, .if_icmp .ge 7, [19]), (15, .iconst 1, []), (16, .goto 4, [20]), (19, .iconst 0, []), (20, .ireturn, [])]
def zm_18 : zM := (⟨"NightjarModel", "isLine", "(I)Z"⟩, prog_9_method_5_code, 2, (Option.some Jvm.ClassFile.FieldType.boolean), 1, 22)
def zc_18 : List (Nat × Instr × List Nat) := [(0, .iload_n 1, []), (1, .iconst 0, []), (2, .aload_n 0, []), (3, .getfield 59, [7, 1, 36]), (6, .iconst 1, []), (7, .isub, []), (8, .invokestatic 62, [4, 1, 3, 0, 18, 0, 19, 17, 0, 16]), (11, .ireturn, [])]
def zm_19 : zM := (⟨"NightjarModel", "countNow", "(II)I"⟩, prog_9_method_23_code, 5, (Option.some Jvm.ClassFile.FieldType.int), 1, 21)
def zc_19 : List (Nat × Instr × List Nat) := [(0, .iconst 0, []), (1, .istore_n 3, []), (2, .iconst 0, []), (3, .istore 4, []), (5, .iload 4, []), (7, .aload_n 0, []), (8, .getfield 73, [7, 8, 37]), (11, .if_icmp .ge 38, [49]), (14, .iload_n 3, []), (15, .aload_n 0, []), (16, .getfield 28, [7, 9, 38]), (19, .iload 4, []), (21, .iaload, []), (22, .iload_n 1, []), (23, .if_icmp .ne 17, [40]), (26, .aload_n 0, []), (27, .iload 4, []), (29, .invokevirtual 108, [31, 0, 1, 7, 41, 42, 19, 40, 0, 39]), (32, .iload_n 2, []), (33, .if_icmp .ne 7, [40]), (36, .iconst 1, []), (37, .goto 4, [41]), (40, .iconst 0, []), (41, .iadd, []), (42, .istore_n 3, []), (43, .iinc 4 1, []), (46, .goto (-41), [5]), (49, .iload_n 3, []), (50, .ireturn, [])]
def zm_20 : zM := (⟨"Nightjar$Scenes", "causeOf", "(II)I"⟩, prog_4_method_8_code, 3, (Option.some Jvm.ClassFile.FieldType.int), 1, 21)
def zc_20 : List (Nat × Instr × List Nat) := [(0, .aload_n 0, []), (1, .getfield 35, [2, 6, 43]), (4, .iload_n 1, []), (5, .iload_n 2, []), (6, .invokestatic 74, [9, 1, 2, 0, 46, 0, 47, 45, 0, 44]), (9, .invokevirtual 54, [0, 0, 1, 1, 10, 11, 12, 9, 0, 48]), (12, .ireturn, [])]
def zm_21 : zM := (⟨"Nightjar", "recompute", "()V"⟩, prog_1_method_35_code, 1, (Option.none : Option Jvm.ClassFile.FieldType), 4, 100)
def zc_21 : List (Nat × Instr × List Nat) := [(0, .aload_n 0, []), (1, .getfield 12, [6, 0, 34]), (4, .aload_n 0, []), (5, .getfield 19, [6, 1, 13]), (8, .invokevirtual 337, [64, 0, 1, 0, 51, 52, 53, 50, 0, 49]), (11, .aload_n 0, []), (12, .getfield 29, [6, 3, 54]), (15, .aload_n 0, []), (16, .getfield 12, [6, 0, 34]), (19, .aload_n 0, []), (20, .getfield 52, [6, 6, 55]), (23, .iconst 1, []), (24, .invokevirtual 83, [0, 0, 1, 1, 10, 11, 12, 9, 0, 56]), (27, .invokevirtual 341, [78, 0, 2, 3, 59, 60, 61, 58, 0, 57]), (30, .aload_n 0, []), (31, .getfield 29, [6, 3, 54]), (34, .aload_n 0, []), (35, .getfield 12, [6, 0, 34]), (38, .invokevirtual 345, [81, 0, 1, 3, 64, 65, 61, 63, 0, 62]), (41, .aload_n 0, []), (42, .getfield 36, [6, 4, 66]), (45, .aload_n 0, []), (46, .getfield 12, [6, 0, 34]), (49, .aload_n 0, []), (50, .getfield 19, [6, 1, 13]), (53, .getfield 126, [5, 2, 14]), (56, .aload_n 0, []), (57, .getfield 52, [6, 6, 55]), (60, .iconst 2, []), (61, .invokevirtual 83, [0, 0, 1, 1, 10, 11, 12, 9, 0, 56]), (64, .invokevirtual 349, [89, 0, 3, 4, 69, 70, 71, 68, 0, 67]), (67, .aload_n 0, []), (68, .getfield 43, [6, 5, 72]), (71, .aload_n 0, []), (72, .getfield 12, [6, 0, 34]), (75, .aload_n 0, []), (76, .getfield 52, [6, 6, 55]), (79, .iconst 3, []), (80, .invokevirtual 83, [0, 0, 1, 1, 10, 11, 12, 9, 0, 56]), (83, .invokevirtual 352, [71, 0, 2, 2, 75, 76, 47, 74, 0, 73]), (86, .aload_n 0, []), (87, .getfield 43, [6, 5, 72]), (90, .aload_n 0, []), (91, .getfield 12, [6, 0, 34]), (94, .aload_n 0, []), (95, .getfield 19, [6, 1, 13]), (98, .getfield 126, [5, 2, 14]), (101, .invokevirtual 355, [72, 0, 2, 2, 79, 80, 47, 78, 0, 77]), (104, .aload_n 0, []), (105, .getfield 43, [6, 5, 72]), (108, .aload_n 0, []), (109, .getfield 19, [6, 1, 13]), (112, .getfield 126, [5, 2, 14]), (115, .aload_n 0, []), (116, .getfield 12, [6, 0, 34]), (119, .getfield 101, [0, 8, 81]), (122, .invokevirtual 358, [73, 0, 2, 2, 84, 85, 47, 83, 0, 82]), (125, .return_, [])]
def zm_22 : zM := (⟨"NightjarModel", "alikeNow", "(II)I"⟩, prog_9_method_9_code, 5, (Option.some Jvm.ClassFile.FieldType.int), 0, 0)
def zc_22 : List (Nat × Instr × List Nat) := [(0, .iconst 0, []), (1, .istore_n 3, []), (2, .iconst 0, []), (3, .istore 4, []), (5, .iload 4, []), (7, .aload_n 0, []), (8, .getfield 19, [7, 5, 86]), (11, .iload_n 1, []), (12, .iaload, []), (13, .if_icmp .ge 44, [57]), (16, .iload_n 3, []), (17, .aload_n 0, []), (18, .getfield 34, [7, 12, 25]), (21, .iload_n 2, []), (22, .bipush 8, []), (24, .imul, []), (25, .iload 4, []), (27, .iadd, []), (28, .iaload, []), (29, .aload_n 0, []), (30, .getfield 22, [7, 6, 26]), (33, .iload_n 1, []), (34, .bipush 8, []), (36, .imul, []), (37, .iload 4, []), (39, .iadd, []), (40, .iaload, []), (41, .if_icmp .ne 7, [48]), (44, .iconst 1, []), (45, .goto 4, [49]), (48, .iconst 0, []), (49, .iadd, []), (50, .istore_n 3, []), (51, .iinc 4 1, []), (54, .goto (-49), [5]), (57, .iload_n 3, []), (58, .ireturn, [])]
def zm_23 : zM := (⟨"NightjarModel", "templateOf", "(I)I"⟩, prog_9_method_17_code, 2, (Option.some Jvm.ClassFile.FieldType.int), 0, 0)
def zc_23 : List (Nat × Instr × List Nat) := [(0, .iload_n 1, []), (1, .aload_n 0, []), (2, .getfield 73, [7, 8, 37]), (5, .if_icmp .ge 12, [17]), (8, .aload_n 0, []), (9, .getfield 28, [7, 9, 38]), (12, .iload_n 1, []), (13, .iaload, []), (14, .goto 4, [18]), (17, .iconst (-1), []), (18, .ireturn, [])]
def zm_24 : zM := (⟨"NightjarModel", "tellCauses", "(I)V"⟩, prog_9_method_31_code, 7, (Option.none : Option Jvm.ClassFile.FieldType), 4, 94)
def zc_24 : List (Nat × Instr × List Nat) := [(0, .aload_n 0, []), (1, .iconst 0, []), (2, .putfield 136, [7, 20, 0, 87]), (5, .iconst 0, []), (6, .istore_n 2, []), (7, .iconst 0, []), (8, .istore_n 3, []), (9, .iload_n 3, []), (10, .aload_n 0, []), (11, .getfield 73, [7, 8, 37]), (14, .if_icmp .ge 27, [41]), (17, .iload_n 2, []), (18, .aload_n 0, []), (19, .getfield 28, [7, 9, 38]), (22, .iload_n 3, []), (23, .iaload, []), (24, .iload_n 1, []), (25, .if_icmp .ne 7, [32]), (28, .iconst 1, []), (29, .goto 4, [33]), (32, .iconst 0, []), (33, .iadd, []), (34, .istore_n 2, []), (35, .iinc 3 1, []), (38, .goto (-29), [9]), (41, .iconst 0, []), (42, .istore_n 3, []), (43, .iload_n 3, []), (44, .aload_n 0, []), (45, .getfield 66, [7, 10, 15]), (48, .if_icmp .ge 127, [175]), (51, .iload_n 3, []), (52, .iload_n 1, []), (53, .if_icmp .ne 6, [59]), (56, .goto 113, [169]), (59, .iconst 0, []), (60, .istore 4, []), (62, .iconst 0, []), (63, .istore 5, []), (65, .iconst 0, []), (66, .istore 6, []), (68, .iload 6, []), (70, .aload_n 0, []), (71, .getfield 73, [7, 8, 37]), (74, .if_icmp .ge 43, [117]), (77, .aload_n 0, []), (78, .iload 6, []), (80, .iload_n 3, []), (81, .invokevirtual 139, [32, 0, 2, 7, 90, 91, 19, 89, 0, 88]), (84, .iconst (-1), []), (85, .if_icmp .ne 6, [91]), (88, .goto 23, [111]), (91, .aload_n 0, []), (92, .getfield 28, [7, 9, 38]), (95, .iload 6, []), (97, .iaload, []), (98, .iload_n 1, []), (99, .if_icmp .ne 9, [108]), (102, .iinc 4 1, []), (105, .goto 6, [111]), (108, .iinc 5 1, []), (111, .iinc 6 1, []), (114, .goto (-46), [68]), (117, .sipush 1000, []), (120, .iload 4, []), (122, .imul, []), (123, .iload_n 2, []), (124, .idiv, []), (125, .aload_n 0, []), (126, .getfield 73, [7, 8, 37]), (129, .iload_n 2, []), (130, .if_icmp .ne 7, [137]), (133, .iconst 0, []), (134, .goto 16, [150]), (137, .sipush 1000, []), (140, .iload 5, []), (142, .imul, []), (143, .aload_n 0, []), (144, .getfield 73, [7, 8, 37]), (147, .iload_n 2, []), (148, .isub, []), (149, .idiv, []), (150, .isub, []), (151, .istore 6, []), (153, .iload 6, []), (155, .ifCond .le 14, [169]), (158, .aload_n 0, []), (159, .iload_n 3, []), (160, .iload 4, []), (162, .iload 5, []), (164, .iload 6, []), (166, .invokevirtual 142, [111, 0, 4, 7, 94, 95, 19, 93, 0, 92]), (169, .iinc 3 1, []), (172, .goto (-129), [43]), (175, .return_, [])]
def zm_25 : zM := (⟨"NightjarModel", "nextIn", "(II)I"⟩, prog_9_method_45_code, 4, (Option.some Jvm.ClassFile.FieldType.int), 0, 0)
def zc_25 : List (Nat × Instr × List Nat) := [(0, .iload_n 2, []), (1, .iconst 1, []), (2, .iadd, []), (3, .istore_n 3, []), (4, .iload_n 3, []), (5, .aload_n 0, []), (6, .getfield 59, [7, 1, 36]), (9, .if_icmp .ge 21, [30]), (12, .aload_n 0, []), (13, .getfield 37, [7, 14, 96]), (16, .iload_n 3, []), (17, .iaload, []), (18, .iload_n 1, []), (19, .if_icmp .ne 5, [24]), (22, .iload_n 3, []), (23, .ireturn, []), (24, .iinc 3 1, []), (27, .goto (-23), [4]), (30, .iconst (-1), []), (31, .ireturn, [])]
def zm_26 : zM := (⟨"Nightjar$Scenes", "bitOf", "(I)I"⟩, prog_4_method_3_code, 1, (Option.some Jvm.ClassFile.FieldType.int), 0, 0)
def zc_26 : List (Nat × Instr × List Nat) := [(0, .iload_n 0, []), (1, .ifCond .ge 7, [8]), (4, .iconst 0, []), (5, .goto 6, [11]), (8, .iconst 1, []), (9, .iload_n 0, []), (10, .ishl, []), (11, .ireturn, [])]
def zm_27 : zM := (⟨"Nightjar$Scenes", "hits", "(II)I"⟩, prog_4_method_9_code, 3, (Option.some Jvm.ClassFile.FieldType.int), 1, 21)
def zc_27 : List (Nat × Instr × List Nat) := [(0, .aload_n 0, []), (1, .getfield 23, [2, 2, 97]), (4, .iload_n 1, []), (5, .iload_n 2, []), (6, .invokestatic 74, [9, 1, 2, 0, 46, 0, 47, 45, 0, 44]), (9, .invokevirtual 54, [0, 0, 1, 1, 10, 11, 12, 9, 0, 48]), (12, .ireturn, [])]
def zm_28 : zM := (⟨"Nightjar$Sessions", "howManyAlike", "(I)I"⟩, prog_5_method_11_code, 2, (Option.some Jvm.ClassFile.FieldType.int), 1, 21)
def zc_28 : List (Nat × Instr × List Nat) := [(0, .aload_n 0, []), (1, .getfield 38, [3, 7, 98]), (4, .aload_n 0, []), (5, .getfield 35, [3, 6, 99]), (8, .iload_n 1, []), (9, .invokevirtual 55, [0, 0, 1, 1, 10, 11, 12, 9, 0, 100]), (12, .invokevirtual 55, [0, 0, 1, 1, 10, 11, 12, 9, 0, 100]), (15, .ireturn, [])]
def zm_29 : zM := (⟨"NightjarModel", "learnLine", "(II)V"⟩, prog_9_method_11_code, 5, (Option.none : Option Jvm.ClassFile.FieldType), 2, 89)
def zc_29 : List (Nat × Instr × List Nat) := [(0, .aload_n 0, []), (1, .iload_n 1, []), (2, .iload_n 2, []), (3, .invokevirtual 80, [107, 0, 2, 7, 103, 104, 19, 102, 0, 101]), (6, .istore_n 3, []), (7, .iload_n 3, []), (8, .iconst (-1), []), (9, .if_icmp .ne 28, [37]), (12, .aload_n 0, []), (13, .getfield 28, [7, 9, 38]), (16, .iload_n 1, []), (17, .aload_n 0, []), (18, .getfield 66, [7, 10, 15]), (21, .bipush 20, []), (23, .if_icmp .ge 11, [34]), (26, .aload_n 0, []), (27, .iload_n 1, []), (28, .invokevirtual 83, [108, 0, 1, 7, 107, 108, 19, 106, 0, 105]), (31, .goto 4, [35]), (34, .iconst (-1), []), (35, .iastore, []), (36, .return_, []), (37, .aload_n 0, []), (38, .getfield 28, [7, 9, 38]), (41, .iload_n 1, []), (42, .iload_n 3, []), (43, .iastore, []), (44, .iconst 0, []), (45, .istore 4, []), (47, .iload 4, []), (49, .aload_n 0, []), (50, .getfield 31, [7, 11, 24]), (53, .iload_n 3, []), (54, .iaload, []), (55, .if_icmp .ge 49, [104]), (58, .aload_n 0, []), (59, .getfield 34, [7, 12, 25]), (62, .iload_n 3, []), (63, .bipush 8, []), (65, .imul, []), (66, .iload 4, []), (68, .iadd, []), (69, .iaload, []), (70, .aload_n 0, []), (71, .getfield 22, [7, 6, 26]), (74, .iload_n 1, []), (75, .bipush 8, []), (77, .imul, []), (78, .iload 4, []), (80, .iadd, []), (81, .iaload, []), (82, .if_icmp .eq 16, [98]), (85, .aload_n 0, []), (86, .getfield 34, [7, 12, 25]), (89, .iload_n 3, []), (90, .bipush 8, []), (92, .imul, []), (93, .iload 4, []), (95, .iadd, []), (96, .iconst (-1), []), (97, .iastore, []), (98, .iinc 4 1, []), (101, .goto (-54), [47]), (104, .return_, [])]
def zm_30 : zM := (⟨"NightjarModel", "holes", "(I)I"⟩, prog_9_method_13_code, 4, (Option.some Jvm.ClassFile.FieldType.int), 0, 0)
def zc_30 : List (Nat × Instr × List Nat) := [(0, .iconst 0, []), (1, .istore_n 2, []), (2, .iconst 0, []), (3, .istore_n 3, []), (4, .iload_n 3, []), (5, .aload_n 0, []), (6, .getfield 31, [7, 11, 24]), (9, .iload_n 1, []), (10, .iaload, []), (11, .if_icmp .ge 32, [43]), (14, .iload_n 2, []), (15, .aload_n 0, []), (16, .getfield 34, [7, 12, 25]), (19, .iload_n 1, []), (20, .bipush 8, []), (22, .imul, []), (23, .iload_n 3, []), (24, .iadd, []), (25, .iaload, []), (26, .iconst (-1), []), (27, .if_icmp .ne 7, [34]), (30, .iconst 1, []), (31, .goto 4, [35]), (34, .iconst 0, []), (35, .iadd, []), (36, .istore_n 2, []), (37, .iinc 3 1, []), (40, .goto (-36), [4]), (43, .iload_n 2, []), (44, .ireturn, [])]
def zm_31 : zM := (⟨"NightjarModel", "window", "(I)I"⟩, prog_9_method_22_code, 2, (Option.some Jvm.ClassFile.FieldType.int), 0, 0)
def zc_31 : List (Nat × Instr × List Nat) := [(0, .aload_n 0, []), (1, .getfield 9, [7, 2, 109]), (4, .iload_n 1, []), (5, .iaload, []), (6, .aload_n 0, []), (7, .getfield 25, [7, 7, 27]), (10, .iconst 2, []), (11, .iaload, []), (12, .idiv, []), (13, .ireturn, [])]
def zm_32 : zM := (⟨"NightjarModel", "lastInScene", "(II)I"⟩, prog_9_method_30_code, 4, (Option.some Jvm.ClassFile.FieldType.int), 3, 66)
def zc_32 : List (Nat × Instr × List Nat) := [(0, .iload_n 1, []), (1, .iconst 1, []), (2, .isub, []), (3, .istore_n 3, []), (4, .iload_n 3, []), (5, .ifCond .lt 29, [34]), (8, .aload_n 0, []), (9, .iload_n 3, []), (10, .invokevirtual 96, [23, 0, 1, 7, 22, 23, 19, 21, 0, 20]), (13, .iload_n 2, []), (14, .if_icmp .ne 14, [28]), (17, .aload_n 0, []), (18, .iload_n 3, []), (19, .iload_n 1, []), (20, .invokevirtual 132, [49, 0, 2, 7, 112, 113, 19, 111, 0, 110]), (23, .ifCond .eq 5, [28]), (26, .iload_n 3, []), (27, .ireturn, []), (28, .iinc 3 (-1), []), (31, .goto (-27), [4]), (34, .iconst (-1), []), (35, .ireturn, [])]
def zm_33 : zM := (⟨"Nightjar$Lines", "howManyBetween", "(IIII)I"⟩, prog_2_method_12_code, 8, (Option.some Jvm.ClassFile.FieldType.int), 1, 21)
def zc_33 : List (Nat × Instr × List Nat) := [(0, .iconst 0, []), (1, .istore 5, []), (3, .iconst 0, []), (4, .istore 6, []), (6, .iload 6, []), (8, .aload_n 0, []), (9, .getfield 50, [0, 8, 114]), (12, .if_icmp .ge 53, [65]), (15, .aload_n 0, []), (16, .getfield 14, [0, 0, 115]), (19, .iload 6, []), (21, .invokevirtual 46, [0, 0, 1, 1, 10, 11, 12, 9, 0, 8]), (24, .iload 4, []), (26, .invokestatic 66, [13, 1, 2, 0, 117, 0, 118, 116, 1, 0]), (29, .istore 7, []), (31, .aload_n 0, []), (32, .getfield 32, [0, 5, 119]), (35, .iload 6, []), (37, .invokevirtual 46, [0, 0, 1, 1, 10, 11, 12, 9, 0, 8]), (40, .iload_n 1, []), (41, .if_icmp .ne 18, [59]), (44, .iload 7, []), (46, .iload_n 2, []), (47, .if_icmp .lt 12, [59]), (50, .iload 7, []), (52, .iload_n 3, []), (53, .if_icmp .gt 6, [59]), (56, .iinc 5 1, []), (59, .iinc 6 1, []), (62, .goto (-56), [6]), (65, .iload 5, []), (67, .ireturn, [])]
def zm_34 : zM := (⟨"Nightjar$Lines", "joined", "(II)I"⟩, prog_2_method_13_code, 4, (Option.some Jvm.ClassFile.FieldType.int), 1, 21)
def zc_34 : List (Nat × Instr × List Nat) := [(0, .iload_n 1, []), (1, .iconst 1, []), (2, .isub, []), (3, .istore_n 3, []), (4, .iload_n 3, []), (5, .ifCond .lt 55, [60]), (8, .aload_n 0, []), (9, .getfield 35, [0, 6, 120]), (12, .iload_n 3, []), (13, .invokevirtual 46, [0, 0, 1, 1, 10, 11, 12, 9, 0, 8]), (16, .aload_n 0, []), (17, .getfield 35, [0, 6, 120]), (20, .iload_n 1, []), (21, .invokevirtual 46, [0, 0, 1, 1, 10, 11, 12, 9, 0, 8]), (24, .if_icmp .ne 30, [54]), (27, .aload_n 0, []), (28, .getfield 14, [0, 0, 115]), (31, .iload_n 1, []), (32, .invokevirtual 46, [0, 0, 1, 1, 10, 11, 12, 9, 0, 8]), (35, .aload_n 0, []), (36, .getfield 14, [0, 0, 115]), (39, .iload_n 3, []), (40, .invokevirtual 46, [0, 0, 1, 1, 10, 11, 12, 9, 0, 8]), (43, .isub, []), (44, .iload_n 2, []), (45, .if_icmp .gt 7, [52]), (48, .iload_n 3, []), (49, .goto 4, [53]), (52, .iconst (-1), []), (53, .ireturn, []), (54, .iinc 3 (-1), []), (57, .goto (-53), [4]), (60, .iconst (-1), []), (61, .ireturn, [])]
def zm_35 : zM := (⟨"Nightjar$Lines", "isInScene", "(III)Z"⟩, prog_2_method_14_code, 5, (Option.some Jvm.ClassFile.FieldType.boolean), 1, 21)
def zc_35 : List (Nat × Instr × List Nat) := [(0, .iload_n 1, []), (1, .iload_n 2, []), (2, .if_icmp .ge 32, [34]), (5, .iload_n 1, []), (6, .aload_n 0, []), (7, .getfield 50, [0, 8, 114]), (10, .if_icmp .ge 24, [34]), (13, .aload_n 0, []), (14, .getfield 14, [0, 0, 115]), (17, .iload_n 1, []), (18, .invokevirtual 46, [0, 0, 1, 1, 10, 11, 12, 9, 0, 8]), (21, .aload_n 0, []), (22, .getfield 14, [0, 0, 115]), (25, .iload_n 2, []), (26, .invokevirtual 46, [0, 0, 1, 1, 10, 11, 12, 9, 0, 8]), (29, .iload_n 3, []), (30, .isub, []), (31, .if_icmp .ge 5, [36]), (34, .iconst 0, []), (35, .ireturn, []), (36, .aload_n 0, []), (37, .getfield 35, [0, 6, 120]), (40, .iload_n 2, []), (41, .invokevirtual 46, [0, 0, 1, 1, 10, 11, 12, 9, 0, 8]), (44, .ifCond .lt 26, [70]), (47, .aload_n 0, []), (48, .getfield 35, [0, 6, 120]), (51, .iload_n 1, []), (52, .invokevirtual 46, [0, 0, 1, 1, 10, 11, 12, 9, 0, 8]), (55, .aload_n 0, []), (56, .getfield 35, [0, 6, 120]), (59, .iload_n 2, []), (60, .invokevirtual 46, [0, 0, 1, 1, 10, 11, 12, 9, 0, 8]), (63, .if_icmp .ne 7, [70]), (66, .iconst 1, []), (67, .goto 4, [71]), (70, .iconst 0, []), (71, .istore 4, []), (73, .iload 4, []), (75, .ifCond .ne 22, [97]), (78, .aload_n 0, []), (79, .getfield 20, [0, 1, 121]), (82, .iload_n 1, []), (83, .invokevirtual 46, [0, 0, 1, 1, 10, 11, 12, 9, 0, 8]), (86, .aload_n 0, []), (87, .getfield 20, [0, 1, 121]), (90, .iload_n 2, []), (91, .invokevirtual 46, [0, 0, 1, 1, 10, 11, 12, 9, 0, 8]), (94, .if_icmp .ne 7, [101]), (97, .iconst 1, []), (98, .goto 4, [102]), (101, .iconst 0, []), (102, .ireturn, [])]
def zm_36 : zM := (⟨"Nightjar$Scenes", "rest", "(II)I"⟩, prog_4_method_10_code, 3, (Option.some Jvm.ClassFile.FieldType.int), 2, 43)
def zc_36 : List (Nat × Instr × List Nat) := [(0, .aload_n 0, []), (1, .getfield 26, [2, 3, 122]), (4, .iload_n 2, []), (5, .invokevirtual 54, [0, 0, 1, 1, 10, 11, 12, 9, 0, 48]), (8, .aload_n 0, []), (9, .iload_n 1, []), (10, .iload_n 2, []), (11, .invokevirtual 78, [27, 0, 2, 2, 125, 126, 47, 124, 0, 123]), (14, .isub, []), (15, .ireturn, [])]
def zm_37 : zM := (⟨"Nightjar$Scenes", "score", "(II)I"⟩, prog_4_method_11_code, 3, (Option.some Jvm.ClassFile.FieldType.int), 1, 21)
def zc_37 : List (Nat × Instr × List Nat) := [(0, .aload_n 0, []), (1, .getfield 32, [2, 5, 127]), (4, .iload_n 1, []), (5, .iload_n 2, []), (6, .invokestatic 74, [9, 1, 2, 0, 46, 0, 47, 45, 0, 44]), (9, .invokevirtual 54, [0, 0, 1, 1, 10, 11, 12, 9, 0, 48]), (12, .ireturn, [])]
def zm_38 : zM := (⟨"Nightjar$Templates", "<init>", "()V"⟩, prog_7_method_1_code, 1, (Option.none : Option Jvm.ClassFile.FieldType), 2, 41)
def zc_38 : List (Nat × Instr × List Nat) := [(0, .aload_n 0, []), (1, .invokespecial 3, [0, 5, 128, 3, 4]), (4, .aload_n 0, []), (5, .new 9, [1, 129, 130, 12, 1]), (8, .dup, []), (9, .bipush 20, []), (11, .invokespecial 11, [3, 2, 1, 0, 133, 0, 12, 132, 0, 131]), (14, .putfield 14, [5, 0, 1, 134]), (17, .aload_n 0, []), (18, .new 9, [1, 129, 130, 12, 1]), (21, .dup, []), (22, .sipush 160, []), (25, .invokespecial 11, [3, 2, 1, 0, 133, 0, 12, 132, 0, 131]), (28, .putfield 20, [5, 1, 1, 32]), (31, .return_, [])]
def zm_39 : zM := (⟨"Nightjar$Templates", "howManyHoles", "(I)I"⟩, prog_7_method_3_code, 4, (Option.some Jvm.ClassFile.FieldType.int), 2, 43)
def zc_39 : List (Nat × Instr × List Nat) := [(0, .iconst 0, []), (1, .istore_n 2, []), (2, .iconst 0, []), (3, .istore_n 3, []), (4, .iload_n 3, []), (5, .aload_n 0, []), (6, .getfield 14, [5, 0, 134]), (9, .iload_n 1, []), (10, .invokevirtual 23, [0, 0, 1, 1, 10, 11, 12, 9, 0, 33]), (13, .if_icmp .ge 22, [35]), (16, .aload_n 0, []), (17, .iload_n 1, []), (18, .iload_n 3, []), (19, .invokevirtual 27, [16, 0, 2, 5, 137, 138, 139, 136, 0, 135]), (22, .iconst (-1), []), (23, .if_icmp .ne 6, [29]), (26, .iinc 2 1, []), (29, .iinc 3 1, []), (32, .goto (-28), [4]), (35, .iload_n 2, []), (36, .ireturn, [])]
def zm_40 : zM := (⟨"Nightjar$Templates", "placeOfHole", "(II)I"⟩, prog_7_method_4_code, 5, (Option.some Jvm.ClassFile.FieldType.int), 2, 43)
def zc_40 : List (Nat × Instr × List Nat) := [(0, .iconst 0, []), (1, .istore_n 3, []), (2, .iconst 0, []), (3, .istore 4, []), (5, .iload 4, []), (7, .aload_n 0, []), (8, .getfield 14, [5, 0, 134]), (11, .iload_n 1, []), (12, .invokevirtual 23, [0, 0, 1, 1, 10, 11, 12, 9, 0, 33]), (15, .if_icmp .ge 31, [46]), (18, .aload_n 0, []), (19, .iload_n 1, []), (20, .iload 4, []), (22, .invokevirtual 27, [16, 0, 2, 5, 137, 138, 139, 136, 0, 135]), (25, .iconst (-1), []), (26, .if_icmp .ne 14, [40]), (29, .iload_n 3, []), (30, .iload_n 2, []), (31, .if_icmp .ne 6, [37]), (34, .iload 4, []), (36, .ireturn, []), (37, .iinc 3 1, []), (40, .iinc 4 1, []), (43, .goto (-38), [5]), (46, .iconst (-1), []), (47, .ireturn, [])]
def zm_41 : zM := (⟨"Nightjar$Templates", "likeness", "(LNightjar$Lines;II)I"⟩, prog_7_method_5_code, 7, (Option.some Jvm.ClassFile.FieldType.int), 2, 43)
def zc_41 : List (Nat × Instr × List Nat) := [(0, .aload_n 0, []), (1, .getfield 14, [5, 0, 134]), (4, .iload_n 3, []), (5, .invokevirtual 23, [0, 0, 1, 1, 10, 11, 12, 9, 0, 33]), (8, .istore 4, []), (10, .aload_n 1, []), (11, .getfield 31, [0, 3, 140]), (14, .iload_n 2, []), (15, .invokevirtual 23, [0, 0, 1, 1, 10, 11, 12, 9, 0, 33]), (18, .iload 4, []), (20, .if_icmp .eq 5, [25]), (23, .iconst (-1), []), (24, .ireturn, []), (25, .iconst 0, []), (26, .istore 5, []), (28, .iconst 0, []), (29, .istore 6, []), (31, .iload 6, []), (33, .iload 4, []), (35, .if_icmp .ge 29, [64]), (38, .aload_n 1, []), (39, .iload_n 2, []), (40, .iload 6, []), (42, .invokevirtual 34, [8, 0, 2, 0, 143, 144, 53, 142, 0, 141]), (45, .aload_n 0, []), (46, .iload_n 3, []), (47, .iload 6, []), (49, .invokevirtual 27, [16, 0, 2, 5, 137, 138, 139, 136, 0, 135]), (52, .if_icmp .ne 6, [58]), (55, .iinc 5 1, []), (58, .iinc 6 1, []), (61, .goto (-30), [31]), (64, .iload 5, []), (66, .ireturn, [])]
def zm_42 : zM := (⟨"Nightjar$Templates", "choose", "(LNightjar$Lines;II)I"⟩, prog_7_method_6_code, 8, (Option.some Jvm.ClassFile.FieldType.int), 3, 69)
def zc_42 : List (Nat × Instr × List Nat) := [(0, .iconst (-1), []), (1, .istore 4, []), (3, .iconst (-1), []), (4, .istore 5, []), (6, .iconst 0, []), (7, .istore 6, []), (9, .iload 6, []), (11, .aload_n 0, []), (12, .getfield 37, [5, 2, 145]), (15, .if_icmp .ge 34, [49]), (18, .aload_n 0, []), (19, .aload_n 1, []), (20, .iload_n 2, []), (21, .iload 6, []), (23, .invokevirtual 41, [41, 0, 3, 5, 148, 149, 139, 147, 0, 146]), (26, .istore 7, []), (28, .iload 7, []), (30, .iload 5, []), (32, .if_icmp .le 11, [43]), (35, .iload 7, []), (37, .istore 5, []), (39, .iload 6, []), (41, .istore 4, []), (43, .iinc 6 1, []), (46, .goto (-37), [9]), (49, .aload_n 1, []), (50, .getfield 31, [0, 3, 140]), (53, .iload_n 2, []), (54, .invokevirtual 23, [0, 0, 1, 1, 10, 11, 12, 9, 0, 33]), (57, .iload_n 3, []), (58, .imul, []), (59, .bipush 99, []), (61, .iadd, []), (62, .bipush 100, []), (64, .idiv, []), (65, .istore 6, []), (67, .iload 4, []), (69, .iconst (-1), []), (70, .if_icmp .eq 13, [83]), (73, .iload 5, []), (75, .iload 6, []), (77, .if_icmp .lt 6, [83]), (80, .iload 4, []), (82, .ireturn, []), (83, .aload_n 0, []), (84, .getfield 37, [5, 2, 145]), (87, .bipush 20, []), (89, .if_icmp .ge 10, [99]), (92, .aload_n 0, []), (93, .getfield 37, [5, 2, 145]), (96, .goto 4, [100]), (99, .iconst (-1), []), (100, .ireturn, [])]
def zm_43 : zM := (⟨"Nightjar$Templates", "take", "(LNightjar$Lines;II)I"⟩, prog_7_method_7_code, 5, (Option.some Jvm.ClassFile.FieldType.int), 4, 96)
def zc_43 : List (Nat × Instr × List Nat) := [(0, .aload_n 0, []), (1, .aload_n 1, []), (2, .iload_n 2, []), (3, .iload_n 3, []), (4, .invokevirtual 45, [42, 0, 3, 5, 152, 153, 139, 151, 0, 150]), (7, .istore 4, []), (9, .iload 4, []), (11, .iconst (-1), []), (12, .if_icmp .ne 5, [17]), (15, .iconst (-1), []), (16, .ireturn, []), (17, .iload 4, []), (19, .aload_n 0, []), (20, .getfield 37, [5, 2, 145]), (23, .if_icmp .ne 12, [35]), (26, .aload_n 0, []), (27, .aload_n 1, []), (28, .iload_n 2, []), (29, .invokevirtual 48, [92, 0, 2, 5, 156, 157, 139, 155, 0, 154]), (32, .goto 11, [43]), (35, .aload_n 0, []), (36, .aload_n 1, []), (37, .iload_n 2, []), (38, .iload 4, []), (40, .invokevirtual 52, [93, 0, 3, 5, 160, 161, 139, 159, 0, 158]), (43, .iload 4, []), (45, .ireturn, [])]
def zm_44 : zM := (⟨"Nightjar", "hasSession", "(I)Z"⟩, prog_1_method_32_code, 2, (Option.some Jvm.ClassFile.FieldType.boolean), 0, 0)
def zc_44 : List (Nat × Instr × List Nat) := [(0, .iload_n 1, []), (1, .ifCond .lt 18, [19]), (4, .iload_n 1, []), (5, .aload_n 0, []), (6, .getfield 29, [6, 3, 54]), (9, .getfield 129, [3, 8, 162]), (12, .if_icmp .ge 7, [19]), (15, .iconst 1, []), (16, .goto 4, [20]), (19, .iconst 0, []), (20, .ireturn, [])]
def zm_45 : zM := (⟨"NightjarModel", "tellSessions", "(I)I"⟩, prog_9_method_19_code, 5, (Option.some Jvm.ClassFile.FieldType.int), 2, 44)
def zc_45 : List (Nat × Instr × List Nat) := [(0, .aload_n 0, []), (1, .iconst 0, []), (2, .putfield 99, [7, 13, 0, 163]), (5, .iconst 0, []), (6, .istore_n 2, []), (7, .iload_n 2, []), (8, .aload_n 0, []), (9, .getfield 59, [7, 1, 36]), (12, .if_icmp .ge 173, [185]), (15, .aload_n 0, []), (16, .iload_n 2, []), (17, .invokevirtual 102, [12, 0, 1, 7, 166, 167, 19, 165, 0, 164]), (20, .istore_n 3, []), (21, .aload_n 0, []), (22, .getfield 37, [7, 14, 96]), (25, .iload_n 2, []), (26, .iconst (-1), []), (27, .iastore, []), (28, .iload_n 3, []), (29, .ifCond .ge 6, [35]), (32, .goto 147, [179]), (35, .aload_n 0, []), (36, .getfield 99, [7, 13, 163]), (39, .iconst 1, []), (40, .isub, []), (41, .istore 4, []), (43, .iload 4, []), (45, .ifCond .lt 72, [117]), (48, .aload_n 0, []), (49, .getfield 37, [7, 14, 96]), (52, .iload_n 2, []), (53, .iaload, []), (54, .iconst (-1), []), (55, .if_icmp .ne 62, [117]), (58, .aload_n 0, []), (59, .aload_n 0, []), (60, .getfield 40, [7, 15, 168]), (63, .iload 4, []), (65, .iaload, []), (66, .invokevirtual 102, [12, 0, 1, 7, 166, 167, 19, 165, 0, 164]), (69, .iload_n 3, []), (70, .if_icmp .ne 41, [111]), (73, .aload_n 0, []), (74, .getfield 37, [7, 14, 96]), (77, .iload_n 2, []), (78, .aload_n 0, []), (79, .getfield 9, [7, 2, 109]), (82, .iload_n 2, []), (83, .iaload, []), (84, .aload_n 0, []), (85, .getfield 9, [7, 2, 109]), (88, .aload_n 0, []), (89, .getfield 43, [7, 16, 169]), (92, .iload 4, []), (94, .iaload, []), (95, .iaload, []), (96, .isub, []), (97, .iload_n 1, []), (98, .if_icmp .gt 8, [106]), (101, .iload 4, []), (103, .goto 7, [110]), (106, .aload_n 0, []), (107, .getfield 99, [7, 13, 163]), (110, .iastore, []), (111, .iinc 4 (-1), []), (114, .goto (-71), [43]), (117, .aload_n 0, []), (118, .getfield 37, [7, 14, 96]), (121, .iload_n 2, []), (122, .iaload, []), (123, .iconst (-1), []), (124, .if_icmp .ne 13, [137]), (127, .aload_n 0, []), (128, .getfield 37, [7, 14, 96]), (131, .iload_n 2, []), (132, .aload_n 0, []), (133, .getfield 99, [7, 13, 163]), (136, .iastore, []), (137, .aload_n 0, []), (138, .getfield 37, [7, 14, 96]), (141, .iload_n 2, []), (142, .iaload, []), (143, .aload_n 0, []), (144, .getfield 99, [7, 13, 163]), (147, .if_icmp .ne 20, [167]), (150, .aload_n 0, []), (151, .getfield 40, [7, 15, 168]), (154, .aload_n 0, []), (155, .dup, []), (156, .getfield 99, [7, 13, 163]), (159, .dup_x1, []), (160, .iconst 1, []), (161, .iadd, []), (162, .putfield 99, [7, 13, 0, 163]), (165, .iload_n 2, []), (166, .iastore, []), (167, .aload_n 0, []), (168, .getfield 43, [7, 16, 169]), (171, .aload_n 0, []), (172, .getfield 37, [7, 14, 96]), (175, .iload_n 2, []), (176, .iaload, []), (177, .iload_n 2, []), (178, .iastore, []), (179, .iinc 2 1, []), (182, .goto (-175), [7]), (185, .aload_n 0, []), (186, .getfield 99, [7, 13, 163]), (189, .ireturn, [])]
def zm_46 : zM := (⟨"NightjarModel", "tellSpikes", "()V"⟩, prog_9_method_24_code, 7, (Option.none : Option Jvm.ClassFile.FieldType), 2, 45)
def zc_46 : List (Nat × Instr × List Nat) := [(0, .aload_n 0, []), (1, .iconst 0, []), (2, .putfield 111, [7, 17, 0, 170]), (5, .iconst (-1), []), (6, .istore_n 1, []), (7, .iconst 0, []), (8, .istore_n 2, []), (9, .iload_n 2, []), (10, .aload_n 0, []), (11, .getfield 73, [7, 8, 37]), (14, .if_icmp .ge 132, [146]), (17, .aload_n 0, []), (18, .iload_n 2, []), (19, .invokevirtual 108, [31, 0, 1, 7, 41, 42, 19, 40, 0, 39]), (22, .istore_n 3, []), (23, .iload_n 3, []), (24, .iload_n 1, []), (25, .if_icmp .ne 6, [31]), (28, .goto 112, [140]), (31, .iload_n 3, []), (32, .istore_n 1, []), (33, .iconst 0, []), (34, .istore 4, []), (36, .iload 4, []), (38, .aload_n 0, []), (39, .getfield 66, [7, 10, 15]), (42, .if_icmp .ge 98, [140]), (45, .iconst 0, []), (46, .istore 5, []), (48, .iconst 1, []), (49, .istore 6, []), (51, .iload 6, []), (53, .iconst 4, []), (54, .if_icmp .gt 24, [78]), (57, .iload 5, []), (59, .aload_n 0, []), (60, .iload 4, []), (62, .iload_n 3, []), (63, .iload 6, []), (65, .isub, []), (66, .invokevirtual 114, [19, 0, 2, 7, 173, 174, 19, 172, 0, 171]), (69, .iadd, []), (70, .istore 5, []), (72, .iinc 6 1, []), (75, .goto (-24), [51]), (78, .aload_n 0, []), (79, .iload 4, []), (81, .iload_n 3, []), (82, .invokevirtual 114, [19, 0, 2, 7, 173, 174, 19, 172, 0, 171]), (85, .iconst 3, []), (86, .if_icmp .lt 48, [134]), (89, .iconst 2, []), (90, .aload_n 0, []), (91, .iload 4, []), (93, .iload_n 3, []), (94, .invokevirtual 114, [19, 0, 2, 7, 173, 174, 19, 172, 0, 171]), (97, .imul, []), (98, .iload 5, []), (100, .if_icmp .gt 6, [106]), (103, .goto 31, [134]), (106, .aload_n 0, []), (107, .getfield 46, [7, 18, 175]), (110, .aload_n 0, []), (111, .getfield 111, [7, 17, 170]), (114, .iload_n 3, []), (115, .iastore, []), (116, .aload_n 0, []), (117, .getfield 49, [7, 19, 176]), (120, .aload_n 0, []), (121, .dup, []), (122, .getfield 111, [7, 17, 170]), (125, .dup_x1, []), (126, .iconst 1, []), (127, .iadd, []), (128, .putfield 111, [7, 17, 0, 170]), (131, .iload 4, []), (133, .iastore, []), (134, .iinc 4 1, []), (137, .goto (-101), [36]), (140, .iinc 2 1, []), (143, .goto (-134), [9]), (146, .return_, [])]
def zm_47 : zM := (⟨"NightjarModel", "manyNow", "(I)I"⟩, prog_9_method_25_code, 4, (Option.some Jvm.ClassFile.FieldType.int), 1, 22)
def zc_47 : List (Nat × Instr × List Nat) := [(0, .iconst 0, []), (1, .istore_n 2, []), (2, .iload_n 1, []), (3, .tableswitch 87 0 4 #[33, 38, 43, 48, 53], [90, 36, 41, 46, 51, 56]), (36, .aload_n 0, []), (37, .getfield 59, [7, 1, 36]), (40, .ireturn, []), (41, .aload_n 0, []), (42, .getfield 73, [7, 8, 37]), (45, .ireturn, []), (46, .aload_n 0, []), (47, .getfield 66, [7, 10, 15]), (50, .ireturn, []), (51, .aload_n 0, []), (52, .getfield 99, [7, 13, 163]), (55, .ireturn, []), (56, .iconst 0, []), (57, .istore_n 3, []), (58, .iload_n 3, []), (59, .aload_n 0, []), (60, .getfield 99, [7, 13, 163]), (63, .if_icmp .ge 25, [88]), (66, .iload_n 2, []), (67, .aload_n 0, []), (68, .iload_n 3, []), (69, .invokevirtual 117, [109, 0, 1, 7, 179, 180, 19, 178, 0, 177]), (72, .ifCond .eq 7, [79]), (75, .iconst 1, []), (76, .goto 4, [80]), (79, .iconst 0, []), (80, .iadd, []), (81, .istore_n 2, []), (82, .iinc 3 1, []), (85, .goto (-27), [58]), (88, .iload_n 2, []), (89, .ireturn, []), (90, .aload_n 0, []), (91, .getfield 111, [7, 17, 170]), (94, .ireturn, [])]
def zm_48 : zM := (⟨"NightjarModel", "tellAll", "()V"⟩, prog_9_method_26_code, 1, (Option.none : Option Jvm.ClassFile.FieldType), 4, 88)
def zc_48 : List (Nat × Instr × List Nat) := [(0, .aload_n 0, []), (1, .invokevirtual 121, [14, 0, 0, 7, 183, 184, 19, 182, 0, 181]), (4, .aload_n 0, []), (5, .invokevirtual 123, [46, 0, 0, 7, 187, 188, 19, 186, 0, 185]), (8, .return_, [])]
def zm_49 : zM := (⟨"NightjarModel", "isInScene", "(II)Z"⟩, prog_9_method_28_code, 3, (Option.some Jvm.ClassFile.FieldType.boolean), 2, 44)
def zc_49 : List (Nat × Instr × List Nat) := [(0, .iload_n 1, []), (1, .iload_n 2, []), (2, .if_icmp .ge 33, [35]), (5, .iload_n 1, []), (6, .aload_n 0, []), (7, .getfield 73, [7, 8, 37]), (10, .if_icmp .ge 25, [35]), (13, .aload_n 0, []), (14, .getfield 9, [7, 2, 109]), (17, .iload_n 1, []), (18, .iaload, []), (19, .aload_n 0, []), (20, .getfield 9, [7, 2, 109]), (23, .iload_n 2, []), (24, .iaload, []), (25, .aload_n 0, []), (26, .getfield 25, [7, 7, 27]), (29, .iconst 3, []), (30, .iaload, []), (31, .isub, []), (32, .if_icmp .ge 5, [37]), (35, .iconst 0, []), (36, .ireturn, []), (37, .aload_n 0, []), (38, .getfield 13, [7, 3, 189]), (41, .iload_n 1, []), (42, .iaload, []), (43, .aload_n 0, []), (44, .getfield 13, [7, 3, 189]), (47, .iload_n 2, []), (48, .iaload, []), (49, .if_icmp .eq 24, [73]), (52, .aload_n 0, []), (53, .iload_n 2, []), (54, .invokevirtual 102, [12, 0, 1, 7, 166, 167, 19, 165, 0, 164]), (57, .ifCond .lt 20, [77]), (60, .aload_n 0, []), (61, .iload_n 1, []), (62, .invokevirtual 102, [12, 0, 1, 7, 166, 167, 19, 165, 0, 164]), (65, .aload_n 0, []), (66, .iload_n 2, []), (67, .invokevirtual 102, [12, 0, 1, 7, 166, 167, 19, 165, 0, 164]), (70, .if_icmp .ne 7, [77]), (73, .iconst 1, []), (74, .goto 4, [78]), (77, .iconst 0, []), (78, .ireturn, [])]
def zm_50 : zM := (⟨"NightjarModel", "becauseNow", "(I)I"⟩, prog_9_method_33_code, 4, (Option.some Jvm.ClassFile.FieldType.int), 5, 120)
def zc_50 : List (Nat × Instr × List Nat) := [(0, .aload_n 0, []), (1, .iload_n 1, []), (2, .invokevirtual 96, [23, 0, 1, 7, 22, 23, 19, 21, 0, 20]), (5, .istore_n 2, []), (6, .iload_n 2, []), (7, .iconst (-1), []), (8, .if_icmp .ne 5, [13]), (11, .iconst (-1), []), (12, .ireturn, []), (13, .aload_n 0, []), (14, .iload_n 2, []), (15, .invokevirtual 146, [24, 0, 1, 7, 192, 193, 19, 191, 0, 190]), (18, .iconst 0, []), (19, .istore_n 3, []), (20, .iload_n 3, []), (21, .aload_n 0, []), (22, .getfield 136, [7, 20, 87]), (25, .if_icmp .ge 40, [65]), (28, .aload_n 0, []), (29, .iload_n 1, []), (30, .aload_n 0, []), (31, .getfield 52, [7, 21, 194]), (34, .iconst 4, []), (35, .iload_n 3, []), (36, .imul, []), (37, .iaload, []), (38, .invokevirtual 139, [32, 0, 2, 7, 90, 91, 19, 89, 0, 88]), (41, .iconst (-1), []), (42, .if_icmp .eq 17, [59]), (45, .aload_n 0, []), (46, .iload_n 1, []), (47, .aload_n 0, []), (48, .getfield 52, [7, 21, 194]), (51, .iconst 4, []), (52, .iload_n 3, []), (53, .imul, []), (54, .iaload, []), (55, .invokevirtual 139, [32, 0, 2, 7, 90, 91, 19, 89, 0, 88]), (58, .ireturn, []), (59, .iinc 3 1, []), (62, .goto (-42), [20]), (65, .iconst (-1), []), (66, .ireturn, [])]
def zm_51 : zM := (⟨"NightjarModel", "ofLineNow", "(II)I"⟩, prog_9_method_34_code, 3, (Option.some Jvm.ClassFile.FieldType.int), 4, 89)
def zc_51 : List (Nat × Instr × List Nat) := [(0, .iload_n 2, []), (1, .tableswitch 100 0 7 #[47, 54, 61, 68, 75, 81, 87, 94], [101, 48, 55, 62, 69, 76, 82, 88, 95]), (48, .aload_n 0, []), (49, .getfield 9, [7, 2, 109]), (52, .iload_n 1, []), (53, .iaload, []), (54, .ireturn, []), (55, .aload_n 0, []), (56, .getfield 13, [7, 3, 189]), (59, .iload_n 1, []), (60, .iaload, []), (61, .ireturn, []), (62, .aload_n 0, []), (63, .getfield 16, [7, 4, 195]), (66, .iload_n 1, []), (67, .iaload, []), (68, .ireturn, []), (69, .aload_n 0, []), (70, .getfield 19, [7, 5, 86]), (73, .iload_n 1, []), (74, .iaload, []), (75, .ireturn, []), (76, .aload_n 0, []), (77, .iload_n 1, []), (78, .invokevirtual 96, [23, 0, 1, 7, 22, 23, 19, 21, 0, 20]), (81, .ireturn, []), (82, .aload_n 0, []), (83, .iload_n 1, []), (84, .invokevirtual 102, [12, 0, 1, 7, 166, 167, 19, 165, 0, 164]), (87, .ireturn, []), (88, .aload_n 0, []), (89, .getfield 37, [7, 14, 96]), (92, .iload_n 1, []), (93, .iaload, []), (94, .ireturn, []), (95, .aload_n 0, []), (96, .iload_n 1, []), (97, .invokevirtual 108, [31, 0, 1, 7, 41, 42, 19, 40, 0, 39]), (100, .ireturn, []), (101, .aload_n 0, []), (102, .iload_n 1, []), (103, .invokevirtual 150, [110, 0, 1, 7, 198, 199, 19, 197, 0, 196]), (106, .ireturn, [])]
def zm_52 : zM := (⟨"NightjarModel", "ofTemplateNow", "(II)I"⟩, prog_9_method_37_code, 7, (Option.some Jvm.ClassFile.FieldType.int), 1, 23)
def zc_52 : List (Nat × Instr × List Nat) := [(0, .iload_n 2, []), (1, .iconst 2, []), (2, .if_icmp .ge 22, [24]), (5, .iload_n 2, []), (6, .ifCond .ne 12, [18]), (9, .aload_n 0, []), (10, .getfield 31, [7, 11, 24]), (13, .iload_n 1, []), (14, .iaload, []), (15, .goto 8, [23]), (18, .aload_n 0, []), (19, .iload_n 1, []), (20, .invokevirtual 159, [30, 0, 1, 7, 202, 203, 19, 201, 0, 200]), (23, .ireturn, []), (24, .iconst 0, []), (25, .istore_n 3, []), (26, .iconst (-1), []), (27, .istore 4, []), (29, .iconst 0, []), (30, .istore 5, []), (32, .iconst 0, []), (33, .istore 6, []), (35, .iload 6, []), (37, .aload_n 0, []), (38, .getfield 73, [7, 8, 37]), (41, .if_icmp .ge 55, [96]), (44, .aload_n 0, []), (45, .getfield 28, [7, 9, 38]), (48, .iload 6, []), (50, .iaload, []), (51, .iload_n 1, []), (52, .if_icmp .eq 6, [58]), (55, .goto 35, [90]), (58, .iload 4, []), (60, .iconst (-1), []), (61, .if_icmp .ne 8, [69]), (64, .iload 6, []), (66, .goto 5, [71]), (69, .iload 4, []), (71, .istore 4, []), (73, .iinc 3 1, []), (76, .iload 5, []), (78, .aload_n 0, []), (79, .getfield 16, [7, 4, 195]), (82, .iload 6, []), (84, .iaload, []), (85, .invokestatic 162, [0, 4, 204, 205, 206, 207]), (88, .istore 5, []), (90, .iinc 6 1, []), (93, .goto (-58), [35]), (96, .iload_n 2, []), (97, .iconst 2, []), (98, .if_icmp .ne 7, [105]), (101, .iload_n 3, []), (102, .goto 15, [117]), (105, .iload_n 2, []), (106, .iconst 3, []), (107, .if_icmp .ne 8, [115]), (110, .iload 4, []), (112, .goto 5, [117]), (115, .iload 5, []), (117, .ireturn, [])]
def zm_53 : zM := (⟨"NightjarModel", "valuesNow", "(II)I"⟩, prog_9_method_41_code, 7, (Option.some Jvm.ClassFile.FieldType.int), 1, 24)
def zc_53 : List (Nat × Instr × List Nat) := [(0, .aload_n 0, []), (1, .iload_n 1, []), (2, .iload_n 2, []), (3, .invokevirtual 173, [112, 0, 2, 7, 210, 211, 19, 209, 0, 208]), (6, .istore_n 3, []), (7, .sipush 1000, []), (10, .newarray .boolean, [2, 212]), (12, .astore 4, []), (14, .iconst 0, []), (15, .istore 5, []), (17, .iconst 0, []), (18, .istore 6, []), (20, .iload 6, []), (22, .aload_n 0, []), (23, .getfield 73, [7, 8, 37]), (26, .if_icmp .ge 60, [86]), (29, .aload_n 0, []), (30, .getfield 28, [7, 9, 38]), (33, .iload 6, []), (35, .iaload, []), (36, .iload_n 1, []), (37, .if_icmp .ne 43, [80]), (40, .aload 4, []), (42, .aload_n 0, []), (43, .getfield 22, [7, 6, 26]), (46, .iload 6, []), (48, .bipush 8, []), (50, .imul, []), (51, .iload_n 3, []), (52, .iadd, []), (53, .iaload, []), (54, .baload, []), (55, .ifCond .eq 6, [61]), (58, .goto 22, [80]), (61, .aload 4, []), (63, .aload_n 0, []), (64, .getfield 22, [7, 6, 26]), (67, .iload 6, []), (69, .bipush 8, []), (71, .imul, []), (72, .iload_n 3, []), (73, .iadd, []), (74, .iaload, []), (75, .iconst 1, []), (76, .bastore, []), (77, .iinc 5 1, []), (80, .iinc 6 1, []), (83, .goto (-63), [20]), (86, .iload 5, []), (88, .ireturn, [])]
def zm_54 : zM := (⟨"NightjarModel", "paths", "(I)I"⟩, prog_9_method_46_code, 4, (Option.some Jvm.ClassFile.FieldType.int), 2, 47)
def zc_54 : List (Nat × Instr × List Nat) := [(0, .iconst 0, []), (1, .istore_n 2, []), (2, .iconst 0, []), (3, .istore_n 3, []), (4, .iload_n 3, []), (5, .aload_n 0, []), (6, .getfield 99, [7, 13, 163]), (9, .if_icmp .ge 26, [35]), (12, .iload_n 2, []), (13, .aload_n 0, []), (14, .iload_n 1, []), (15, .iload_n 3, []), (16, .invokevirtual 182, [113, 0, 2, 7, 215, 216, 19, 214, 0, 213]), (19, .ifCond .eq 7, [26]), (22, .iconst 1, []), (23, .goto 4, [27]), (26, .iconst 0, []), (27, .iadd, []), (28, .istore_n 2, []), (29, .iinc 3 1, []), (32, .goto (-28), [4]), (35, .iload_n 2, []), (36, .ireturn, [])]
def zm_55 : zM := (⟨"NightjarModel", "ofSessionNow", "(II)I"⟩, prog_9_method_47_code, 7, (Option.some Jvm.ClassFile.FieldType.int), 3, 70)
def zc_55 : List (Nat × Instr × List Nat) := [(0, .iload_n 2, []), (1, .ifCond .ne 14, [15]), (4, .aload_n 0, []), (5, .aload_n 0, []), (6, .getfield 40, [7, 15, 168]), (9, .iload_n 1, []), (10, .iaload, []), (11, .invokevirtual 102, [12, 0, 1, 7, 166, 167, 19, 165, 0, 164]), (14, .ireturn, []), (15, .iload_n 2, []), (16, .iconst 3, []), (17, .if_icmp .ge 29, [46]), (20, .aload_n 0, []), (21, .getfield 9, [7, 2, 109]), (24, .iload_n 2, []), (25, .iconst 1, []), (26, .if_icmp .ne 12, [38]), (29, .aload_n 0, []), (30, .getfield 40, [7, 15, 168]), (33, .iload_n 1, []), (34, .iaload, []), (35, .goto 9, [44]), (38, .aload_n 0, []), (39, .getfield 43, [7, 16, 169]), (42, .iload_n 1, []), (43, .iaload, []), (44, .iaload, []), (45, .ireturn, []), (46, .iload_n 2, []), (47, .bipush 6, []), (49, .if_icmp .ne 9, [58]), (52, .aload_n 0, []), (53, .iload_n 1, []), (54, .invokevirtual 185, [54, 0, 1, 7, 219, 220, 19, 218, 0, 217]), (57, .ireturn, []), (58, .iconst 0, []), (59, .istore_n 3, []), (60, .iconst 0, []), (61, .istore 4, []), (63, .iconst 0, []), (64, .istore 5, []), (66, .iload 5, []), (68, .aload_n 0, []), (69, .getfield 59, [7, 1, 36]), (72, .if_icmp .ge 98, [170]), (75, .aload_n 0, []), (76, .getfield 37, [7, 14, 96]), (79, .iload 5, []), (81, .iaload, []), (82, .iload_n 1, []), (83, .if_icmp .eq 6, [89]), (86, .goto 78, [164]), (89, .iload 4, []), (91, .aload_n 0, []), (92, .getfield 28, [7, 9, 38]), (95, .iload 5, []), (97, .iaload, []), (98, .ishr, []), (99, .iconst 1, []), (100, .iand, []), (101, .ifCond .ne 7, [108]), (104, .iconst 1, []), (105, .goto 4, [109]), (108, .iconst 0, []), (109, .istore 6, []), (111, .iload 4, []), (113, .iconst 1, []), (114, .aload_n 0, []), (115, .getfield 28, [7, 9, 38]), (118, .iload 5, []), (120, .iaload, []), (121, .ishl, []), (122, .ior, []), (123, .istore 4, []), (125, .iload_n 3, []), (126, .iload_n 2, []), (127, .iconst 3, []), (128, .if_icmp .eq 29, [157]), (131, .iload_n 2, []), (132, .iconst 4, []), (133, .if_icmp .ne 14, [147]), (136, .aload_n 0, []), (137, .getfield 16, [7, 4, 195]), (140, .iload 5, []), (142, .iaload, []), (143, .iconst 3, []), (144, .if_icmp .eq 13, [157]), (147, .iload_n 2, []), (148, .iconst 5, []), (149, .if_icmp .ne 12, [161]), (152, .iload 6, []), (154, .ifCond .eq 7, [161]), (157, .iconst 1, []), (158, .goto 4, [162]), (161, .iconst 0, []), (162, .iadd, []), (163, .istore_n 3, []), (164, .iinc 5 1, []), (167, .goto (-101), [66]), (170, .iload_n 3, []), (171, .ireturn, [])]
def zm_56 : zM := (⟨"NightjarModel", "usualNow", "()I"⟩, prog_9_method_50_code, 5, (Option.some Jvm.ClassFile.FieldType.int), 3, 70)
def zc_56 : List (Nat × Instr × List Nat) := [(0, .iconst (-1), []), (1, .istore_n 1, []), (2, .iconst 0, []), (3, .istore_n 2, []), (4, .iconst 0, []), (5, .istore_n 3, []), (6, .iload_n 3, []), (7, .aload_n 0, []), (8, .getfield 99, [7, 13, 163]), (11, .if_icmp .ge 30, [41]), (14, .aload_n 0, []), (15, .iload_n 3, []), (16, .invokevirtual 185, [54, 0, 1, 7, 219, 220, 19, 218, 0, 217]), (19, .istore 4, []), (21, .iload 4, []), (23, .iload_n 2, []), (24, .if_icmp .gt 6, [30]), (27, .goto 8, [35]), (30, .iload 4, []), (32, .istore_n 2, []), (33, .iload_n 3, []), (34, .istore_n 1, []), (35, .iinc 3 1, []), (38, .goto (-32), [6]), (41, .iload_n 1, []), (42, .ireturn, [])]
def zm_57 : zM := (⟨"NightjarModel", "spikeNow", "(II)I"⟩, prog_9_method_54_code, 3, (Option.some Jvm.ClassFile.FieldType.int), 2, 45)
def zc_57 : List (Nat × Instr × List Nat) := [(0, .iload_n 2, []), (1, .ifCond .ne 12, [13]), (4, .aload_n 0, []), (5, .getfield 46, [7, 18, 175]), (8, .iload_n 1, []), (9, .iaload, []), (10, .goto 33, [43]), (13, .iload_n 2, []), (14, .iconst 1, []), (15, .if_icmp .ne 12, [27]), (18, .aload_n 0, []), (19, .getfield 49, [7, 19, 176]), (22, .iload_n 1, []), (23, .iaload, []), (24, .goto 19, [43]), (27, .aload_n 0, []), (28, .aload_n 0, []), (29, .getfield 49, [7, 19, 176]), (32, .iload_n 1, []), (33, .iaload, []), (34, .aload_n 0, []), (35, .getfield 46, [7, 18, 175]), (38, .iload_n 1, []), (39, .iaload, []), (40, .invokevirtual 114, [19, 0, 2, 7, 173, 174, 19, 172, 0, 171]), (43, .ireturn, [])]
def zm_58 : zM := (⟨"NightjarModel", "putBy", "(Z)[[I"⟩, prog_9_method_59_code, 3, (Option.some (Jvm.ClassFile.FieldType.array (Jvm.ClassFile.FieldType.array Jvm.ClassFile.FieldType.int))), 1, 68)
def zc_58 : List (Nat × Instr × List Nat) := [(0, .iconst 4, []), (1, .anewarray 201, [3, 221]), (4, .dup, []), (5, .iconst 0, []), (6, .aload_n 0, []), (7, .getfield 28, [7, 9, 38]), (10, .aastore, []), (11, .dup, []), (12, .iconst 1, []), (13, .aload_n 0, []), (14, .getfield 31, [7, 11, 24]), (17, .aastore, []), (18, .dup, []), (19, .iconst 2, []), (20, .aload_n 0, []), (21, .getfield 34, [7, 12, 25]), (24, .aastore, []), (25, .dup, []), (26, .iconst 3, []), (27, .iconst 2, []), (28, .newarray .int, [0, 5]), (30, .dup, []), (31, .iconst 0, []), (32, .aload_n 0, []), (33, .getfield 73, [7, 8, 37]), (36, .iastore, []), (37, .dup, []), (38, .iconst 1, []), (39, .aload_n 0, []), (40, .getfield 66, [7, 10, 15]), (43, .iastore, []), (44, .aastore, []), (45, .astore_n 2, []), (46, .aload_n 0, []), (47, .bipush 70, []), (49, .newarray .int, [0, 5]), (51, .putfield 28, [7, 9, 1, 38]), (54, .aload_n 0, []), (55, .bipush 20, []), (57, .newarray .int, [0, 5]), (59, .putfield 31, [7, 11, 1, 24]), (62, .aload_n 0, []), (63, .sipush 160, []), (66, .newarray .int, [0, 5]), (68, .putfield 34, [7, 12, 1, 25]), (71, .iload_n 1, []), (72, .ifCond .eq 49, [121]), (75, .aload_n 2, []), (76, .iconst 0, []), (77, .aaload, []), (78, .iconst 0, []), (79, .aload_n 0, []), (80, .getfield 28, [7, 9, 38]), (83, .iconst 0, []), (84, .bipush 70, []), (86, .invokestatic 86, [0, 3, 222, 223, 224, 225]), (89, .aload_n 2, []), (90, .iconst 1, []), (91, .aaload, []), (92, .iconst 0, []), (93, .aload_n 0, []), (94, .getfield 31, [7, 11, 24]), (97, .iconst 0, []), (98, .bipush 20, []), (100, .invokestatic 86, [0, 3, 222, 223, 224, 225]), (103, .aload_n 2, []), (104, .iconst 2, []), (105, .aaload, []), (106, .iconst 0, []), (107, .aload_n 0, []), (108, .getfield 34, [7, 12, 25]), (111, .iconst 0, []), (112, .sipush 160, []), (115, .invokestatic 86, [0, 3, 222, 223, 224, 225]), (118, .goto 13, [131]), (121, .aload_n 0, []), (122, .iconst 0, []), (123, .putfield 73, [7, 8, 0, 37]), (126, .aload_n 0, []), (127, .iconst 0, []), (128, .putfield 66, [7, 10, 0, 15]), (131, .aload_n 2, []), (132, .areturn, [])]
def zm_59 : zM := (⟨"NightjarModel", "takeAgain", "([[I)V"⟩, prog_9_method_60_code, 2, (Option.none : Option Jvm.ClassFile.FieldType), 0, 0)
def zc_59 : List (Nat × Instr × List Nat) := [(0, .aload_n 0, []), (1, .aload_n 1, []), (2, .iconst 0, []), (3, .aaload, []), (4, .putfield 28, [7, 9, 1, 38]), (7, .aload_n 0, []), (8, .aload_n 1, []), (9, .iconst 1, []), (10, .aaload, []), (11, .putfield 31, [7, 11, 1, 24]), (14, .aload_n 0, []), (15, .aload_n 1, []), (16, .iconst 2, []), (17, .aaload, []), (18, .putfield 34, [7, 12, 1, 25]), (21, .aload_n 0, []), (22, .aload_n 1, []), (23, .iconst 3, []), (24, .aaload, []), (25, .iconst 0, []), (26, .iaload, []), (27, .putfield 73, [7, 8, 0, 37]), (30, .aload_n 0, []), (31, .aload_n 1, []), (32, .iconst 3, []), (33, .aaload, []), (34, .iconst 1, []), (35, .iaload, []), (36, .putfield 66, [7, 10, 0, 15]), (39, .return_, [])]
def zm_60 : zM := (⟨"Nightjar$Lines", "<init>", "()V"⟩, prog_2_method_1_code, 1, (Option.none : Option Jvm.ClassFile.FieldType), 2, 41)
def zc_60 : List (Nat × Instr × List Nat) := [(0, .aload_n 0, []), (1, .invokespecial 3, [0, 5, 226, 3, 4]), (4, .aload_n 0, []), (5, .new 9, [1, 227, 130, 12, 1]), (8, .dup, []), (9, .bipush 70, []), (11, .invokespecial 11, [3, 2, 1, 0, 133, 0, 12, 132, 0, 228]), (14, .putfield 14, [0, 0, 1, 115]), (17, .aload_n 0, []), (18, .new 9, [1, 227, 130, 12, 1]), (21, .dup, []), (22, .bipush 70, []), (24, .invokespecial 11, [3, 2, 1, 0, 133, 0, 12, 132, 0, 228]), (27, .putfield 20, [0, 1, 1, 121]), (30, .aload_n 0, []), (31, .new 9, [1, 227, 130, 12, 1]), (34, .dup, []), (35, .bipush 70, []), (37, .invokespecial 11, [3, 2, 1, 0, 133, 0, 12, 132, 0, 228]), (40, .putfield 23, [0, 2, 1, 229]), (43, .aload_n 0, []), (44, .new 9, [1, 227, 130, 12, 1]), (47, .dup, []), (48, .bipush 70, []), (50, .invokespecial 11, [3, 2, 1, 0, 133, 0, 12, 132, 0, 228]), (53, .putfield 26, [0, 3, 1, 230]), (56, .aload_n 0, []), (57, .new 9, [1, 227, 130, 12, 1]), (60, .dup, []), (61, .sipush 560, []), (64, .invokespecial 11, [3, 2, 1, 0, 133, 0, 12, 132, 0, 228]), (67, .putfield 29, [0, 4, 1, 7]), (70, .aload_n 0, []), (71, .new 9, [1, 227, 130, 12, 1]), (74, .dup, []), (75, .bipush 70, []), (77, .invokespecial 11, [3, 2, 1, 0, 133, 0, 12, 132, 0, 228]), (80, .putfield 32, [0, 5, 1, 119]), (83, .aload_n 0, []), (84, .new 9, [1, 227, 130, 12, 1]), (87, .dup, []), (88, .bipush 70, []), (90, .invokespecial 11, [3, 2, 1, 0, 133, 0, 12, 132, 0, 228]), (93, .putfield 35, [0, 6, 1, 120]), (96, .return_, [])]
def zm_61 : zM := (⟨"Nightjar$Lines", "append", "(III)I"⟩, prog_2_method_2_code, 5, (Option.some Jvm.ClassFile.FieldType.int), 1, 22)
def zc_61 : List (Nat × Instr × List Nat) := [(0, .aload_n 0, []), (1, .getfield 38, [0, 7, 231]), (4, .istore 4, []), (6, .aload_n 0, []), (7, .getfield 14, [0, 0, 115]), (10, .iload 4, []), (12, .iload_n 1, []), (13, .invokevirtual 42, [1, 0, 2, 1, 234, 235, 12, 233, 0, 232]), (16, .aload_n 0, []), (17, .getfield 20, [0, 1, 121]), (20, .iload 4, []), (22, .iload_n 2, []), (23, .invokevirtual 42, [1, 0, 2, 1, 234, 235, 12, 233, 0, 232]), (26, .aload_n 0, []), (27, .getfield 23, [0, 2, 229]), (30, .iload 4, []), (32, .iload_n 3, []), (33, .invokevirtual 42, [1, 0, 2, 1, 234, 235, 12, 233, 0, 232]), (36, .aload_n 0, []), (37, .getfield 26, [0, 3, 230]), (40, .iload 4, []), (42, .iconst 0, []), (43, .invokevirtual 42, [1, 0, 2, 1, 234, 235, 12, 233, 0, 232]), (46, .aload_n 0, []), (47, .getfield 32, [0, 5, 119]), (50, .iload 4, []), (52, .iconst (-1), []), (53, .invokevirtual 42, [1, 0, 2, 1, 234, 235, 12, 233, 0, 232]), (56, .aload_n 0, []), (57, .iload 4, []), (59, .iconst 1, []), (60, .iadd, []), (61, .putfield 38, [0, 7, 0, 231]), (64, .iload 4, []), (66, .ireturn, [])]
def zm_62 : zM := (⟨"Nightjar$Lines", "appendWord", "(II)I"⟩, prog_2_method_3_code, 4, (Option.some Jvm.ClassFile.FieldType.int), 1, 22)
def zc_62 : List (Nat × Instr × List Nat) := [(0, .aload_n 0, []), (1, .getfield 26, [0, 3, 230]), (4, .iload_n 1, []), (5, .invokevirtual 46, [0, 0, 1, 1, 10, 11, 12, 9, 0, 8]), (8, .istore_n 3, []), (9, .aload_n 0, []), (10, .getfield 29, [0, 4, 7]), (13, .iload_n 1, []), (14, .bipush 8, []), (16, .imul, []), (17, .iload_n 3, []), (18, .iadd, []), (19, .iload_n 2, []), (20, .invokevirtual 42, [1, 0, 2, 1, 234, 235, 12, 233, 0, 232]), (23, .aload_n 0, []), (24, .getfield 26, [0, 3, 230]), (27, .iload_n 1, []), (28, .iload_n 3, []), (29, .iconst 1, []), (30, .iadd, []), (31, .invokevirtual 42, [1, 0, 2, 1, 234, 235, 12, 233, 0, 232]), (34, .iload_n 3, []), (35, .iconst 1, []), (36, .iadd, []), (37, .ireturn, [])]
def zm_63 : zM := (⟨"Nightjar$Lines", "unlearn", "()V"⟩, prog_2_method_4_code, 2, (Option.none : Option Jvm.ClassFile.FieldType), 1, 22)
def zc_63 : List (Nat × Instr × List Nat) := [(0, .iconst 0, []), (1, .istore_n 1, []), (2, .iload_n 1, []), (3, .aload_n 0, []), (4, .getfield 38, [0, 7, 231]), (7, .if_icmp .ge 18, [25]), (10, .aload_n 0, []), (11, .getfield 32, [0, 5, 119]), (14, .iload_n 1, []), (15, .iconst (-1), []), (16, .invokevirtual 42, [1, 0, 2, 1, 234, 235, 12, 233, 0, 232]), (19, .iinc 1 1, []), (22, .goto (-20), [2]), (25, .aload_n 0, []), (26, .iconst 0, []), (27, .putfield 50, [0, 8, 0, 114]), (30, .return_, [])]
def zm_64 : zM := (⟨"Nightjar$Lines", "findKeys", "(LNightjar$Templates;)V"⟩, prog_2_method_6_code, 4, (Option.none : Option Jvm.ClassFile.FieldType), 3, 67)
def zc_64 : List (Nat × Instr × List Nat) := [(0, .iconst 0, []), (1, .istore_n 2, []), (2, .iload_n 2, []), (3, .aload_n 0, []), (4, .getfield 38, [0, 7, 231]), (7, .if_icmp .ge 46, [53]), (10, .aload_n 1, []), (11, .aload_n 0, []), (12, .getfield 32, [0, 5, 119]), (15, .iload_n 2, []), (16, .invokevirtual 46, [0, 0, 1, 1, 10, 11, 12, 9, 0, 8]), (19, .iconst 0, []), (20, .invokevirtual 53, [40, 0, 2, 5, 238, 239, 139, 237, 0, 236]), (23, .istore_n 3, []), (24, .aload_n 0, []), (25, .getfield 35, [0, 6, 120]), (28, .iload_n 2, []), (29, .iload_n 3, []), (30, .iconst (-1), []), (31, .if_icmp .ne 7, [38]), (34, .iconst (-1), []), (35, .goto 9, [44]), (38, .aload_n 0, []), (39, .iload_n 2, []), (40, .iload_n 3, []), (41, .invokevirtual 59, [8, 0, 2, 0, 143, 144, 53, 142, 0, 240]), (44, .invokevirtual 42, [1, 0, 2, 1, 234, 235, 12, 233, 0, 232]), (47, .iinc 2 1, []), (50, .goto (-48), [2]), (53, .return_, [])]
def zm_65 : zM := (⟨"Nightjar$Lines", "howManyOf", "(I)I"⟩, prog_2_method_7_code, 4, (Option.some Jvm.ClassFile.FieldType.int), 1, 21)
def zc_65 : List (Nat × Instr × List Nat) := [(0, .iconst 0, []), (1, .istore_n 2, []), (2, .iconst 0, []), (3, .istore_n 3, []), (4, .iload_n 3, []), (5, .aload_n 0, []), (6, .getfield 50, [0, 8, 114]), (9, .if_icmp .ge 24, [33]), (12, .aload_n 0, []), (13, .getfield 32, [0, 5, 119]), (16, .iload_n 3, []), (17, .invokevirtual 46, [0, 0, 1, 1, 10, 11, 12, 9, 0, 8]), (20, .iload_n 1, []), (21, .if_icmp .ne 6, [27]), (24, .iinc 2 1, []), (27, .iinc 3 1, []), (30, .goto (-26), [4]), (33, .iload_n 2, []), (34, .ireturn, [])]
def zm_66 : zM := (⟨"Nightjar$Lines", "firstOf", "(I)I"⟩, prog_2_method_8_code, 3, (Option.some Jvm.ClassFile.FieldType.int), 1, 21)
def zc_66 : List (Nat × Instr × List Nat) := [(0, .iconst 0, []), (1, .istore_n 2, []), (2, .iload_n 2, []), (3, .aload_n 0, []), (4, .getfield 50, [0, 8, 114]), (7, .if_icmp .ge 23, [30]), (10, .aload_n 0, []), (11, .getfield 32, [0, 5, 119]), (14, .iload_n 2, []), (15, .invokevirtual 46, [0, 0, 1, 1, 10, 11, 12, 9, 0, 8]), (18, .iload_n 1, []), (19, .if_icmp .ne 5, [24]), (22, .iload_n 2, []), (23, .ireturn, []), (24, .iinc 2 1, []), (27, .goto (-25), [2]), (30, .iconst (-1), []), (31, .ireturn, [])]
def zm_67 : zM := (⟨"Nightjar$Lines", "worstLevelOf", "(I)I"⟩, prog_2_method_9_code, 4, (Option.some Jvm.ClassFile.FieldType.int), 1, 21)
def zc_67 : List (Nat × Instr × List Nat) := [(0, .iconst 0, []), (1, .istore_n 2, []), (2, .iconst 0, []), (3, .istore_n 3, []), (4, .iload_n 3, []), (5, .aload_n 0, []), (6, .getfield 50, [0, 8, 114]), (9, .if_icmp .ge 42, [51]), (12, .aload_n 0, []), (13, .getfield 32, [0, 5, 119]), (16, .iload_n 3, []), (17, .invokevirtual 46, [0, 0, 1, 1, 10, 11, 12, 9, 0, 8]), (20, .iload_n 1, []), (21, .if_icmp .ne 24, [45]), (24, .aload_n 0, []), (25, .getfield 23, [0, 2, 229]), (28, .iload_n 3, []), (29, .invokevirtual 46, [0, 0, 1, 1, 10, 11, 12, 9, 0, 8]), (32, .iload_n 2, []), (33, .if_icmp .le 12, [45]), (36, .aload_n 0, []), (37, .getfield 23, [0, 2, 229]), (40, .iload_n 3, []), (41, .invokevirtual 46, [0, 0, 1, 1, 10, 11, 12, 9, 0, 8]), (44, .istore_n 2, []), (45, .iinc 3 1, []), (48, .goto (-44), [4]), (51, .iload_n 2, []), (52, .ireturn, [])]
def zm_68 : zM := (⟨"Nightjar$Lines", "howManyWordsOf", "(II)I"⟩, prog_2_method_10_code, 5, (Option.some Jvm.ClassFile.FieldType.int), 3, 66)
def zc_68 : List (Nat × Instr × List Nat) := [(0, .iconst 0, []), (1, .istore_n 3, []), (2, .iconst 0, []), (3, .istore 4, []), (5, .iload 4, []), (7, .aload_n 0, []), (8, .getfield 50, [0, 8, 114]), (11, .if_icmp .ge 35, [46]), (14, .aload_n 0, []), (15, .getfield 32, [0, 5, 119]), (18, .iload 4, []), (20, .invokevirtual 46, [0, 0, 1, 1, 10, 11, 12, 9, 0, 8]), (23, .iload_n 1, []), (24, .if_icmp .ne 16, [40]), (27, .aload_n 0, []), (28, .iload 4, []), (30, .iload_n 2, []), (31, .invokevirtual 62, [69, 0, 2, 0, 243, 244, 53, 242, 0, 241]), (34, .ifCond .eq 6, [40]), (37, .iinc 3 1, []), (40, .iinc 4 1, []), (43, .goto (-38), [5]), (46, .iload_n 3, []), (47, .ireturn, [])]
def zm_69 : zM := (⟨"Nightjar$Lines", "isNewWord", "(II)Z"⟩, prog_2_method_11_code, 4, (Option.some Jvm.ClassFile.FieldType.boolean), 2, 43)
def zc_69 : List (Nat × Instr × List Nat) := [(0, .iconst 0, []), (1, .istore_n 3, []), (2, .iload_n 3, []), (3, .iload_n 1, []), (4, .if_icmp .ge 45, [49]), (7, .aload_n 0, []), (8, .getfield 32, [0, 5, 119]), (11, .iload_n 3, []), (12, .invokevirtual 46, [0, 0, 1, 1, 10, 11, 12, 9, 0, 8]), (15, .aload_n 0, []), (16, .getfield 32, [0, 5, 119]), (19, .iload_n 1, []), (20, .invokevirtual 46, [0, 0, 1, 1, 10, 11, 12, 9, 0, 8]), (23, .if_icmp .ne 20, [43]), (26, .aload_n 0, []), (27, .iload_n 3, []), (28, .iload_n 2, []), (29, .invokevirtual 59, [8, 0, 2, 0, 143, 144, 53, 142, 0, 240]), (32, .aload_n 0, []), (33, .iload_n 1, []), (34, .iload_n 2, []), (35, .invokevirtual 59, [8, 0, 2, 0, 143, 144, 53, 142, 0, 240]), (38, .if_icmp .ne 5, [43]), (41, .iconst 0, []), (42, .ireturn, []), (43, .iinc 3 1, []), (46, .goto (-44), [2]), (49, .iconst 1, []), (50, .ireturn, [])]
def zm_70 : zM := (⟨"Nightjar$Scenes", "<init>", "()V"⟩, prog_4_method_1_code, 1, (Option.none : Option Jvm.ClassFile.FieldType), 2, 41)
def zc_70 : List (Nat × Instr × List Nat) := [(0, .aload_n 0, []), (1, .invokespecial 3, [0, 5, 245, 3, 4]), (4, .aload_n 0, []), (5, .new 9, [1, 246, 130, 12, 1]), (8, .dup, []), (9, .bipush 70, []), (11, .invokespecial 11, [3, 2, 1, 0, 133, 0, 12, 132, 0, 247]), (14, .putfield 14, [2, 0, 1, 248]), (17, .aload_n 0, []), (18, .new 9, [1, 246, 130, 12, 1]), (21, .dup, []), (22, .bipush 70, []), (24, .invokespecial 11, [3, 2, 1, 0, 133, 0, 12, 132, 0, 247]), (27, .putfield 20, [2, 1, 1, 249]), (30, .aload_n 0, []), (31, .new 9, [1, 246, 130, 12, 1]), (34, .dup, []), (35, .sipush 400, []), (38, .invokespecial 11, [3, 2, 1, 0, 133, 0, 12, 132, 0, 247]), (41, .putfield 23, [2, 2, 1, 97]), (44, .aload_n 0, []), (45, .new 9, [1, 246, 130, 12, 1]), (48, .dup, []), (49, .bipush 20, []), (51, .invokespecial 11, [3, 2, 1, 0, 133, 0, 12, 132, 0, 247]), (54, .putfield 26, [2, 3, 1, 122]), (57, .aload_n 0, []), (58, .new 9, [1, 246, 130, 12, 1]), (61, .dup, []), (62, .bipush 20, []), (64, .invokespecial 11, [3, 2, 1, 0, 133, 0, 12, 132, 0, 247]), (67, .putfield 29, [2, 4, 1, 250]), (70, .aload_n 0, []), (71, .new 9, [1, 246, 130, 12, 1]), (74, .dup, []), (75, .sipush 400, []), (78, .invokespecial 11, [3, 2, 1, 0, 133, 0, 12, 132, 0, 247]), (81, .putfield 32, [2, 5, 1, 127]), (84, .aload_n 0, []), (85, .new 9, [1, 246, 130, 12, 1]), (88, .dup, []), (89, .sipush 400, []), (92, .invokespecial 11, [3, 2, 1, 0, 133, 0, 12, 132, 0, 247]), (95, .putfield 35, [2, 6, 1, 43]), (98, .aload_n 0, []), (99, .new 9, [1, 246, 130, 12, 1]), (102, .dup, []), (103, .bipush 20, []), (105, .invokespecial 11, [3, 2, 1, 0, 133, 0, 12, 132, 0, 247]), (108, .putfield 38, [2, 7, 1, 251]), (111, .return_, [])]
def zm_71 : zM := (⟨"Nightjar$Scenes", "look", "(LNightjar$Lines;I)V"⟩, prog_4_method_2_code, 7, (Option.none : Option Jvm.ClassFile.FieldType), 2, 45)
def zc_71 : List (Nat × Instr × List Nat) := [(0, .iconst 0, []), (1, .istore_n 3, []), (2, .iload_n 3, []), (3, .aload_n 1, []), (4, .getfield 41, [0, 7, 252]), (7, .if_icmp .ge 81, [88]), (10, .iconst 0, []), (11, .istore 4, []), (13, .iconst 0, []), (14, .istore 5, []), (16, .iconst 0, []), (17, .istore 6, []), (19, .iload 6, []), (21, .iload_n 3, []), (22, .if_icmp .ge 40, [62]), (25, .aload_n 1, []), (26, .iload 6, []), (28, .iload_n 3, []), (29, .iload_n 2, []), (30, .invokevirtual 47, [35, 0, 3, 0, 255, 256, 53, 254, 0, 253]), (33, .ifCond .eq 23, [56]), (36, .iinc 4 1, []), (39, .iload 5, []), (41, .aload_n 1, []), (42, .getfield 51, [0, 5, 257]), (45, .iload 6, []), (47, .invokevirtual 54, [0, 0, 1, 1, 10, 11, 12, 9, 0, 48]), (50, .invokestatic 58, [26, 1, 1, 0, 260, 0, 47, 259, 0, 258]), (53, .ior, []), (54, .istore 5, []), (56, .iinc 6 1, []), (59, .goto (-40), [19]), (62, .aload_n 0, []), (63, .getfield 14, [2, 0, 248]), (66, .iload_n 3, []), (67, .iload 4, []), (69, .invokevirtual 61, [1, 0, 2, 1, 234, 235, 12, 233, 0, 261]), (72, .aload_n 0, []), (73, .getfield 20, [2, 1, 249]), (76, .iload_n 3, []), (77, .iload 5, []), (79, .invokevirtual 61, [1, 0, 2, 1, 234, 235, 12, 233, 0, 261]), (82, .iinc 3 1, []), (85, .goto (-83), [2]), (88, .return_, [])]
def zm_72 : zM := (⟨"Nightjar$Scenes", "tally", "(LNightjar$Lines;I)V"⟩, prog_4_method_5_code, 6, (Option.none : Option Jvm.ClassFile.FieldType), 1, 21)
def zc_72 : List (Nat × Instr × List Nat) := [(0, .aload_n 0, []), (1, .getfield 23, [2, 2, 97]), (4, .invokevirtual 65, [15, 0, 0, 1, 264, 265, 12, 263, 0, 262]), (7, .aload_n 0, []), (8, .getfield 26, [2, 3, 122]), (11, .invokevirtual 65, [15, 0, 0, 1, 264, 265, 12, 263, 0, 262]), (14, .aload_n 0, []), (15, .getfield 29, [2, 4, 250]), (18, .invokevirtual 65, [15, 0, 0, 1, 264, 265, 12, 263, 0, 262]), (21, .iconst 0, []), (22, .istore_n 3, []), (23, .iload_n 3, []), (24, .aload_n 1, []), (25, .getfield 68, [0, 8, 266]), (28, .if_icmp .ge 83, [111]), (31, .aload_n 1, []), (32, .getfield 51, [0, 5, 257]), (35, .iload_n 3, []), (36, .invokevirtual 54, [0, 0, 1, 1, 10, 11, 12, 9, 0, 48]), (39, .istore 4, []), (41, .aload_n 0, []), (42, .getfield 29, [2, 4, 250]), (45, .iload 4, []), (47, .invokevirtual 71, [7, 0, 1, 1, 269, 270, 12, 268, 0, 267]), (50, .iconst 0, []), (51, .istore 5, []), (53, .iload 5, []), (55, .iload_n 2, []), (56, .if_icmp .ge 49, [105]), (59, .aload_n 0, []), (60, .getfield 20, [2, 1, 249]), (63, .iload_n 3, []), (64, .invokevirtual 54, [0, 0, 1, 1, 10, 11, 12, 9, 0, 48]), (67, .iload 5, []), (69, .invokestatic 58, [26, 1, 1, 0, 260, 0, 47, 259, 0, 258]), (72, .iand, []), (73, .ifCond .eq 26, [99]), (76, .aload_n 0, []), (77, .getfield 26, [2, 3, 122]), (80, .iload 5, []), (82, .invokevirtual 71, [7, 0, 1, 1, 269, 270, 12, 268, 0, 267]), (85, .aload_n 0, []), (86, .getfield 23, [2, 2, 97]), (89, .iload 4, []), (91, .iload 5, []), (93, .invokestatic 74, [9, 1, 2, 0, 46, 0, 47, 45, 0, 44]), (96, .invokevirtual 71, [7, 0, 1, 1, 269, 270, 12, 268, 0, 267]), (99, .iinc 5 1, []), (102, .goto (-49), [53]), (105, .iinc 3 1, []), (108, .goto (-85), [23]), (111, .return_, [])]
def zm_73 : zM := (⟨"Nightjar$Scenes", "rankCauses", "(II)V"⟩, prog_4_method_6_code, 7, (Option.none : Option Jvm.ClassFile.FieldType), 3, 67)
def zc_73 : List (Nat × Instr × List Nat) := [(0, .iconst 0, []), (1, .istore_n 3, []), (2, .iload_n 3, []), (3, .iload_n 1, []), (4, .if_icmp .ge 115, [119]), (7, .aload_n 0, []), (8, .getfield 29, [2, 4, 250]), (11, .iload_n 3, []), (12, .invokevirtual 54, [0, 0, 1, 1, 10, 11, 12, 9, 0, 48]), (15, .istore 4, []), (17, .aload_n 0, []), (18, .getfield 38, [2, 7, 251]), (21, .iload_n 3, []), (22, .iconst 0, []), (23, .invokevirtual 61, [1, 0, 2, 1, 234, 235, 12, 233, 0, 261]), (26, .iconst 0, []), (27, .istore 5, []), (29, .iload 5, []), (31, .iload_n 1, []), (32, .if_icmp .ge 81, [113]), (35, .sipush 1000, []), (38, .aload_n 0, []), (39, .iload_n 3, []), (40, .iload 5, []), (42, .invokevirtual 78, [27, 0, 2, 2, 125, 126, 47, 124, 0, 123]), (45, .imul, []), (46, .iload 4, []), (48, .invokestatic 81, [13, 1, 2, 0, 117, 0, 118, 116, 1, 1]), (51, .sipush 1000, []), (54, .aload_n 0, []), (55, .iload_n 3, []), (56, .iload 5, []), (58, .invokevirtual 84, [36, 0, 2, 2, 273, 274, 47, 272, 0, 271]), (61, .imul, []), (62, .iload_n 2, []), (63, .iload 4, []), (65, .isub, []), (66, .invokestatic 81, [13, 1, 2, 0, 117, 0, 118, 116, 1, 1]), (69, .isub, []), (70, .istore 6, []), (72, .aload_n 0, []), (73, .getfield 32, [2, 5, 127]), (76, .iload_n 3, []), (77, .iload 5, []), (79, .invokestatic 74, [9, 1, 2, 0, 46, 0, 47, 45, 0, 44]), (82, .iload 6, []), (84, .invokevirtual 61, [1, 0, 2, 1, 234, 235, 12, 233, 0, 261]), (87, .iload 5, []), (89, .iload_n 3, []), (90, .if_icmp .eq 17, [107]), (93, .iload 6, []), (95, .ifCond .le 12, [107]), (98, .aload_n 0, []), (99, .iload_n 3, []), (100, .iload 5, []), (102, .iload 6, []), (104, .invokevirtual 87, [74, 0, 3, 2, 277, 278, 47, 276, 0, 275]), (107, .iinc 5 1, []), (110, .goto (-81), [29]), (113, .iinc 3 1, []), (116, .goto (-114), [2]), (119, .return_, [])]
def zm_74 : zM := (⟨"Nightjar$Scenes", "enter", "(III)V"⟩, prog_4_method_7_code, 5, (Option.none : Option Jvm.ClassFile.FieldType), 2, 43)
def zc_74 : List (Nat × Instr × List Nat) := [(0, .aload_n 0, []), (1, .getfield 38, [2, 7, 251]), (4, .iload_n 1, []), (5, .invokevirtual 54, [0, 0, 1, 1, 10, 11, 12, 9, 0, 48]), (8, .istore 4, []), (10, .iload 4, []), (12, .ifCond .le 49, [61]), (15, .aload_n 0, []), (16, .iload_n 1, []), (17, .aload_n 0, []), (18, .iload_n 1, []), (19, .iload 4, []), (21, .iconst 1, []), (22, .isub, []), (23, .invokevirtual 91, [20, 0, 2, 2, 281, 282, 47, 280, 0, 279]), (26, .invokevirtual 94, [37, 0, 2, 2, 285, 286, 47, 284, 0, 283]), (29, .iload_n 3, []), (30, .if_icmp .ge 31, [61]), (33, .aload_n 0, []), (34, .getfield 35, [2, 6, 43]), (37, .iload_n 1, []), (38, .iload 4, []), (40, .invokestatic 74, [9, 1, 2, 0, 46, 0, 47, 45, 0, 44]), (43, .aload_n 0, []), (44, .iload_n 1, []), (45, .iload 4, []), (47, .iconst 1, []), (48, .isub, []), (49, .invokevirtual 91, [20, 0, 2, 2, 281, 282, 47, 280, 0, 279]), (52, .invokevirtual 61, [1, 0, 2, 1, 234, 235, 12, 233, 0, 261]), (55, .iinc 4 (-1), []), (58, .goto (-48), [10]), (61, .aload_n 0, []), (62, .getfield 35, [2, 6, 43]), (65, .iload_n 1, []), (66, .iload 4, []), (68, .invokestatic 74, [9, 1, 2, 0, 46, 0, 47, 45, 0, 44]), (71, .iload_n 2, []), (72, .invokevirtual 61, [1, 0, 2, 1, 234, 235, 12, 233, 0, 261]), (75, .aload_n 0, []), (76, .getfield 38, [2, 7, 251]), (79, .iload_n 1, []), (80, .invokevirtual 71, [7, 0, 1, 1, 269, 270, 12, 268, 0, 267]), (83, .return_, [])]
def zm_75 : zM := (⟨"Nightjar$Scenes", "lineBehind", "(LNightjar$Lines;II)I"⟩, prog_4_method_12_code, 7, (Option.some Jvm.ClassFile.FieldType.int), 3, 69)
def zc_75 : List (Nat × Instr × List Nat) := [(0, .aload_n 1, []), (1, .getfield 51, [0, 5, 257]), (4, .iload_n 2, []), (5, .invokevirtual 54, [0, 0, 1, 1, 10, 11, 12, 9, 0, 48]), (8, .istore 4, []), (10, .iconst 0, []), (11, .istore 5, []), (13, .iload 5, []), (15, .aload_n 0, []), (16, .getfield 38, [2, 7, 251]), (19, .iload 4, []), (21, .invokevirtual 54, [0, 0, 1, 1, 10, 11, 12, 9, 0, 48]), (24, .if_icmp .ge 45, [69]), (27, .aload_n 0, []), (28, .iload 4, []), (30, .iload 5, []), (32, .invokevirtual 91, [20, 0, 2, 2, 281, 282, 47, 280, 0, 279]), (35, .istore 6, []), (37, .aload_n 0, []), (38, .getfield 20, [2, 1, 249]), (41, .iload_n 2, []), (42, .invokevirtual 54, [0, 0, 1, 1, 10, 11, 12, 9, 0, 48]), (45, .iload 6, []), (47, .invokestatic 58, [26, 1, 1, 0, 260, 0, 47, 259, 0, 258]), (50, .iand, []), (51, .ifCond .eq 12, [63]), (54, .aload_n 1, []), (55, .iload_n 2, []), (56, .iload 6, []), (58, .iload_n 3, []), (59, .invokestatic 97, [76, 1, 4, 0, 289, 0, 47, 288, 0, 287]), (62, .ireturn, []), (63, .iinc 5 1, []), (66, .goto (-53), [13]), (69, .iconst (-1), []), (70, .ireturn, [])]
def zm_76 : zM := (⟨"Nightjar$Scenes", "lastInScene", "(LNightjar$Lines;III)I"⟩, prog_4_method_13_code, 5, (Option.some Jvm.ClassFile.FieldType.int), 2, 45)
def zc_76 : List (Nat × Instr × List Nat) := [(0, .iload_n 1, []), (1, .iconst 1, []), (2, .isub, []), (3, .istore 4, []), (5, .iload 4, []), (7, .ifCond .lt 36, [43]), (10, .aload_n 0, []), (11, .getfield 51, [0, 5, 257]), (14, .iload 4, []), (16, .invokevirtual 54, [0, 0, 1, 1, 10, 11, 12, 9, 0, 48]), (19, .iload_n 2, []), (20, .if_icmp .ne 17, [37]), (23, .aload_n 0, []), (24, .iload 4, []), (26, .iload_n 1, []), (27, .iload_n 3, []), (28, .invokevirtual 47, [35, 0, 3, 0, 255, 256, 53, 254, 0, 253]), (31, .ifCond .eq 6, [37]), (34, .iload 4, []), (36, .ireturn, []), (37, .iinc 4 (-1), []), (40, .goto (-35), [5]), (43, .iconst (-1), []), (44, .ireturn, [])]
def zm_77 : zM := (⟨"Nightjar$Sessions", "<init>", "()V"⟩, prog_5_method_1_code, 1, (Option.none : Option Jvm.ClassFile.FieldType), 2, 41)
def zc_77 : List (Nat × Instr × List Nat) := [(0, .aload_n 0, []), (1, .invokespecial 3, [0, 5, 290, 3, 4]), (4, .aload_n 0, []), (5, .new 9, [1, 291, 130, 12, 1]), (8, .dup, []), (9, .bipush 70, []), (11, .invokespecial 11, [3, 2, 1, 0, 133, 0, 12, 132, 0, 292]), (14, .putfield 14, [3, 0, 1, 293]), (17, .aload_n 0, []), (18, .new 9, [1, 291, 130, 12, 1]), (21, .dup, []), (22, .bipush 70, []), (24, .invokespecial 11, [3, 2, 1, 0, 133, 0, 12, 132, 0, 292]), (27, .putfield 20, [3, 1, 1, 294]), (30, .aload_n 0, []), (31, .new 9, [1, 291, 130, 12, 1]), (34, .dup, []), (35, .bipush 70, []), (37, .invokespecial 11, [3, 2, 1, 0, 133, 0, 12, 132, 0, 292]), (40, .putfield 23, [3, 2, 1, 295]), (43, .aload_n 0, []), (44, .new 9, [1, 291, 130, 12, 1]), (47, .dup, []), (48, .bipush 70, []), (50, .invokespecial 11, [3, 2, 1, 0, 133, 0, 12, 132, 0, 292]), (53, .putfield 26, [3, 3, 1, 296]), (56, .aload_n 0, []), (57, .new 9, [1, 291, 130, 12, 1]), (60, .dup, []), (61, .bipush 70, []), (63, .invokespecial 11, [3, 2, 1, 0, 133, 0, 12, 132, 0, 292]), (66, .putfield 29, [3, 4, 1, 297]), (69, .aload_n 0, []), (70, .new 9, [1, 291, 130, 12, 1]), (73, .dup, []), (74, .bipush 70, []), (76, .invokespecial 11, [3, 2, 1, 0, 133, 0, 12, 132, 0, 292]), (79, .putfield 32, [3, 5, 1, 298]), (82, .aload_n 0, []), (83, .new 9, [1, 291, 130, 12, 1]), (86, .dup, []), (87, .bipush 70, []), (89, .invokespecial 11, [3, 2, 1, 0, 133, 0, 12, 132, 0, 292]), (92, .putfield 35, [3, 6, 1, 99]), (95, .aload_n 0, []), (96, .new 9, [1, 291, 130, 12, 1]), (99, .dup, []), (100, .bipush 70, []), (102, .invokespecial 11, [3, 2, 1, 0, 133, 0, 12, 132, 0, 292]), (105, .putfield 38, [3, 7, 1, 98]), (108, .return_, [])]
def zm_78 : zM := (⟨"Nightjar$Sessions", "find", "(LNightjar$Lines;I)V"⟩, prog_5_method_2_code, 6, (Option.none : Option Jvm.ClassFile.FieldType), 2, 44)
def zc_78 : List (Nat × Instr × List Nat) := [(0, .aload_n 0, []), (1, .iconst 0, []), (2, .putfield 41, [3, 8, 0, 299]), (5, .iconst 0, []), (6, .istore_n 3, []), (7, .iload_n 3, []), (8, .aload_n 1, []), (9, .getfield 45, [0, 7, 300]), (12, .if_icmp .ge 110, [122]), (15, .aload_n 0, []), (16, .getfield 14, [3, 0, 293]), (19, .iload_n 3, []), (20, .iconst (-1), []), (21, .invokevirtual 48, [1, 0, 2, 1, 234, 235, 12, 233, 0, 301]), (24, .aload_n 1, []), (25, .getfield 52, [0, 6, 302]), (28, .iload_n 3, []), (29, .invokevirtual 55, [0, 0, 1, 1, 10, 11, 12, 9, 0, 100]), (32, .ifCond .lt 84, [116]), (35, .aload_n 1, []), (36, .iload_n 3, []), (37, .iload_n 2, []), (38, .invokevirtual 59, [34, 0, 2, 0, 305, 306, 53, 304, 0, 303]), (41, .istore 4, []), (43, .iload 4, []), (45, .iconst (-1), []), (46, .if_icmp .ne 11, [57]), (49, .aload_n 0, []), (50, .iload_n 3, []), (51, .invokevirtual 63, [79, 0, 1, 3, 309, 310, 61, 308, 0, 307]), (54, .goto 10, [64]), (57, .aload_n 0, []), (58, .iload 4, []), (60, .iload_n 3, []), (61, .invokevirtual 66, [80, 0, 2, 3, 313, 314, 61, 312, 0, 311]), (64, .istore 5, []), (66, .aload_n 0, []), (67, .getfield 14, [3, 0, 293]), (70, .iload_n 3, []), (71, .iload 5, []), (73, .invokevirtual 48, [1, 0, 2, 1, 234, 235, 12, 233, 0, 301]), (76, .aload_n 0, []), (77, .getfield 26, [3, 3, 296]), (80, .iload 5, []), (82, .iload_n 3, []), (83, .invokevirtual 48, [1, 0, 2, 1, 234, 235, 12, 233, 0, 301]), (86, .aload_n 0, []), (87, .getfield 29, [3, 4, 297]), (90, .iload 5, []), (92, .invokevirtual 69, [7, 0, 1, 1, 269, 270, 12, 268, 0, 315]), (95, .aload_n 1, []), (96, .getfield 72, [0, 2, 316]), (99, .iload_n 3, []), (100, .invokevirtual 55, [0, 0, 1, 1, 10, 11, 12, 9, 0, 100]), (103, .iconst 3, []), (104, .if_icmp .ne 12, [116]), (107, .aload_n 0, []), (108, .getfield 32, [3, 5, 298]), (111, .iload 5, []), (113, .invokevirtual 69, [7, 0, 1, 1, 269, 270, 12, 268, 0, 315]), (116, .iinc 3 1, []), (119, .goto (-112), [7]), (122, .return_, [])]
def zm_79 : zM := (⟨"Nightjar$Sessions", "begin", "(I)I"⟩, prog_5_method_3_code, 3, (Option.some Jvm.ClassFile.FieldType.int), 1, 22)
def zc_79 : List (Nat × Instr × List Nat) := [(0, .aload_n 0, []), (1, .getfield 41, [3, 8, 299]), (4, .istore_n 2, []), (5, .aload_n 0, []), (6, .getfield 23, [3, 2, 295]), (9, .iload_n 2, []), (10, .iload_n 1, []), (11, .invokevirtual 48, [1, 0, 2, 1, 234, 235, 12, 233, 0, 301]), (14, .aload_n 0, []), (15, .getfield 29, [3, 4, 297]), (18, .iload_n 2, []), (19, .iconst 0, []), (20, .invokevirtual 48, [1, 0, 2, 1, 234, 235, 12, 233, 0, 301]), (23, .aload_n 0, []), (24, .getfield 32, [3, 5, 298]), (27, .iload_n 2, []), (28, .iconst 0, []), (29, .invokevirtual 48, [1, 0, 2, 1, 234, 235, 12, 233, 0, 301]), (32, .aload_n 0, []), (33, .iload_n 2, []), (34, .iconst 1, []), (35, .iadd, []), (36, .putfield 41, [3, 8, 0, 299]), (39, .iload_n 2, []), (40, .ireturn, [])]
def zm_80 : zM := (⟨"Nightjar$Sessions", "goOn", "(II)I"⟩, prog_5_method_4_code, 3, (Option.some Jvm.ClassFile.FieldType.int), 1, 22)
def zc_80 : List (Nat × Instr × List Nat) := [(0, .aload_n 0, []), (1, .getfield 20, [3, 1, 294]), (4, .iload_n 1, []), (5, .iload_n 2, []), (6, .invokevirtual 48, [1, 0, 2, 1, 234, 235, 12, 233, 0, 301]), (9, .aload_n 0, []), (10, .getfield 14, [3, 0, 293]), (13, .iload_n 1, []), (14, .invokevirtual 55, [0, 0, 1, 1, 10, 11, 12, 9, 0, 100]), (17, .ireturn, [])]
def zm_81 : zM := (⟨"Nightjar$Sessions", "comparePaths", "(LNightjar$Lines;)V"⟩, prog_5_method_5_code, 4, (Option.none : Option Jvm.ClassFile.FieldType), 2, 47)
def zc_81 : List (Nat × Instr × List Nat) := [(0, .aload_n 0, []), (1, .getfield 38, [3, 7, 98]), (4, .invokevirtual 75, [15, 0, 0, 1, 264, 265, 12, 263, 0, 317]), (7, .iconst 0, []), (8, .istore_n 2, []), (9, .iload_n 2, []), (10, .aload_n 0, []), (11, .getfield 41, [3, 8, 299]), (14, .if_icmp .ge 49, [63]), (17, .iconst 0, []), (18, .istore_n 3, []), (19, .iload_n 3, []), (20, .iload_n 2, []), (21, .if_icmp .ge 19, [40]), (24, .aload_n 0, []), (25, .aload_n 1, []), (26, .iload_n 3, []), (27, .iload_n 2, []), (28, .invokevirtual 78, [82, 0, 3, 3, 320, 321, 61, 319, 0, 318]), (31, .ifCond .ne 9, [40]), (34, .iinc 3 1, []), (37, .goto (-18), [19]), (40, .aload_n 0, []), (41, .getfield 35, [3, 6, 99]), (44, .iload_n 2, []), (45, .iload_n 3, []), (46, .invokevirtual 48, [1, 0, 2, 1, 234, 235, 12, 233, 0, 301]), (49, .aload_n 0, []), (50, .getfield 38, [3, 7, 98]), (53, .iload_n 3, []), (54, .invokevirtual 69, [7, 0, 1, 1, 269, 270, 12, 268, 0, 315]), (57, .iinc 2 1, []), (60, .goto (-51), [9]), (63, .return_, [])]
def zm_82 : zM := (⟨"Nightjar$Sessions", "isSamePath", "(LNightjar$Lines;II)Z"⟩, prog_5_method_6_code, 7, (Option.some Jvm.ClassFile.FieldType.boolean), 1, 21)
def zc_82 : List (Nat × Instr × List Nat) := [(0, .aload_n 0, []), (1, .getfield 29, [3, 4, 297]), (4, .iload_n 2, []), (5, .invokevirtual 55, [0, 0, 1, 1, 10, 11, 12, 9, 0, 100]), (8, .aload_n 0, []), (9, .getfield 29, [3, 4, 297]), (12, .iload_n 3, []), (13, .invokevirtual 55, [0, 0, 1, 1, 10, 11, 12, 9, 0, 100]), (16, .if_icmp .eq 5, [21]), (19, .iconst 0, []), (20, .ireturn, []), (21, .aload_n 0, []), (22, .getfield 23, [3, 2, 295]), (25, .iload_n 2, []), (26, .invokevirtual 55, [0, 0, 1, 1, 10, 11, 12, 9, 0, 100]), (29, .istore 4, []), (31, .aload_n 0, []), (32, .getfield 23, [3, 2, 295]), (35, .iload_n 3, []), (36, .invokevirtual 55, [0, 0, 1, 1, 10, 11, 12, 9, 0, 100]), (39, .istore 5, []), (41, .iconst 0, []), (42, .istore 6, []), (44, .iload 6, []), (46, .aload_n 0, []), (47, .getfield 29, [3, 4, 297]), (50, .iload_n 2, []), (51, .invokevirtual 55, [0, 0, 1, 1, 10, 11, 12, 9, 0, 100]), (54, .if_icmp .ge 54, [108]), (57, .aload_n 1, []), (58, .getfield 82, [0, 5, 322]), (61, .iload 4, []), (63, .invokevirtual 55, [0, 0, 1, 1, 10, 11, 12, 9, 0, 100]), (66, .aload_n 1, []), (67, .getfield 82, [0, 5, 322]), (70, .iload 5, []), (72, .invokevirtual 55, [0, 0, 1, 1, 10, 11, 12, 9, 0, 100]), (75, .if_icmp .eq 5, [80]), (78, .iconst 0, []), (79, .ireturn, []), (80, .aload_n 0, []), (81, .getfield 20, [3, 1, 294]), (84, .iload 4, []), (86, .invokevirtual 55, [0, 0, 1, 1, 10, 11, 12, 9, 0, 100]), (89, .istore 4, []), (91, .aload_n 0, []), (92, .getfield 20, [3, 1, 294]), (95, .iload 5, []), (97, .invokevirtual 55, [0, 0, 1, 1, 10, 11, 12, 9, 0, 100]), (100, .istore 5, []), (102, .iinc 6 1, []), (105, .goto (-61), [44]), (108, .iconst 1, []), (109, .ireturn, [])]
def zm_83 : zM := (⟨"Nightjar$Sessions", "lineIn", "(II)I"⟩, prog_5_method_7_code, 5, (Option.some Jvm.ClassFile.FieldType.int), 1, 21)
def zc_83 : List (Nat × Instr × List Nat) := [(0, .aload_n 0, []), (1, .getfield 23, [3, 2, 295]), (4, .iload_n 1, []), (5, .invokevirtual 55, [0, 0, 1, 1, 10, 11, 12, 9, 0, 100]), (8, .istore_n 3, []), (9, .iconst 0, []), (10, .istore 4, []), (12, .iload 4, []), (14, .iload_n 2, []), (15, .if_icmp .ge 18, [33]), (18, .aload_n 0, []), (19, .getfield 20, [3, 1, 294]), (22, .iload_n 3, []), (23, .invokevirtual 55, [0, 0, 1, 1, 10, 11, 12, 9, 0, 100]), (26, .istore_n 3, []), (27, .iinc 4 1, []), (30, .goto (-18), [12]), (33, .iload_n 3, []), (34, .ireturn, [])]
def zm_84 : zM := (⟨"Nightjar$Sessions", "howManyTemplates", "(LNightjar$Lines;I)I"⟩, prog_5_method_8_code, 6, (Option.some Jvm.ClassFile.FieldType.int), 1, 21)
def zc_84 : List (Nat × Instr × List Nat) := [(0, .iconst 0, []), (1, .istore_n 3, []), (2, .aload_n 0, []), (3, .getfield 23, [3, 2, 295]), (6, .iload_n 2, []), (7, .invokevirtual 55, [0, 0, 1, 1, 10, 11, 12, 9, 0, 100]), (10, .istore 4, []), (12, .iconst 0, []), (13, .istore 5, []), (15, .iload 5, []), (17, .aload_n 0, []), (18, .getfield 29, [3, 4, 297]), (21, .iload_n 2, []), (22, .invokevirtual 55, [0, 0, 1, 1, 10, 11, 12, 9, 0, 100]), (25, .if_icmp .ge 34, [59]), (28, .iload_n 3, []), (29, .iconst 1, []), (30, .aload_n 1, []), (31, .getfield 82, [0, 5, 322]), (34, .iload 4, []), (36, .invokevirtual 55, [0, 0, 1, 1, 10, 11, 12, 9, 0, 100]), (39, .ishl, []), (40, .ior, []), (41, .istore_n 3, []), (42, .aload_n 0, []), (43, .getfield 20, [3, 1, 294]), (46, .iload 4, []), (48, .invokevirtual 55, [0, 0, 1, 1, 10, 11, 12, 9, 0, 100]), (51, .istore 4, []), (53, .iinc 5 1, []), (56, .goto (-41), [15]), (59, .iload_n 3, []), (60, .invokestatic 85, [114, 1, 1, 0, 325, 0, 326, 324, 0, 323]), (63, .ireturn, [])]
def zm_85 : zM := (⟨"Nightjar$Sessions", "howManyBroken", "()I"⟩, prog_5_method_9_code, 3, (Option.some Jvm.ClassFile.FieldType.int), 1, 21)
def zc_85 : List (Nat × Instr × List Nat) := [(0, .iconst 0, []), (1, .istore_n 1, []), (2, .iconst 0, []), (3, .istore_n 2, []), (4, .iload_n 2, []), (5, .aload_n 0, []), (6, .getfield 41, [3, 8, 299]), (9, .if_icmp .ge 23, [32]), (12, .aload_n 0, []), (13, .getfield 32, [3, 5, 298]), (16, .iload_n 2, []), (17, .invokevirtual 55, [0, 0, 1, 1, 10, 11, 12, 9, 0, 100]), (20, .ifCond .le 6, [26]), (23, .iinc 1 1, []), (26, .iinc 2 1, []), (29, .goto (-25), [4]), (32, .iload_n 1, []), (33, .ireturn, [])]
def zm_86 : zM := (⟨"Nightjar$Sessions", "howManyLines", "()I"⟩, prog_5_method_10_code, 3, (Option.some Jvm.ClassFile.FieldType.int), 1, 21)
def zc_86 : List (Nat × Instr × List Nat) := [(0, .iconst 0, []), (1, .istore_n 1, []), (2, .iconst 0, []), (3, .istore_n 2, []), (4, .iload_n 2, []), (5, .aload_n 0, []), (6, .getfield 41, [3, 8, 299]), (9, .if_icmp .ge 20, [29]), (12, .iload_n 1, []), (13, .aload_n 0, []), (14, .getfield 29, [3, 4, 297]), (17, .iload_n 2, []), (18, .invokevirtual 55, [0, 0, 1, 1, 10, 11, 12, 9, 0, 100]), (21, .iadd, []), (22, .istore_n 1, []), (23, .iinc 2 1, []), (26, .goto (-22), [4]), (29, .iload_n 1, []), (30, .ireturn, [])]
def zm_87 : zM := (⟨"Nightjar$Sessions", "mostAlike", "()I"⟩, prog_5_method_12_code, 4, (Option.some Jvm.ClassFile.FieldType.int), 2, 42)
def zc_87 : List (Nat × Instr × List Nat) := [(0, .iconst (-1), []), (1, .istore_n 1, []), (2, .iconst 0, []), (3, .istore_n 2, []), (4, .iconst 0, []), (5, .istore_n 3, []), (6, .iload_n 3, []), (7, .aload_n 0, []), (8, .getfield 41, [3, 8, 299]), (11, .if_icmp .ge 26, [37]), (14, .aload_n 0, []), (15, .iload_n 3, []), (16, .invokevirtual 90, [28, 0, 1, 3, 329, 330, 61, 328, 0, 327]), (19, .iload_n 2, []), (20, .if_icmp .le 11, [31]), (23, .aload_n 0, []), (24, .iload_n 3, []), (25, .invokevirtual 90, [28, 0, 1, 3, 329, 330, 61, 328, 0, 327]), (28, .istore_n 2, []), (29, .iload_n 3, []), (30, .istore_n 1, []), (31, .iinc 3 1, []), (34, .goto (-28), [6]), (37, .iload_n 1, []), (38, .ireturn, [])]
def zm_88 : zM := (⟨"Nightjar$Spikes", "<init>", "()V"⟩, prog_6_method_1_code, 1, (Option.none : Option Jvm.ClassFile.FieldType), 2, 41)
def zc_88 : List (Nat × Instr × List Nat) := [(0, .aload_n 0, []), (1, .invokespecial 3, [0, 5, 331, 3, 4]), (4, .aload_n 0, []), (5, .new 9, [1, 332, 130, 12, 1]), (8, .dup, []), (9, .bipush 23, []), (11, .invokespecial 11, [3, 2, 1, 0, 133, 0, 12, 132, 0, 333]), (14, .putfield 14, [4, 0, 1, 334]), (17, .aload_n 0, []), (18, .new 9, [1, 332, 130, 12, 1]), (21, .dup, []), (22, .bipush 23, []), (24, .invokespecial 11, [3, 2, 1, 0, 133, 0, 12, 132, 0, 333]), (27, .putfield 20, [4, 1, 1, 335]), (30, .aload_n 0, []), (31, .new 9, [1, 332, 130, 12, 1]), (34, .dup, []), (35, .bipush 23, []), (37, .invokespecial 11, [3, 2, 1, 0, 133, 0, 12, 132, 0, 333]), (40, .putfield 23, [4, 2, 1, 336]), (43, .aload_n 0, []), (44, .new 9, [1, 332, 130, 12, 1]), (47, .dup, []), (48, .bipush 20, []), (50, .invokespecial 11, [3, 2, 1, 0, 133, 0, 12, 132, 0, 333]), (53, .putfield 26, [4, 3, 1, 337]), (56, .return_, [])]
def zm_89 : zM := (⟨"Nightjar$Spikes", "find", "(LNightjar$Lines;II)V"⟩, prog_6_method_2_code, 6, (Option.none : Option Jvm.ClassFile.FieldType), 3, 75)
def zc_89 : List (Nat × Instr × List Nat) := [(0, .aload_n 0, []), (1, .iconst 0, []), (2, .putfield 29, [4, 4, 0, 338]), (5, .aload_n 0, []), (6, .getfield 26, [4, 3, 337]), (9, .invokevirtual 33, [15, 0, 0, 1, 264, 265, 12, 263, 0, 339]), (12, .iconst 0, []), (13, .istore 4, []), (15, .iload 4, []), (17, .aload_n 1, []), (18, .getfield 36, [0, 8, 340]), (21, .if_icmp .ge 80, [101]), (24, .aload_n 0, []), (25, .getfield 26, [4, 3, 337]), (28, .aload_n 1, []), (29, .getfield 41, [0, 5, 341]), (32, .iload 4, []), (34, .invokevirtual 44, [0, 0, 1, 1, 10, 11, 12, 9, 0, 342]), (37, .invokevirtual 48, [7, 0, 1, 1, 269, 270, 12, 268, 0, 343]), (40, .aload_n 1, []), (41, .getfield 51, [0, 0, 344]), (44, .iload 4, []), (46, .invokevirtual 44, [0, 0, 1, 1, 10, 11, 12, 9, 0, 342]), (49, .iload_n 3, []), (50, .invokestatic 54, [13, 1, 2, 0, 117, 0, 118, 116, 1, 2]), (53, .istore 5, []), (55, .iload 4, []), (57, .iconst 1, []), (58, .iadd, []), (59, .aload_n 1, []), (60, .getfield 36, [0, 8, 340]), (63, .if_icmp .eq 23, [86]), (66, .aload_n 1, []), (67, .getfield 51, [0, 0, 344]), (70, .iload 4, []), (72, .iconst 1, []), (73, .iadd, []), (74, .invokevirtual 44, [0, 0, 1, 1, 10, 11, 12, 9, 0, 342]), (77, .iload_n 3, []), (78, .invokestatic 54, [13, 1, 2, 0, 117, 0, 118, 116, 1, 2]), (81, .iload 5, []), (83, .if_icmp .eq 12, [95]), (86, .aload_n 0, []), (87, .aload_n 1, []), (88, .iload_n 2, []), (89, .iload 5, []), (91, .iload_n 3, []), (92, .invokevirtual 58, [90, 0, 4, 4, 347, 348, 71, 346, 0, 345]), (95, .iinc 4 1, []), (98, .goto (-83), [15]), (101, .return_, [])]
def zm_90 : zM := (⟨"Nightjar$Spikes", "closeWindow", "(LNightjar$Lines;III)V"⟩, prog_6_method_3_code, 8, (Option.none : Option Jvm.ClassFile.FieldType), 2, 48)
def zc_90 : List (Nat × Instr × List Nat) := [(0, .iconst 0, []), (1, .istore 5, []), (3, .iload 5, []), (5, .iload_n 2, []), (6, .if_icmp .ge 70, [76]), (9, .aload_n 0, []), (10, .getfield 26, [4, 3, 337]), (13, .iload 5, []), (15, .invokevirtual 44, [0, 0, 1, 1, 10, 11, 12, 9, 0, 342]), (18, .istore 6, []), (20, .iload 6, []), (22, .iconst 3, []), (23, .if_icmp .lt 37, [60]), (26, .aload_n 1, []), (27, .iload 5, []), (29, .iload_n 3, []), (30, .iconst 4, []), (31, .isub, []), (32, .iload_n 3, []), (33, .iconst 1, []), (34, .isub, []), (35, .iload 4, []), (37, .invokevirtual 62, [33, 0, 4, 0, 351, 352, 53, 350, 0, 349]), (40, .istore 7, []), (42, .iconst 2, []), (43, .iload 6, []), (45, .imul, []), (46, .iload 7, []), (48, .if_icmp .le 12, [60]), (51, .aload_n 0, []), (52, .iload_n 3, []), (53, .iload 5, []), (55, .iload 6, []), (57, .invokevirtual 66, [91, 0, 3, 4, 355, 356, 71, 354, 0, 353]), (60, .aload_n 0, []), (61, .getfield 26, [4, 3, 337]), (64, .iload 5, []), (66, .iconst 0, []), (67, .invokevirtual 70, [1, 0, 2, 1, 234, 235, 12, 233, 0, 357]), (70, .iinc 5 1, []), (73, .goto (-70), [3]), (76, .return_, [])]
def zm_91 : zM := (⟨"Nightjar$Spikes", "enter", "(III)V"⟩, prog_6_method_4_code, 4, (Option.none : Option Jvm.ClassFile.FieldType), 1, 22)
def zc_91 : List (Nat × Instr × List Nat) := [(0, .aload_n 0, []), (1, .getfield 14, [4, 0, 334]), (4, .aload_n 0, []), (5, .getfield 29, [4, 4, 338]), (8, .iload_n 1, []), (9, .invokevirtual 70, [1, 0, 2, 1, 234, 235, 12, 233, 0, 357]), (12, .aload_n 0, []), (13, .getfield 20, [4, 1, 335]), (16, .aload_n 0, []), (17, .getfield 29, [4, 4, 338]), (20, .iload_n 2, []), (21, .invokevirtual 70, [1, 0, 2, 1, 234, 235, 12, 233, 0, 357]), (24, .aload_n 0, []), (25, .getfield 23, [4, 2, 336]), (28, .aload_n 0, []), (29, .getfield 29, [4, 4, 338]), (32, .iload_n 3, []), (33, .invokevirtual 70, [1, 0, 2, 1, 234, 235, 12, 233, 0, 357]), (36, .aload_n 0, []), (37, .dup, []), (38, .getfield 29, [4, 4, 338]), (41, .iconst 1, []), (42, .iadd, []), (43, .putfield 29, [4, 4, 0, 338]), (46, .return_, [])]
def zm_92 : zM := (⟨"Nightjar$Templates", "copy", "(LNightjar$Lines;I)V"⟩, prog_7_method_8_code, 5, (Option.none : Option Jvm.ClassFile.FieldType), 2, 43)
def zc_92 : List (Nat × Instr × List Nat) := [(0, .aload_n 1, []), (1, .getfield 31, [0, 3, 140]), (4, .iload_n 2, []), (5, .invokevirtual 23, [0, 0, 1, 1, 10, 11, 12, 9, 0, 33]), (8, .istore_n 3, []), (9, .aload_n 0, []), (10, .getfield 14, [5, 0, 134]), (13, .aload_n 0, []), (14, .getfield 37, [5, 2, 145]), (17, .iload_n 3, []), (18, .invokevirtual 56, [1, 0, 2, 1, 234, 235, 12, 233, 0, 358]), (21, .iconst 0, []), (22, .istore 4, []), (24, .iload 4, []), (26, .iload_n 3, []), (27, .if_icmp .ge 33, [60]), (30, .aload_n 0, []), (31, .getfield 20, [5, 1, 32]), (34, .aload_n 0, []), (35, .getfield 37, [5, 2, 145]), (38, .bipush 8, []), (40, .imul, []), (41, .iload 4, []), (43, .iadd, []), (44, .aload_n 1, []), (45, .iload_n 2, []), (46, .iload 4, []), (48, .invokevirtual 34, [8, 0, 2, 0, 143, 144, 53, 142, 0, 141]), (51, .invokevirtual 56, [1, 0, 2, 1, 234, 235, 12, 233, 0, 358]), (54, .iinc 4 1, []), (57, .goto (-33), [24]), (60, .aload_n 0, []), (61, .dup, []), (62, .getfield 37, [5, 2, 145]), (65, .iconst 1, []), (66, .iadd, []), (67, .putfield 37, [5, 2, 0, 145]), (70, .return_, [])]
def zm_93 : zM := (⟨"Nightjar$Templates", "widen", "(LNightjar$Lines;II)V"⟩, prog_7_method_9_code, 5, (Option.none : Option Jvm.ClassFile.FieldType), 2, 43)
def zc_93 : List (Nat × Instr × List Nat) := [(0, .iconst 0, []), (1, .istore 4, []), (3, .iload 4, []), (5, .aload_n 0, []), (6, .getfield 14, [5, 0, 134]), (9, .iload_n 3, []), (10, .invokevirtual 23, [0, 0, 1, 1, 10, 11, 12, 9, 0, 33]), (13, .if_icmp .ge 41, [54]), (16, .aload_n 0, []), (17, .iload_n 3, []), (18, .iload 4, []), (20, .invokevirtual 27, [16, 0, 2, 5, 137, 138, 139, 136, 0, 135]), (23, .aload_n 1, []), (24, .iload_n 2, []), (25, .iload 4, []), (27, .invokevirtual 34, [8, 0, 2, 0, 143, 144, 53, 142, 0, 141]), (30, .if_icmp .eq 18, [48]), (33, .aload_n 0, []), (34, .getfield 20, [5, 1, 32]), (37, .iload_n 3, []), (38, .bipush 8, []), (40, .imul, []), (41, .iload 4, []), (43, .iadd, []), (44, .iconst (-1), []), (45, .invokevirtual 56, [1, 0, 2, 1, 234, 235, 12, 233, 0, 358]), (48, .iinc 4 1, []), (51, .goto (-48), [3]), (54, .return_, [])]
def zm_94 : zM := (⟨"Nightjar", "many", "(I)I"⟩, prog_1_method_7_code, 2, (Option.some Jvm.ClassFile.FieldType.int), 2, 43)
def zc_94 : List (Nat × Instr × List Nat) := [(0, .iload_n 1, []), (1, .iconst 5, []), (2, .invokestatic 60, [5, 1, 2, 0, 361, 0, 118, 360, 0, 359]), (5, .ifCond .ne 13, [18]), (11, .dup, []), (18, .iload_n 1, []), (19, .tableswitch 73 0 4 #[33, 41, 49, 57, 65], [92, 52, 60, 68, 76, 84]), (52, .aload_n 0, []), (53, .getfield 12, [6, 0, 34]), (56, .getfield 71, [0, 7, 35]), (59, .ireturn, []), (60, .aload_n 0, []), (61, .getfield 12, [6, 0, 34]), (64, .getfield 101, [0, 8, 81]), (67, .ireturn, []), (68, .aload_n 0, []), (69, .getfield 19, [6, 1, 13]), (72, .getfield 126, [5, 2, 14]), (75, .ireturn, []), (76, .aload_n 0, []), (77, .getfield 29, [6, 3, 54]), (80, .getfield 129, [3, 8, 162]), (83, .ireturn, []), (84, .aload_n 0, []), (85, .getfield 29, [6, 3, 54]), (88, .invokevirtual 130, [85, 0, 0, 3, 364, 365, 61, 363, 0, 362]), (91, .ireturn, []), (92, .aload_n 0, []), (93, .getfield 36, [6, 4, 66]), (96, .getfield 134, [4, 4, 366]), (99, .ireturn, [])]
def zm_95 : zM := (⟨"Nightjar", "ofLine", "(II)I"⟩, prog_1_method_8_code, 3, (Option.some Jvm.ClassFile.FieldType.int), 1, 21)
def zc_95 : List (Nat × Instr × List Nat) := [(0, .aload_n 0, []), (1, .iload_n 1, []), (2, .invokevirtual 135, [17, 0, 1, 6, 369, 370, 118, 368, 0, 367]), (5, .ifCond .ne 13, [18]), (11, .dup, []), (18, .iload_n 2, []), (19, .bipush 8, []), (21, .invokestatic 60, [5, 1, 2, 0, 361, 0, 118, 360, 0, 359]), (24, .ifCond .ne 13, [37]), (30, .dup, []), (37, .iload_n 2, []), (38, .tableswitch 153 0 7 #[46, 58, 70, 82, 94, 106, 118, 130], [191, 84, 96, 108, 120, 132, 144, 156, 168]), (84, .aload_n 0, []), (85, .getfield 12, [6, 0, 34]), (88, .getfield 80, [0, 0, 371]), (91, .iload_n 1, []), (92, .invokevirtual 83, [0, 0, 1, 1, 10, 11, 12, 9, 0, 56]), (95, .ireturn, []), (96, .aload_n 0, []), (97, .getfield 12, [6, 0, 34]), (100, .getfield 146, [0, 1, 372]), (103, .iload_n 1, []), (104, .invokevirtual 83, [0, 0, 1, 1, 10, 11, 12, 9, 0, 56]), (107, .ireturn, []), (108, .aload_n 0, []), (109, .getfield 12, [6, 0, 34]), (112, .getfield 149, [0, 2, 373]), (115, .iload_n 1, []), (116, .invokevirtual 83, [0, 0, 1, 1, 10, 11, 12, 9, 0, 56]), (119, .ireturn, []), (120, .aload_n 0, []), (121, .getfield 12, [6, 0, 34]), (124, .getfield 98, [0, 3, 374]), (127, .iload_n 1, []), (128, .invokevirtual 83, [0, 0, 1, 1, 10, 11, 12, 9, 0, 56]), (131, .ireturn, []), (132, .aload_n 0, []), (133, .getfield 12, [6, 0, 34]), (136, .getfield 112, [0, 5, 375]), (139, .iload_n 1, []), (140, .invokevirtual 83, [0, 0, 1, 1, 10, 11, 12, 9, 0, 56]), (143, .ireturn, []), (144, .aload_n 0, []), (145, .getfield 12, [6, 0, 34]), (148, .getfield 152, [0, 6, 376]), (151, .iload_n 1, []), (152, .invokevirtual 83, [0, 0, 1, 1, 10, 11, 12, 9, 0, 56]), (155, .ireturn, []), (156, .aload_n 0, []), (157, .getfield 29, [6, 3, 54]), (160, .getfield 155, [3, 0, 377]), (163, .iload_n 1, []), (164, .invokevirtual 83, [0, 0, 1, 1, 10, 11, 12, 9, 0, 56]), (167, .ireturn, []), (168, .aload_n 0, []), (169, .getfield 12, [6, 0, 34]), (172, .getfield 80, [0, 0, 371]), (175, .iload_n 1, []), (176, .invokevirtual 83, [0, 0, 1, 1, 10, 11, 12, 9, 0, 56]), (179, .aload_n 0, []), (180, .getfield 52, [6, 6, 55]), (183, .iconst 2, []), (184, .invokevirtual 83, [0, 0, 1, 1, 10, 11, 12, 9, 0, 56]), (187, .invokestatic 158, [13, 1, 2, 0, 117, 0, 118, 116, 0, 378]), (190, .ireturn, []), (191, .aload_n 0, []), (192, .getfield 43, [6, 5, 72]), (195, .getfield 161, [2, 0, 379]), (198, .iload_n 1, []), (199, .invokevirtual 83, [0, 0, 1, 1, 10, 11, 12, 9, 0, 56]), (202, .ireturn, [])]
def zm_96 : zM := (⟨"Nightjar", "ofTemplate", "(II)I"⟩, prog_1_method_10_code, 3, (Option.some Jvm.ClassFile.FieldType.int), 3, 66)
def zc_96 : List (Nat × Instr × List Nat) := [(0, .aload_n 0, []), (1, .iload_n 1, []), (2, .invokevirtual 167, [10, 0, 1, 6, 382, 383, 118, 381, 0, 380]), (5, .ifCond .ne 13, [18]), (11, .dup, []), (18, .iload_n 2, []), (19, .iconst 4, []), (20, .invokestatic 60, [5, 1, 2, 0, 361, 0, 118, 360, 0, 359]), (23, .ifCond .ne 13, [36]), (29, .dup, []), (36, .iload_n 2, []), (37, .tableswitch 70 0 3 #[31, 43, 52, 61], [107, 68, 80, 89, 98]), (68, .aload_n 0, []), (69, .getfield 19, [6, 1, 13]), (72, .getfield 174, [5, 0, 384]), (75, .iload_n 1, []), (76, .invokevirtual 83, [0, 0, 1, 1, 10, 11, 12, 9, 0, 56]), (79, .ireturn, []), (80, .aload_n 0, []), (81, .getfield 19, [6, 1, 13]), (84, .iload_n 1, []), (85, .invokevirtual 175, [39, 0, 1, 5, 387, 388, 139, 386, 0, 385]), (88, .ireturn, []), (89, .aload_n 0, []), (90, .getfield 12, [6, 0, 34]), (93, .iload_n 1, []), (94, .invokevirtual 178, [65, 0, 1, 0, 391, 392, 53, 390, 0, 389]), (97, .ireturn, []), (98, .aload_n 0, []), (99, .getfield 12, [6, 0, 34]), (102, .iload_n 1, []), (103, .invokevirtual 181, [66, 0, 1, 0, 395, 396, 53, 394, 0, 393]), (106, .ireturn, []), (107, .aload_n 0, []), (108, .getfield 12, [6, 0, 34]), (111, .iload_n 1, []), (112, .invokevirtual 184, [67, 0, 1, 0, 399, 400, 53, 398, 0, 397]), (115, .ireturn, [])]
def zm_97 : zM := (⟨"Nightjar", "slot", "(II)I"⟩, prog_1_method_11_code, 3, (Option.some Jvm.ClassFile.FieldType.int), 2, 43)
def zc_97 : List (Nat × Instr × List Nat) := [(0, .aload_n 0, []), (1, .iload_n 1, []), (2, .invokevirtual 167, [10, 0, 1, 6, 382, 383, 118, 381, 0, 380]), (5, .ifCond .ne 13, [18]), (11, .dup, []), (18, .iload_n 2, []), (19, .ifCond .lt 18, [37]), (22, .iload_n 2, []), (23, .aload_n 0, []), (24, .getfield 19, [6, 1, 13]), (27, .getfield 174, [5, 0, 384]), (30, .iload_n 1, []), (31, .invokevirtual 83, [0, 0, 1, 1, 10, 11, 12, 9, 0, 56]), (34, .if_icmp .lt 13, [47]), (40, .dup, []), (47, .aload_n 0, []), (48, .getfield 19, [6, 1, 13]), (51, .iload_n 1, []), (52, .iload_n 2, []), (53, .invokevirtual 189, [16, 0, 2, 5, 137, 138, 139, 136, 0, 401]), (56, .ireturn, [])]
def zm_98 : zM := (⟨"Nightjar", "values", "(II)I"⟩, prog_1_method_12_code, 4, (Option.some Jvm.ClassFile.FieldType.int), 4, 90)
def zc_98 : List (Nat × Instr × List Nat) := [(0, .aload_n 0, []), (1, .iload_n 1, []), (2, .invokevirtual 167, [10, 0, 1, 6, 382, 383, 118, 381, 0, 380]), (5, .ifCond .ne 13, [18]), (11, .dup, []), (18, .aload_n 0, []), (19, .getfield 19, [6, 1, 13]), (22, .iload_n 1, []), (23, .iload_n 2, []), (24, .invokevirtual 192, [40, 0, 2, 5, 238, 239, 139, 237, 0, 402]), (27, .istore_n 3, []), (28, .iload_n 3, []), (29, .iconst (-1), []), (30, .if_icmp .ne 13, [43]), (36, .dup, []), (43, .aload_n 0, []), (44, .getfield 12, [6, 0, 34]), (47, .iload_n 1, []), (48, .iload_n 3, []), (49, .invokevirtual 197, [68, 0, 2, 0, 405, 406, 53, 404, 0, 403]), (52, .ireturn, [])]
def zm_99 : zM := (⟨"Nightjar", "ofSession", "(II)I"⟩, prog_1_method_14_code, 3, (Option.some Jvm.ClassFile.FieldType.int), 2, 46)
def zc_99 : List (Nat × Instr × List Nat) := [(0, .aload_n 0, []), (1, .iload_n 1, []), (2, .invokevirtual 203, [44, 0, 1, 6, 409, 410, 118, 408, 0, 407]), (5, .ifCond .ne 13, [18]), (11, .dup, []), (18, .iload_n 2, []), (19, .bipush 6, []), (21, .invokestatic 60, [5, 1, 2, 0, 361, 0, 118, 360, 0, 359]), (24, .ifCond .ne 13, [37]), (30, .dup, []), (37, .iload_n 2, []), (38, .tableswitch 141 0 5 #[38, 60, 82, 104, 116, 128], [179, 76, 98, 120, 142, 154, 166]), (76, .aload_n 0, []), (77, .getfield 12, [6, 0, 34]), (80, .getfield 152, [0, 6, 376]), (83, .aload_n 0, []), (84, .getfield 29, [6, 3, 54]), (87, .getfield 210, [3, 2, 411]), (90, .iload_n 1, []), (91, .invokevirtual 83, [0, 0, 1, 1, 10, 11, 12, 9, 0, 56]), (94, .invokevirtual 83, [0, 0, 1, 1, 10, 11, 12, 9, 0, 56]), (97, .ireturn, []), (98, .aload_n 0, []), (99, .getfield 12, [6, 0, 34]), (102, .getfield 80, [0, 0, 371]), (105, .aload_n 0, []), (106, .getfield 29, [6, 3, 54]), (109, .getfield 210, [3, 2, 411]), (112, .iload_n 1, []), (113, .invokevirtual 83, [0, 0, 1, 1, 10, 11, 12, 9, 0, 56]), (116, .invokevirtual 83, [0, 0, 1, 1, 10, 11, 12, 9, 0, 56]), (119, .ireturn, []), (120, .aload_n 0, []), (121, .getfield 12, [6, 0, 34]), (124, .getfield 80, [0, 0, 371]), (127, .aload_n 0, []), (128, .getfield 29, [6, 3, 54]), (131, .getfield 213, [3, 3, 412]), (134, .iload_n 1, []), (135, .invokevirtual 83, [0, 0, 1, 1, 10, 11, 12, 9, 0, 56]), (138, .invokevirtual 83, [0, 0, 1, 1, 10, 11, 12, 9, 0, 56]), (141, .ireturn, []), (142, .aload_n 0, []), (143, .getfield 29, [6, 3, 54]), (146, .getfield 216, [3, 4, 413]), (149, .iload_n 1, []), (150, .invokevirtual 83, [0, 0, 1, 1, 10, 11, 12, 9, 0, 56]), (153, .ireturn, []), (154, .aload_n 0, []), (155, .getfield 29, [6, 3, 54]), (158, .getfield 217, [3, 5, 414]), (161, .iload_n 1, []), (162, .invokevirtual 83, [0, 0, 1, 1, 10, 11, 12, 9, 0, 56]), (165, .ireturn, []), (166, .aload_n 0, []), (167, .getfield 29, [6, 3, 54]), (170, .aload_n 0, []), (171, .getfield 12, [6, 0, 34]), (174, .iload_n 1, []), (175, .invokevirtual 220, [84, 0, 2, 3, 417, 418, 61, 416, 0, 415]), (178, .ireturn, []), (179, .aload_n 0, []), (180, .getfield 29, [6, 3, 54]), (183, .iload_n 1, []), (184, .invokevirtual 224, [28, 0, 1, 3, 329, 330, 61, 328, 0, 419]), (187, .ireturn, [])]
def zm_100 : zM := (⟨"Nightjar", "usual", "()I"⟩, prog_1_method_16_code, 1, (Option.some Jvm.ClassFile.FieldType.int), 3, 65)
def zc_100 : List (Nat × Instr × List Nat) := [(0, .aload_n 0, []), (1, .getfield 29, [6, 3, 54]), (4, .invokevirtual 232, [87, 0, 0, 3, 422, 423, 61, 421, 0, 420]), (7, .ireturn, [])]
def zm_101 : zM := (⟨"Nightjar", "spike", "(II)I"⟩, prog_1_method_19_code, 3, (Option.some Jvm.ClassFile.FieldType.int), 1, 21)
def zc_101 : List (Nat × Instr × List Nat) := [(0, .iload_n 1, []), (1, .ifCond .lt 14, [15]), (4, .iload_n 1, []), (5, .aload_n 0, []), (6, .getfield 36, [6, 4, 66]), (9, .getfield 134, [4, 4, 366]), (12, .if_icmp .lt 13, [25]), (18, .dup, []), (25, .iload_n 2, []), (26, .iconst 2, []), (27, .invokestatic 60, [5, 1, 2, 0, 361, 0, 118, 360, 0, 359]), (30, .ifCond .ne 13, [43]), (36, .dup, []), (43, .iload_n 2, []), (44, .lookupswitch 52 #[(0, 28), (1, 40)], [96, 72, 84]), (72, .aload_n 0, []), (73, .getfield 36, [6, 4, 66]), (76, .getfield 248, [4, 0, 424]), (79, .iload_n 1, []), (80, .invokevirtual 83, [0, 0, 1, 1, 10, 11, 12, 9, 0, 56]), (83, .ireturn, []), (84, .aload_n 0, []), (85, .getfield 36, [6, 4, 66]), (88, .getfield 251, [4, 1, 425]), (91, .iload_n 1, []), (92, .invokevirtual 83, [0, 0, 1, 1, 10, 11, 12, 9, 0, 56]), (95, .ireturn, []), (96, .aload_n 0, []), (97, .getfield 36, [6, 4, 66]), (100, .getfield 253, [4, 2, 426]), (103, .iload_n 1, []), (104, .invokevirtual 83, [0, 0, 1, 1, 10, 11, 12, 9, 0, 56]), (107, .ireturn, [])]
def zm_102 : zM := (⟨"Nightjar", "causes", "(I)I"⟩, prog_1_method_20_code, 2, (Option.some Jvm.ClassFile.FieldType.int), 1, 21)
def zc_102 : List (Nat × Instr × List Nat) := [(0, .aload_n 0, []), (1, .iload_n 1, []), (2, .invokevirtual 167, [10, 0, 1, 6, 382, 383, 118, 381, 0, 380]), (5, .ifCond .ne 13, [18]), (11, .dup, []), (18, .aload_n 0, []), (19, .getfield 43, [6, 5, 72]), (22, .getfield 256, [2, 7, 427]), (25, .iload_n 1, []), (26, .invokevirtual 83, [0, 0, 1, 1, 10, 11, 12, 9, 0, 56]), (29, .ireturn, [])]
def zm_103 : zM := (⟨"Nightjar", "cause", "(III)I"⟩, prog_1_method_21_code, 5, (Option.some Jvm.ClassFile.FieldType.int), 3, 65)
def zc_103 : List (Nat × Instr × List Nat) := [(0, .aload_n 0, []), (1, .iload_n 1, []), (2, .invokevirtual 167, [10, 0, 1, 6, 382, 383, 118, 381, 0, 380]), (5, .ifCond .ne 13, [18]), (11, .dup, []), (18, .iload_n 2, []), (19, .ifCond .lt 18, [37]), (22, .iload_n 2, []), (23, .aload_n 0, []), (24, .getfield 43, [6, 5, 72]), (27, .getfield 256, [2, 7, 427]), (30, .iload_n 1, []), (31, .invokevirtual 83, [0, 0, 1, 1, 10, 11, 12, 9, 0, 56]), (34, .if_icmp .lt 14, [48]), (40, .dup, []), (48, .iload_n 3, []), (49, .iconst 3, []), (50, .invokestatic 60, [5, 1, 2, 0, 361, 0, 118, 360, 0, 359]), (53, .ifCond .ne 14, [67]), (59, .dup, []), (67, .aload_n 0, []), (68, .getfield 43, [6, 5, 72]), (71, .iload_n 1, []), (72, .iload_n 2, []), (73, .invokevirtual 263, [20, 0, 2, 2, 281, 282, 47, 280, 0, 428]), (76, .istore 4, []), (78, .iload_n 3, []), (79, .tableswitch 50 0 2 #[25, 28, 39], [129, 104, 107, 118]), (104, .iload 4, []), (106, .ireturn, []), (107, .aload_n 0, []), (108, .getfield 43, [6, 5, 72]), (111, .iload_n 1, []), (112, .iload 4, []), (114, .invokevirtual 266, [27, 0, 2, 2, 125, 126, 47, 124, 0, 429]), (117, .ireturn, []), (118, .aload_n 0, []), (119, .getfield 43, [6, 5, 72]), (122, .iload_n 1, []), (123, .iload 4, []), (125, .invokevirtual 269, [36, 0, 2, 2, 273, 274, 47, 272, 0, 430]), (128, .ireturn, []), (129, .aload_n 0, []), (130, .getfield 43, [6, 5, 72]), (133, .iload_n 1, []), (134, .iload 4, []), (136, .invokevirtual 272, [37, 0, 2, 2, 285, 286, 47, 284, 0, 431]), (139, .ireturn, [])]
def zm_104 : zM := (⟨"Nightjar", "because", "(I)I"⟩, prog_1_method_22_code, 2, (Option.some Jvm.ClassFile.FieldType.int), 4, 95)
def zc_104 : List (Nat × Instr × List Nat) := [(0, .aload_n 0, []), (1, .iload_n 1, []), (2, .invokevirtual 135, [17, 0, 1, 6, 369, 370, 118, 368, 0, 367]), (5, .ifCond .ne 13, [18]), (11, .dup, []), (18, .aload_n 0, []), (19, .getfield 43, [6, 5, 72]), (22, .aload_n 0, []), (23, .getfield 12, [6, 0, 34]), (26, .iload_n 1, []), (27, .aload_n 0, []), (28, .getfield 52, [6, 6, 55]), (31, .iconst 3, []), (32, .invokevirtual 83, [0, 0, 1, 1, 10, 11, 12, 9, 0, 56]), (35, .invokevirtual 275, [75, 0, 3, 2, 434, 435, 47, 433, 0, 432]), (38, .ireturn, [])]
def zm_105 : zM := (⟨"Nightjar", "mixLine", "(JI)J"⟩, prog_1_method_27_code, 7, (Option.some Jvm.ClassFile.FieldType.long), 5, 116)
def zc_105 : List (Nat × Instr × List Nat) := [(0, .lload_n 1, []), (1, .lstore 4, []), (3, .iconst 4, []), (4, .istore 6, []), (6, .iload 6, []), (8, .bipush 8, []), (10, .if_icmp .gt 23, [33]), (13, .lload 4, []), (15, .aload_n 0, []), (16, .iload_n 3, []), (17, .iload 6, []), (19, .invokevirtual 314, [95, 0, 2, 6, 438, 439, 118, 437, 0, 436]), (22, .invokestatic 295, [6, 1, 2, 0, 442, 0, 118, 441, 0, 440]), (25, .lstore 4, []), (27, .iinc 6 1, []), (30, .goto (-24), [6]), (33, .lload 4, []), (35, .aload_n 0, []), (36, .iload_n 3, []), (37, .invokevirtual 317, [104, 0, 1, 6, 445, 446, 118, 444, 0, 443]), (40, .invokestatic 295, [6, 1, 2, 0, 442, 0, 118, 441, 0, 440]), (43, .lreturn, [])]
def zm_106 : zM := (⟨"Nightjar", "mixTemplate", "(JI)J"⟩, prog_1_method_28_code, 11, (Option.some Jvm.ClassFile.FieldType.long), 5, 113)
def zc_106 : List (Nat × Instr × List Nat) := [(0, .lload_n 1, []), (1, .iload_n 3, []), (2, .invokestatic 295, [6, 1, 2, 0, 442, 0, 118, 441, 0, 440]), (5, .lstore 4, []), (7, .iconst 0, []), (8, .istore 6, []), (10, .iload 6, []), (12, .iconst 4, []), (13, .if_icmp .gt 23, [36]), (16, .lload 4, []), (18, .aload_n 0, []), (19, .iload_n 3, []), (20, .iload 6, []), (22, .invokevirtual 320, [96, 0, 2, 6, 449, 450, 118, 448, 0, 447]), (25, .invokestatic 295, [6, 1, 2, 0, 442, 0, 118, 441, 0, 440]), (28, .lstore 4, []), (30, .iinc 6 1, []), (33, .goto (-23), [10]), (36, .aload_n 0, []), (37, .getfield 19, [6, 1, 13]), (40, .getfield 174, [5, 0, 384]), (43, .iload_n 3, []), (44, .invokevirtual 83, [0, 0, 1, 1, 10, 11, 12, 9, 0, 56]), (47, .istore 6, []), (49, .iconst 0, []), (50, .istore 7, []), (52, .iload 7, []), (54, .iload 6, []), (56, .if_icmp .ge 23, [79]), (59, .lload 4, []), (61, .aload_n 0, []), (62, .iload_n 3, []), (63, .iload 7, []), (65, .invokevirtual 323, [97, 0, 2, 6, 453, 454, 118, 452, 0, 451]), (68, .invokestatic 295, [6, 1, 2, 0, 442, 0, 118, 441, 0, 440]), (71, .lstore 4, []), (73, .iinc 7 1, []), (76, .goto (-24), [52]), (79, .aload_n 0, []), (80, .getfield 19, [6, 1, 13]), (83, .iload_n 3, []), (84, .invokevirtual 175, [39, 0, 1, 5, 387, 388, 139, 386, 0, 385]), (87, .istore 7, []), (89, .iconst 0, []), (90, .istore 8, []), (92, .iload 8, []), (94, .iload 7, []), (96, .if_icmp .ge 23, [119]), (99, .lload 4, []), (101, .aload_n 0, []), (102, .iload_n 3, []), (103, .iload 8, []), (105, .invokevirtual 326, [98, 0, 2, 6, 457, 458, 118, 456, 0, 455]), (108, .invokestatic 295, [6, 1, 2, 0, 442, 0, 118, 441, 0, 440]), (111, .lstore 4, []), (113, .iinc 8 1, []), (116, .goto (-24), [92]), (119, .aload_n 0, []), (120, .iload_n 3, []), (121, .invokevirtual 329, [102, 0, 1, 6, 461, 462, 118, 460, 0, 459]), (124, .istore 8, []), (126, .lload 4, []), (128, .iload 8, []), (130, .invokestatic 295, [6, 1, 2, 0, 442, 0, 118, 441, 0, 440]), (133, .lstore 4, []), (135, .iconst 0, []), (136, .istore 9, []), (138, .iload 9, []), (140, .iload 8, []), (142, .if_icmp .ge 40, [182]), (145, .iconst 0, []), (146, .istore 10, []), (148, .iload 10, []), (150, .iconst 3, []), (151, .if_icmp .gt 25, [176]), (154, .lload 4, []), (156, .aload_n 0, []), (157, .iload_n 3, []), (158, .iload 9, []), (160, .iload 10, []), (162, .invokevirtual 332, [103, 0, 3, 6, 465, 466, 118, 464, 0, 463]), (165, .invokestatic 295, [6, 1, 2, 0, 442, 0, 118, 441, 0, 440]), (168, .lstore 4, []), (170, .iinc 10 1, []), (173, .goto (-25), [148]), (176, .iinc 9 1, []), (179, .goto (-41), [138]), (182, .lload 4, []), (184, .lreturn, [])]
def zm_107 : zM := (⟨"NightjarModel", "nearest", "(II)I"⟩, prog_9_method_10_code, 5, (Option.some Jvm.ClassFile.FieldType.int), 1, 24)
def zc_107 : List (Nat × Instr × List Nat) := [(0, .iconst (-1), []), (1, .istore_n 3, []), (2, .iconst 0, []), (3, .istore 4, []), (5, .iload 4, []), (7, .aload_n 0, []), (8, .getfield 66, [7, 10, 15]), (11, .if_icmp .ge 49, [60]), (14, .aload_n 0, []), (15, .getfield 31, [7, 11, 24]), (18, .iload 4, []), (20, .iaload, []), (21, .aload_n 0, []), (22, .getfield 19, [7, 5, 86]), (25, .iload_n 1, []), (26, .iaload, []), (27, .if_icmp .ne 27, [54]), (30, .iload_n 3, []), (31, .iconst (-1), []), (32, .if_icmp .eq 19, [51]), (35, .aload_n 0, []), (36, .iload_n 1, []), (37, .iload 4, []), (39, .invokevirtual 76, [22, 0, 2, 7, 469, 470, 19, 468, 0, 467]), (42, .aload_n 0, []), (43, .iload_n 1, []), (44, .iload_n 3, []), (45, .invokevirtual 76, [22, 0, 2, 7, 469, 470, 19, 468, 0, 467]), (48, .if_icmp .le 6, [54]), (51, .iload 4, []), (53, .istore_n 3, []), (54, .iinc 4 1, []), (57, .goto (-52), [5]), (60, .iload_n 3, []), (61, .iconst (-1), []), (62, .if_icmp .eq 30, [92]), (65, .aload_n 0, []), (66, .iload_n 1, []), (67, .iload_n 3, []), (68, .invokevirtual 76, [22, 0, 2, 7, 469, 470, 19, 468, 0, 467]), (71, .aload_n 0, []), (72, .getfield 19, [7, 5, 86]), (75, .iload_n 1, []), (76, .iaload, []), (77, .iload_n 2, []), (78, .imul, []), (79, .bipush 99, []), (81, .iadd, []), (82, .bipush 100, []), (84, .idiv, []), (85, .if_icmp .lt 7, [92]), (88, .iload_n 3, []), (89, .goto 4, [93]), (92, .iconst (-1), []), (93, .ireturn, [])]
def zm_108 : zM := (⟨"NightjarModel", "add", "(I)I"⟩, prog_9_method_12_code, 2, (Option.some Jvm.ClassFile.FieldType.int), 1, 68)
def zc_108 : List (Nat × Instr × List Nat) := [(0, .aload_n 0, []), (1, .getfield 31, [7, 11, 24]), (4, .aload_n 0, []), (5, .getfield 66, [7, 10, 15]), (8, .aload_n 0, []), (9, .getfield 19, [7, 5, 86]), (12, .iload_n 1, []), (13, .iaload, []), (14, .iastore, []), (15, .aload_n 0, []), (16, .getfield 22, [7, 6, 26]), (19, .iload_n 1, []), (20, .bipush 8, []), (22, .imul, []), (23, .aload_n 0, []), (24, .getfield 34, [7, 12, 25]), (27, .aload_n 0, []), (28, .getfield 66, [7, 10, 15]), (31, .bipush 8, []), (33, .imul, []), (34, .aload_n 0, []), (35, .getfield 19, [7, 5, 86]), (38, .iload_n 1, []), (39, .iaload, []), (40, .invokestatic 86, [0, 3, 222, 223, 224, 225]), (43, .aload_n 0, []), (44, .dup, []), (45, .getfield 66, [7, 10, 15]), (48, .dup_x1, []), (49, .iconst 1, []), (50, .iadd, []), (51, .putfield 66, [7, 10, 0, 15]), (54, .ireturn, [])]
def zm_109 : zM := (⟨"NightjarModel", "isBroken", "(I)Z"⟩, prog_9_method_21_code, 3, (Option.some Jvm.ClassFile.FieldType.boolean), 0, 0)
def zc_109 : List (Nat × Instr × List Nat) := [(0, .iconst 0, []), (1, .istore_n 2, []), (2, .iload_n 2, []), (3, .aload_n 0, []), (4, .getfield 59, [7, 1, 36]), (7, .if_icmp .ge 31, [38]), (10, .aload_n 0, []), (11, .getfield 37, [7, 14, 96]), (14, .iload_n 2, []), (15, .iaload, []), (16, .iload_n 1, []), (17, .if_icmp .ne 15, [32]), (20, .aload_n 0, []), (21, .getfield 16, [7, 4, 195]), (24, .iload_n 2, []), (25, .iaload, []), (26, .iconst 3, []), (27, .if_icmp .ne 5, [32]), (30, .iconst 1, []), (31, .ireturn, []), (32, .iinc 2 1, []), (35, .goto (-33), [2]), (38, .iconst 0, []), (39, .ireturn, [])]
def zm_110 : zM := (⟨"NightjarModel", "sceneNow", "(I)I"⟩, prog_9_method_29_code, 4, (Option.some Jvm.ClassFile.FieldType.int), 3, 66)
def zc_110 : List (Nat × Instr × List Nat) := [(0, .iconst 0, []), (1, .istore_n 2, []), (2, .iconst 0, []), (3, .istore_n 3, []), (4, .iload_n 3, []), (5, .iload_n 1, []), (6, .if_icmp .ge 26, [32]), (9, .iload_n 2, []), (10, .aload_n 0, []), (11, .iload_n 3, []), (12, .iload_n 1, []), (13, .invokevirtual 132, [49, 0, 2, 7, 112, 113, 19, 111, 0, 110]), (16, .ifCond .eq 7, [23]), (19, .iconst 1, []), (20, .goto 4, [24]), (23, .iconst 0, []), (24, .iadd, []), (25, .istore_n 2, []), (26, .iinc 3 1, []), (29, .goto (-25), [4]), (32, .iload_n 2, []), (33, .ireturn, [])]
def zm_111 : zM := (⟨"NightjarModel", "put", "(IIII)V"⟩, prog_9_method_32_code, 7, (Option.none : Option Jvm.ClassFile.FieldType), 1, 68)
def zc_111 : List (Nat × Instr × List Nat) := [(0, .aload_n 0, []), (1, .dup, []), (2, .getfield 136, [7, 20, 87]), (5, .dup_x1, []), (6, .iconst 1, []), (7, .iadd, []), (8, .putfield 136, [7, 20, 0, 87]), (11, .istore 5, []), (13, .iload 5, []), (15, .ifCond .le 47, [62]), (18, .aload_n 0, []), (19, .getfield 52, [7, 21, 194]), (22, .iconst 4, []), (23, .iload 5, []), (25, .imul, []), (26, .iconst 1, []), (27, .isub, []), (28, .iaload, []), (29, .iload 4, []), (31, .if_icmp .ge 31, [62]), (34, .aload_n 0, []), (35, .getfield 52, [7, 21, 194]), (38, .iconst 4, []), (39, .iload 5, []), (41, .imul, []), (42, .iconst 4, []), (43, .isub, []), (44, .aload_n 0, []), (45, .getfield 52, [7, 21, 194]), (48, .iconst 4, []), (49, .iload 5, []), (51, .imul, []), (52, .iconst 4, []), (53, .invokestatic 86, [0, 3, 222, 223, 224, 225]), (56, .iinc 5 (-1), []), (59, .goto (-46), [13]), (62, .iconst 4, []), (63, .newarray .int, [0, 5]), (65, .dup, []), (66, .iconst 0, []), (67, .iload_n 1, []), (68, .iastore, []), (69, .dup, []), (70, .iconst 1, []), (71, .iload_n 2, []), (72, .iastore, []), (73, .dup, []), (74, .iconst 2, []), (75, .iload_n 3, []), (76, .iastore, []), (77, .dup, []), (78, .iconst 3, []), (79, .iload 4, []), (81, .iastore, []), (82, .astore 6, []), (84, .aload 6, []), (86, .iconst 0, []), (87, .aload_n 0, []), (88, .getfield 52, [7, 21, 194]), (91, .iconst 4, []), (92, .iload 5, []), (94, .imul, []), (95, .iconst 4, []), (96, .invokestatic 86, [0, 3, 222, 223, 224, 225]), (99, .return_, [])]
def zm_112 : zM := (⟨"NightjarModel", "placeOf", "(II)I"⟩, prog_9_method_40_code, 5, (Option.some Jvm.ClassFile.FieldType.int), 0, 0)
def zc_112 : List (Nat × Instr × List Nat) := [(0, .iload_n 2, []), (1, .istore_n 3, []), (2, .iconst 0, []), (3, .istore 4, []), (5, .aload_n 0, []), (6, .getfield 34, [7, 12, 25]), (9, .iload_n 1, []), (10, .bipush 8, []), (12, .imul, []), (13, .iload 4, []), (15, .iadd, []), (16, .iaload, []), (17, .iconst (-1), []), (18, .if_icmp .ne 10, [28]), (21, .iload_n 3, []), (22, .iinc 3 (-1), []), (25, .ifCond .le 9, [34]), (28, .iinc 4 1, []), (31, .goto (-26), [5]), (34, .iload 4, []), (36, .ireturn, [])]
def zm_113 : zM := (⟨"NightjarModel", "haveOnePath", "(II)Z"⟩, prog_9_method_44_code, 5, (Option.some Jvm.ClassFile.FieldType.boolean), 1, 23)
def zc_113 : List (Nat × Instr × List Nat) := [(0, .iconst (-1), []), (1, .istore_n 3, []), (2, .iconst (-1), []), (3, .istore 4, []), (5, .aload_n 0, []), (6, .iload_n 1, []), (7, .iload_n 3, []), (8, .invokevirtual 179, [25, 0, 2, 7, 473, 474, 19, 472, 0, 471]), (11, .istore_n 3, []), (12, .aload_n 0, []), (13, .iload_n 2, []), (14, .iload 4, []), (16, .invokevirtual 179, [25, 0, 2, 7, 473, 474, 19, 472, 0, 471]), (19, .istore 4, []), (21, .iload_n 3, []), (22, .iconst (-1), []), (23, .if_icmp .ne 7, [30]), (26, .iconst 1, []), (27, .goto 4, [31]), (30, .iconst 0, []), (31, .iload 4, []), (33, .iconst (-1), []), (34, .if_icmp .ne 7, [41]), (37, .iconst 1, []), (38, .goto 4, [42]), (41, .iconst 0, []), (42, .if_icmp .ne 24, [66]), (45, .iload_n 3, []), (46, .iconst (-1), []), (47, .if_icmp .eq 21, [68]), (50, .aload_n 0, []), (51, .getfield 28, [7, 9, 38]), (54, .iload_n 3, []), (55, .iaload, []), (56, .aload_n 0, []), (57, .getfield 28, [7, 9, 38]), (60, .iload 4, []), (62, .iaload, []), (63, .if_icmp .eq 5, [68]), (66, .iconst 0, []), (67, .ireturn, []), (68, .iload_n 3, []), (69, .iconst (-1), []), (70, .if_icmp .ne (-65), [5]), (73, .iconst 1, []), (74, .ireturn, [])]
def zm_114 : zM := (⟨"java/lang/Integer", "bitCount", "(I)I"⟩, prog_14_method_49_code, 1, (Option.some Jvm.ClassFile.FieldType.int), 0, 0)
def zc_114 : List (Nat × Instr × List Nat) := [(0, .iload_n 0, []), (1, .iload_n 0, []), (2, .iconst 1, []), (3, .iushr, []), (4, .ldc_w 265, [1431655765, 475]), (7, .iand, []), (8, .isub, []), (9, .istore_n 0, []), (10, .iload_n 0, []), (11, .ldc_w 266, [858993459, 476]), (14, .iand, []), (15, .iload_n 0, []), (16, .iconst 2, []), (17, .iushr, []), (18, .ldc_w 266, [858993459, 476]), (21, .iand, []), (22, .iadd, []), (23, .istore_n 0, []), (24, .iload_n 0, []), (25, .iload_n 0, []), (26, .iconst 4, []), (27, .iushr, []), (28, .iadd, []), (29, .ldc_w 267, [252645135, 477]), (32, .iand, []), (33, .istore_n 0, []), (34, .iload_n 0, []), (35, .iload_n 0, []), (36, .bipush 8, []), (38, .iushr, []), (39, .iadd, []), (40, .istore_n 0, []), (41, .iload_n 0, []), (42, .iload_n 0, []), (43, .bipush 16, []), (45, .iushr, []), (46, .iadd, []), (47, .istore_n 0, []), (48, .iload_n 0, []), (49, .bipush 63, []), (51, .iand, []), (52, .ireturn, [])]
def zm_115 : zM := (⟨"Nightjar", "<init>", "()V"⟩, prog_1_method_1_code, 1, (Option.none : Option Jvm.ClassFile.FieldType), 3, 61)
def zc_115 : List (Nat × Instr × List Nat) := [(0, .aload_n 0, []), (1, .invokespecial 3, [0, 5, 478, 3, 4]), (4, .aload_n 0, []), (5, .new 9, [0, 479, 480, 53, 1, 1, 1, 1, 1, 1, 1, 0, 0]), (8, .dup, []), (9, .invokespecial 11, [60, 2, 0, 0, 482, 0, 53, 481, 1, 3]), (12, .putfield 12, [6, 0, 1, 34]), (15, .aload_n 0, []), (16, .new 16, [5, 483, 484, 139, 1, 1, 0]), (19, .dup, []), (20, .invokespecial 18, [38, 2, 0, 0, 486, 0, 139, 485, 1, 4]), (23, .putfield 19, [6, 1, 1, 13]), (26, .aload_n 0, []), (27, .new 16, [5, 483, 484, 139, 1, 1, 0]), (30, .dup, []), (31, .invokespecial 18, [38, 2, 0, 0, 486, 0, 139, 485, 1, 4]), (34, .putfield 23, [6, 2, 1, 487]), (37, .aload_n 0, []), (38, .new 26, [3, 488, 489, 61, 1, 1, 1, 1, 1, 1, 1, 1, 0]), (41, .dup, []), (42, .invokespecial 28, [77, 2, 0, 0, 491, 0, 61, 490, 1, 5]), (45, .putfield 29, [6, 3, 1, 54]), (48, .aload_n 0, []), (49, .new 33, [4, 492, 493, 71, 1, 1, 1, 1, 0]), (52, .dup, []), (53, .invokespecial 35, [88, 2, 0, 0, 495, 0, 71, 494, 1, 6]), (56, .putfield 36, [6, 4, 1, 66]), (59, .aload_n 0, []), (60, .new 40, [2, 496, 497, 47, 1, 1, 1, 1, 1, 1, 1, 1]), (63, .dup, []), (64, .invokespecial 42, [70, 2, 0, 0, 499, 0, 47, 498, 1, 7]), (67, .putfield 43, [6, 5, 1, 72]), (70, .aload_n 0, []), (71, .new 47, [1, 500, 130, 12, 1]), (74, .dup, []), (75, .iconst 4, []), (76, .invokespecial 49, [3, 2, 1, 0, 133, 0, 12, 132, 0, 501]), (79, .putfield 52, [6, 6, 1, 55]), (82, .aload_n 0, []), (83, .getfield 52, [6, 6, 55]), (86, .iconst 0, []), (87, .bipush 50, []), (89, .invokevirtual 56, [1, 0, 2, 1, 234, 235, 12, 233, 0, 502]), (92, .aload_n 0, []), (93, .getfield 52, [6, 6, 55]), (96, .iconst 1, []), (97, .bipush 30, []), (99, .invokevirtual 56, [1, 0, 2, 1, 234, 235, 12, 233, 0, 502]), (102, .aload_n 0, []), (103, .getfield 52, [6, 6, 55]), (106, .iconst 2, []), (107, .bipush 10, []), (109, .invokevirtual 56, [1, 0, 2, 1, 234, 235, 12, 233, 0, 502]), (112, .aload_n 0, []), (113, .getfield 52, [6, 6, 55]), (116, .iconst 3, []), (117, .bipush 20, []), (119, .invokevirtual 56, [1, 0, 2, 1, 234, 235, 12, 233, 0, 502]), (122, .return_, [])]
def zm_116 : zM := (⟨"Nightjar", "line", "(III)I"⟩, prog_1_method_2_code, 5, (Option.some Jvm.ClassFile.FieldType.int), 5, 120)
def zc_116 : List (Nat × Instr × List Nat) := [(0, .iload_n 1, []), (1, .sipush 9999, []), (4, .invokestatic 60, [5, 1, 2, 0, 361, 0, 118, 360, 0, 359]), (7, .ifCond .eq 20, [27]), (10, .iload_n 2, []), (11, .bipush 7, []), (13, .invokestatic 60, [5, 1, 2, 0, 361, 0, 118, 360, 0, 359]), (16, .ifCond .eq 11, [27]), (19, .iload_n 3, []), (20, .iconst 3, []), (21, .invokestatic 60, [5, 1, 2, 0, 361, 0, 118, 360, 0, 359]), (24, .ifCond .ne 13, [37]), (30, .dup, []), (37, .aload_n 0, []), (38, .getfield 12, [6, 0, 34]), (41, .getfield 71, [0, 7, 35]), (44, .bipush 70, []), (46, .if_icmp .lt 13, [59]), (52, .dup, []), (59, .aload_n 0, []), (60, .getfield 12, [6, 0, 34]), (63, .getfield 71, [0, 7, 35]), (66, .ifCond .le 36, [102]), (69, .iload_n 1, []), (70, .aload_n 0, []), (71, .getfield 12, [6, 0, 34]), (74, .getfield 80, [0, 0, 371]), (77, .aload_n 0, []), (78, .getfield 12, [6, 0, 34]), (81, .getfield 71, [0, 7, 35]), (84, .iconst 1, []), (85, .isub, []), (86, .invokevirtual 83, [0, 0, 1, 1, 10, 11, 12, 9, 0, 56]), (89, .if_icmp .ge 13, [102]), (95, .dup, []), (102, .aload_n 0, []), (103, .getfield 12, [6, 0, 34]), (106, .iload_n 1, []), (107, .iload_n 2, []), (108, .iload_n 3, []), (109, .invokevirtual 89, [61, 0, 3, 0, 505, 506, 53, 504, 0, 503]), (112, .istore 4, []), (114, .aload_n 0, []), (115, .invokevirtual 93, [21, 0, 0, 6, 509, 510, 118, 508, 0, 507]), (118, .iload 4, []), (120, .ireturn, [])]
def zm_117 : zM := (⟨"Nightjar", "word", "(I)I"⟩, prog_1_method_3_code, 3, (Option.some Jvm.ClassFile.FieldType.int), 2, 45)
def zc_117 : List (Nat × Instr × List Nat) := [(0, .iload_n 1, []), (1, .sipush 999, []), (4, .invokestatic 60, [5, 1, 2, 0, 361, 0, 118, 360, 0, 359]), (7, .ifCond .ne 13, [20]), (13, .dup, []), (20, .aload_n 0, []), (21, .getfield 12, [6, 0, 34]), (24, .getfield 71, [0, 7, 35]), (27, .iconst 1, []), (28, .isub, []), (29, .istore_n 2, []), (30, .iload_n 2, []), (31, .ifCond .lt 30, [61]), (34, .aload_n 0, []), (35, .getfield 12, [6, 0, 34]), (38, .getfield 98, [0, 3, 374]), (41, .iload_n 2, []), (42, .invokevirtual 83, [0, 0, 1, 1, 10, 11, 12, 9, 0, 56]), (45, .bipush 8, []), (47, .if_icmp .ge 14, [61]), (50, .aload_n 0, []), (51, .getfield 12, [6, 0, 34]), (54, .getfield 101, [0, 8, 81]), (57, .iload_n 2, []), (58, .if_icmp .le 13, [71]), (64, .dup, []), (71, .aload_n 0, []), (72, .getfield 12, [6, 0, 34]), (75, .iload_n 2, []), (76, .iload_n 1, []), (77, .invokevirtual 106, [62, 0, 2, 0, 513, 514, 53, 512, 0, 511]), (80, .ireturn, [])]
def zm_118 : zM := (⟨"Nightjar", "learn", "(I)I"⟩, prog_1_method_4_code, 6, (Option.some Jvm.ClassFile.FieldType.int), 5, 120)
def zc_118 : List (Nat × Instr × List Nat) := [(0, .iload_n 1, []), (1, .iconst 1, []), (2, .if_icmp .lt 9, [11]), (5, .iload_n 1, []), (6, .bipush 70, []), (8, .if_icmp .le 13, [21]), (14, .dup, []), (21, .aload_n 0, []), (22, .getfield 12, [6, 0, 34]), (25, .getfield 71, [0, 7, 35]), (28, .aload_n 0, []), (29, .getfield 12, [6, 0, 34]), (32, .getfield 101, [0, 8, 81]), (35, .isub, []), (36, .istore_n 2, []), (37, .iload_n 1, []), (38, .iload_n 2, []), (39, .if_icmp .ge 7, [46]), (42, .iload_n 1, []), (43, .goto 4, [47]), (46, .iload_n 2, []), (47, .istore_n 3, []), (48, .iconst 0, []), (49, .istore 4, []), (51, .iload 4, []), (53, .iload_n 3, []), (54, .if_icmp .ge 62, [116]), (57, .aload_n 0, []), (58, .getfield 12, [6, 0, 34]), (61, .getfield 101, [0, 8, 81]), (64, .istore 5, []), (66, .aload_n 0, []), (67, .getfield 12, [6, 0, 34]), (70, .getfield 112, [0, 5, 375]), (73, .iload 5, []), (75, .aload_n 0, []), (76, .getfield 19, [6, 1, 13]), (79, .aload_n 0, []), (80, .getfield 12, [6, 0, 34]), (83, .iload 5, []), (85, .aload_n 0, []), (86, .getfield 52, [6, 6, 55]), (89, .iconst 0, []), (90, .invokevirtual 83, [0, 0, 1, 1, 10, 11, 12, 9, 0, 56]), (93, .invokevirtual 115, [43, 0, 3, 5, 517, 518, 139, 516, 0, 515]), (96, .invokevirtual 56, [1, 0, 2, 1, 234, 235, 12, 233, 0, 502]), (99, .aload_n 0, []), (100, .getfield 12, [6, 0, 34]), (103, .iload 5, []), (105, .iconst 1, []), (106, .iadd, []), (107, .putfield 101, [0, 8, 0, 81]), (110, .iinc 4 1, []), (113, .goto (-62), [51]), (116, .aload_n 0, []), (117, .invokevirtual 93, [21, 0, 0, 6, 509, 510, 118, 508, 0, 507]), (120, .iload_n 3, []), (121, .ireturn, [])]
def zm_119 : zM := (⟨"Nightjar", "set", "(II)I"⟩, prog_1_method_5_code, 6, (Option.some Jvm.ClassFile.FieldType.int), 5, 120)
def zc_119 : List (Nat × Instr × List Nat) := [(0, .iload_n 1, []), (1, .iconst 3, []), (2, .invokestatic 60, [5, 1, 2, 0, 361, 0, 118, 360, 0, 359]), (5, .ifCond .ne 13, [18]), (11, .dup, []), (18, .iload_n 1, []), (19, .iconst 2, []), (20, .if_icmp .ne 7, [27]), (23, .iconst 1, []), (24, .goto 4, [28]), (27, .iconst 0, []), (28, .istore_n 3, []), (29, .iload_n 1, []), (30, .ifCond .ne 8, [38]), (33, .bipush 100, []), (35, .goto 6, [41]), (38, .sipush 1000, []), (41, .istore 4, []), (43, .iload_n 2, []), (44, .iload_n 3, []), (45, .if_icmp .lt 9, [54]), (48, .iload_n 2, []), (49, .iload 4, []), (51, .if_icmp .le 13, [64]), (57, .dup, []), (64, .aload_n 0, []), (65, .getfield 52, [6, 6, 55]), (68, .iload_n 1, []), (69, .invokevirtual 83, [0, 0, 1, 1, 10, 11, 12, 9, 0, 56]), (72, .istore 5, []), (74, .aload_n 0, []), (75, .getfield 52, [6, 6, 55]), (78, .iload_n 1, []), (79, .iload_n 2, []), (80, .invokevirtual 56, [1, 0, 2, 1, 234, 235, 12, 233, 0, 502]), (83, .aload_n 0, []), (84, .invokevirtual 93, [21, 0, 0, 6, 509, 510, 118, 508, 0, 507]), (87, .iload 5, []), (89, .ireturn, [])]
def zm_120 : zM := (⟨"Nightjar", "forget", "()I"⟩, prog_1_method_6_code, 2, (Option.some Jvm.ClassFile.FieldType.int), 5, 120)
def zc_120 : List (Nat × Instr × List Nat) := [(0, .aload_n 0, []), (1, .getfield 12, [6, 0, 34]), (4, .getfield 101, [0, 8, 81]), (7, .istore_n 1, []), (8, .aload_n 0, []), (9, .getfield 12, [6, 0, 34]), (12, .invokevirtual 123, [63, 0, 0, 0, 521, 522, 53, 520, 0, 519]), (15, .aload_n 0, []), (16, .getfield 19, [6, 1, 13]), (19, .iconst 0, []), (20, .putfield 126, [5, 2, 0, 14]), (23, .aload_n 0, []), (24, .invokevirtual 93, [21, 0, 0, 6, 509, 510, 118, 508, 0, 507]), (27, .iload_n 1, []), (28, .ireturn, [])]
def zm_121 : zM := (⟨"Nightjar", "wordAt", "(II)I"⟩, prog_1_method_9_code, 3, (Option.some Jvm.ClassFile.FieldType.int), 2, 43)
def zc_121 : List (Nat × Instr × List Nat) := [(0, .aload_n 0, []), (1, .iload_n 1, []), (2, .invokevirtual 135, [17, 0, 1, 6, 369, 370, 118, 368, 0, 367]), (5, .ifCond .ne 13, [18]), (11, .dup, []), (18, .iload_n 2, []), (19, .ifCond .lt 18, [37]), (22, .iload_n 2, []), (23, .aload_n 0, []), (24, .getfield 12, [6, 0, 34]), (27, .getfield 98, [0, 3, 374]), (30, .iload_n 1, []), (31, .invokevirtual 83, [0, 0, 1, 1, 10, 11, 12, 9, 0, 56]), (34, .if_icmp .lt 13, [47]), (40, .dup, []), (47, .aload_n 0, []), (48, .getfield 12, [6, 0, 34]), (51, .iload_n 1, []), (52, .iload_n 2, []), (53, .invokevirtual 164, [8, 0, 2, 0, 143, 144, 53, 142, 0, 523]), (56, .ireturn, [])]
def zm_122 : zM := (⟨"Nightjar", "alike", "(II)I"⟩, prog_1_method_13_code, 3, (Option.some Jvm.ClassFile.FieldType.int), 3, 69)
def zc_122 : List (Nat × Instr × List Nat) := [(0, .aload_n 0, []), (1, .iload_n 1, []), (2, .invokevirtual 135, [17, 0, 1, 6, 369, 370, 118, 368, 0, 367]), (5, .ifCond .ne 13, [18]), (11, .dup, []), (18, .aload_n 0, []), (19, .iload_n 2, []), (20, .invokevirtual 167, [10, 0, 1, 6, 382, 383, 118, 381, 0, 380]), (23, .ifCond .ne 13, [36]), (29, .dup, []), (36, .aload_n 0, []), (37, .getfield 19, [6, 1, 13]), (40, .aload_n 0, []), (41, .getfield 12, [6, 0, 34]), (44, .iload_n 1, []), (45, .iload_n 2, []), (46, .invokevirtual 200, [41, 0, 3, 5, 148, 149, 139, 147, 0, 524]), (49, .ireturn, [])]
def zm_123 : zM := (⟨"Nightjar", "inSession", "(II)I"⟩, prog_1_method_15_code, 3, (Option.some Jvm.ClassFile.FieldType.int), 2, 45)
def zc_123 : List (Nat × Instr × List Nat) := [(0, .aload_n 0, []), (1, .iload_n 1, []), (2, .invokevirtual 203, [44, 0, 1, 6, 409, 410, 118, 408, 0, 407]), (5, .ifCond .ne 13, [18]), (11, .dup, []), (18, .iload_n 2, []), (19, .ifCond .lt 18, [37]), (22, .iload_n 2, []), (23, .aload_n 0, []), (24, .getfield 29, [6, 3, 54]), (27, .getfield 216, [3, 4, 413]), (30, .iload_n 1, []), (31, .invokevirtual 83, [0, 0, 1, 1, 10, 11, 12, 9, 0, 56]), (34, .if_icmp .lt 13, [47]), (40, .dup, []), (47, .aload_n 0, []), (48, .getfield 29, [6, 3, 54]), (51, .iload_n 1, []), (52, .iload_n 2, []), (53, .invokevirtual 229, [83, 0, 2, 3, 527, 528, 61, 526, 0, 525]), (56, .ireturn, [])]
def zm_124 : zM := (⟨"Nightjar", "meanSession", "()D"⟩, prog_1_method_17_code, 1, (Option.some Jvm.ClassFile.FieldType.double), 2, 43)
def zc_124 : List (Nat × Instr × List Nat) := [(0, .aload_n 0, []), (1, .getfield 29, [6, 3, 54]), (4, .getfield 129, [3, 8, 162]), (7, .ifCond .gt 5, [12]), (10, .dconst 0, []), (11, .dreturn, []), (12, .aload_n 0, []), (13, .getfield 29, [6, 3, 54]), (16, .invokevirtual 235, [86, 0, 0, 3, 531, 532, 61, 530, 0, 529]), (19, .i2d, []), (20, .aload_n 0, []), (21, .getfield 29, [6, 3, 54]), (24, .getfield 129, [3, 8, 162]), (27, .i2d, []), (28, .ddiv, []), (29, .dreturn, [])]
def zm_125 : zM := (⟨"Nightjar", "count", "(II)I"⟩, prog_1_method_18_code, 3, (Option.some Jvm.ClassFile.FieldType.int), 2, 48)
def zc_125 : List (Nat × Instr × List Nat) := [(0, .aload_n 0, []), (1, .iload_n 1, []), (2, .invokevirtual 167, [10, 0, 1, 6, 382, 383, 118, 381, 0, 380]), (5, .ifCond .ne 13, [18]), (11, .dup, []), (18, .iload_n 2, []), (19, .ifCond .ge 13, [32]), (25, .dup, []), (32, .aload_n 0, []), (33, .getfield 12, [6, 0, 34]), (36, .iload_n 1, []), (37, .iload_n 2, []), (38, .iload_n 2, []), (39, .aload_n 0, []), (40, .getfield 52, [6, 6, 55]), (43, .iconst 2, []), (44, .invokevirtual 83, [0, 0, 1, 1, 10, 11, 12, 9, 0, 56]), (47, .invokevirtual 240, [33, 0, 4, 0, 351, 352, 53, 350, 0, 533]), (50, .ireturn, [])]
def zm_126 : zM := (⟨"Nightjar", "templatesWith", "(I)I"⟩, prog_1_method_23_code, 3, (Option.some Jvm.ClassFile.FieldType.int), 5, 120)
def zc_126 : List (Nat × Instr × List Nat) := [(0, .iload_n 1, []), (1, .bipush 100, []), (3, .invokestatic 60, [5, 1, 2, 0, 361, 0, 118, 360, 0, 359]), (6, .ifCond .ne 14, [20]), (12, .dup, []), (20, .aload_n 0, []), (21, .getfield 23, [6, 2, 487]), (24, .iconst 0, []), (25, .putfield 126, [5, 2, 0, 14]), (28, .iconst 0, []), (29, .istore_n 2, []), (30, .iload_n 2, []), (31, .aload_n 0, []), (32, .getfield 12, [6, 0, 34]), (35, .getfield 71, [0, 7, 35]), (38, .if_icmp .ge 23, [61]), (41, .aload_n 0, []), (42, .getfield 23, [6, 2, 487]), (45, .aload_n 0, []), (46, .getfield 12, [6, 0, 34]), (49, .iload_n 2, []), (50, .iload_n 1, []), (51, .invokevirtual 115, [43, 0, 3, 5, 517, 518, 139, 516, 0, 515]), (54, .pop, []), (55, .iinc 2 1, []), (58, .goto (-28), [30]), (61, .aload_n 0, []), (62, .getfield 23, [6, 2, 487]), (65, .getfield 126, [5, 2, 14]), (68, .ireturn, [])]
def zm_127 : zM := (⟨"Nightjar", "sessionsWith", "(I)I"⟩, prog_1_method_24_code, 4, (Option.some Jvm.ClassFile.FieldType.int), 2, 44)
def zc_127 : List (Nat × Instr × List Nat) := [(0, .iload_n 1, []), (1, .sipush 1000, []), (4, .invokestatic 60, [5, 1, 2, 0, 361, 0, 118, 360, 0, 359]), (7, .ifCond .ne 14, [21]), (13, .dup, []), (21, .iconst 0, []), (22, .istore_n 2, []), (23, .iconst 0, []), (24, .istore_n 3, []), (25, .iload_n 3, []), (26, .aload_n 0, []), (27, .getfield 12, [6, 0, 34]), (30, .getfield 71, [0, 7, 35]), (33, .if_icmp .ge 39, [72]), (36, .aload_n 0, []), (37, .getfield 12, [6, 0, 34]), (40, .getfield 152, [0, 6, 376]), (43, .iload_n 3, []), (44, .invokevirtual 83, [0, 0, 1, 1, 10, 11, 12, 9, 0, 56]), (47, .ifCond .lt 19, [66]), (50, .aload_n 0, []), (51, .getfield 12, [6, 0, 34]), (54, .iload_n 3, []), (55, .iload_n 1, []), (56, .invokevirtual 282, [34, 0, 2, 0, 305, 306, 53, 304, 0, 534]), (59, .iconst (-1), []), (60, .if_icmp .ne 6, [66]), (63, .iinc 2 1, []), (66, .iinc 3 1, []), (69, .goto (-44), [25]), (72, .iload_n 2, []), (73, .ireturn, [])]
def zm_128 : zM := (⟨"Nightjar", "wouldBe", "(I)I"⟩, prog_1_method_25_code, 2, (Option.some Jvm.ClassFile.FieldType.int), 4, 96)
def zc_128 : List (Nat × Instr × List Nat) := [(0, .aload_n 0, []), (1, .iload_n 1, []), (2, .invokevirtual 135, [17, 0, 1, 6, 369, 370, 118, 368, 0, 367]), (5, .ifCond .ne 13, [18]), (11, .dup, []), (18, .iload_n 1, []), (19, .aload_n 0, []), (20, .getfield 12, [6, 0, 34]), (23, .getfield 101, [0, 8, 81]), (26, .if_icmp .ge 14, [40]), (32, .dup, []), (40, .aload_n 0, []), (41, .getfield 19, [6, 1, 13]), (44, .aload_n 0, []), (45, .getfield 12, [6, 0, 34]), (48, .iload_n 1, []), (49, .aload_n 0, []), (50, .getfield 52, [6, 6, 55]), (53, .iconst 0, []), (54, .invokevirtual 83, [0, 0, 1, 1, 10, 11, 12, 9, 0, 56]), (57, .invokevirtual 287, [42, 0, 3, 5, 152, 153, 139, 151, 0, 535]), (60, .ireturn, [])]
def zm_129 : zM := (⟨"Nightjar", "digest", "()J"⟩, prog_1_method_26_code, 5, (Option.some Jvm.ClassFile.FieldType.long), 6, 143)
def zc_129 : List (Nat × Instr × List Nat) := [(0, .ldc2_w 290, [58085, 536]), (3, .lstore_n 1, []), (4, .iconst 0, []), (5, .istore_n 3, []), (6, .iload_n 3, []), (7, .iconst 5, []), (8, .if_icmp .gt 19, [27]), (11, .lload_n 1, []), (12, .aload_n 0, []), (13, .iload_n 3, []), (14, .invokevirtual 292, [94, 0, 1, 6, 539, 540, 118, 538, 0, 537]), (17, .invokestatic 295, [6, 1, 2, 0, 442, 0, 118, 441, 0, 440]), (20, .lstore_n 1, []), (21, .iinc 3 1, []), (24, .goto (-18), [6]), (27, .iconst 0, []), (28, .istore_n 3, []), (29, .iload_n 3, []), (30, .aload_n 0, []), (31, .getfield 12, [6, 0, 34]), (34, .getfield 71, [0, 7, 35]), (37, .if_icmp .ge 16, [53]), (40, .aload_n 0, []), (41, .lload_n 1, []), (42, .iload_n 3, []), (43, .invokevirtual 299, [105, 0, 2, 6, 543, 544, 118, 542, 0, 541]), (46, .lstore_n 1, []), (47, .iinc 3 1, []), (50, .goto (-21), [29]), (53, .iconst 0, []), (54, .istore_n 3, []), (55, .iload_n 3, []), (56, .aload_n 0, []), (57, .getfield 19, [6, 1, 13]), (60, .getfield 126, [5, 2, 14]), (63, .if_icmp .ge 16, [79]), (66, .aload_n 0, []), (67, .lload_n 1, []), (68, .iload_n 3, []), (69, .invokevirtual 302, [106, 0, 2, 6, 547, 548, 118, 546, 0, 545]), (72, .lstore_n 1, []), (73, .iinc 3 1, []), (76, .goto (-21), [55]), (79, .iconst 0, []), (80, .istore_n 3, []), (81, .iload_n 3, []), (82, .aload_n 0, []), (83, .getfield 29, [6, 3, 54]), (86, .getfield 129, [3, 8, 162]), (89, .if_icmp .ge 37, [126]), (92, .iconst 0, []), (93, .istore 4, []), (95, .iload 4, []), (97, .bipush 6, []), (99, .if_icmp .gt 21, [120]), (102, .lload_n 1, []), (103, .aload_n 0, []), (104, .iload_n 3, []), (105, .iload 4, []), (107, .invokevirtual 305, [99, 0, 2, 6, 551, 552, 118, 550, 0, 549]), (110, .invokestatic 295, [6, 1, 2, 0, 442, 0, 118, 441, 0, 440]), (113, .lstore_n 1, []), (114, .iinc 4 1, []), (117, .goto (-22), [95]), (120, .iinc 3 1, []), (123, .goto (-42), [81]), (126, .lload_n 1, []), (127, .aload_n 0, []), (128, .invokevirtual 308, [100, 0, 0, 6, 555, 556, 118, 554, 0, 553]), (131, .invokestatic 295, [6, 1, 2, 0, 442, 0, 118, 441, 0, 440]), (134, .lstore_n 1, []), (135, .iconst 0, []), (136, .istore_n 3, []), (137, .iload_n 3, []), (138, .aload_n 0, []), (139, .getfield 36, [6, 4, 66]), (142, .getfield 134, [4, 4, 366]), (145, .if_icmp .ge 36, [181]), (148, .iconst 0, []), (149, .istore 4, []), (151, .iload 4, []), (153, .iconst 2, []), (154, .if_icmp .gt 21, [175]), (157, .lload_n 1, []), (158, .aload_n 0, []), (159, .iload_n 3, []), (160, .iload 4, []), (162, .invokevirtual 311, [101, 0, 2, 6, 559, 560, 118, 558, 0, 557]), (165, .invokestatic 295, [6, 1, 2, 0, 442, 0, 118, 441, 0, 440]), (168, .lstore_n 1, []), (169, .iinc 4 1, []), (172, .goto (-21), [151]), (175, .iinc 3 1, []), (178, .goto (-41), [137]), (181, .lload_n 1, []), (182, .lreturn, [])]
def zm_130 : zM := (⟨"NightjarModel", "<init>", "()V"⟩, prog_9_method_1_code, 1, (Option.none : Option Jvm.ClassFile.FieldType), 1, 20)
def zc_130 : List (Nat × Instr × List Nat) := [(0, .aload_n 0, []), (1, .invokespecial 1, [0, 5, 561, 3, 4]), (4, .aload_n 0, []), (5, .bipush 70, []), (7, .newarray .int, [0, 5]), (9, .putfield 9, [7, 2, 1, 109]), (12, .aload_n 0, []), (13, .bipush 70, []), (15, .newarray .int, [0, 5]), (17, .putfield 13, [7, 3, 1, 189]), (20, .aload_n 0, []), (21, .bipush 70, []), (23, .newarray .int, [0, 5]), (25, .putfield 16, [7, 4, 1, 195]), (28, .aload_n 0, []), (29, .bipush 70, []), (31, .newarray .int, [0, 5]), (33, .putfield 19, [7, 5, 1, 86]), (36, .aload_n 0, []), (37, .sipush 560, []), (40, .newarray .int, [0, 5]), (42, .putfield 22, [7, 6, 1, 26]), (45, .aload_n 0, []), (46, .iconst 4, []), (47, .newarray .int, [0, 5]), (49, .dup, []), (50, .iconst 0, []), (51, .bipush 50, []), (53, .iastore, []), (54, .dup, []), (55, .iconst 1, []), (56, .bipush 30, []), (58, .iastore, []), (59, .dup, []), (60, .iconst 2, []), (61, .bipush 10, []), (63, .iastore, []), (64, .dup, []), (65, .iconst 3, []), (66, .bipush 20, []), (68, .iastore, []), (69, .putfield 25, [7, 7, 1, 27]), (72, .aload_n 0, []), (73, .bipush 70, []), (75, .newarray .int, [0, 5]), (77, .putfield 28, [7, 9, 1, 38]), (80, .aload_n 0, []), (81, .bipush 20, []), (83, .newarray .int, [0, 5]), (85, .putfield 31, [7, 11, 1, 24]), (88, .aload_n 0, []), (89, .sipush 160, []), (92, .newarray .int, [0, 5]), (94, .putfield 34, [7, 12, 1, 25]), (97, .aload_n 0, []), (98, .bipush 70, []), (100, .newarray .int, [0, 5]), (102, .putfield 37, [7, 14, 1, 96]), (105, .aload_n 0, []), (106, .bipush 70, []), (108, .newarray .int, [0, 5]), (110, .putfield 40, [7, 15, 1, 168]), (113, .aload_n 0, []), (114, .bipush 70, []), (116, .newarray .int, [0, 5]), (118, .putfield 43, [7, 16, 1, 169]), (121, .aload_n 0, []), (122, .bipush 70, []), (124, .newarray .int, [0, 5]), (126, .putfield 46, [7, 18, 1, 175]), (129, .aload_n 0, []), (130, .bipush 70, []), (132, .newarray .int, [0, 5]), (134, .putfield 49, [7, 19, 1, 176]), (137, .aload_n 0, []), (138, .bipush 80, []), (140, .newarray .int, [0, 5]), (142, .putfield 52, [7, 21, 1, 194]), (145, .return_, [])]
def zm_131 : zM := (⟨"NightjarModel", "thrown", "()I"⟩, prog_9_method_2_code, 1, (Option.some Jvm.ClassFile.FieldType.int), 0, 0)
def zc_131 : List (Nat × Instr × List Nat) := [(0, .aload_n 0, []), (1, .getfield 55, [7, 0, 1]), (4, .ireturn, [])]
def zm_132 : zM := (⟨"NightjarModel", "line", "(III)I"⟩, prog_9_method_7_code, 4, (Option.some Jvm.ClassFile.FieldType.int), 1, 22)
def zc_132 : List (Nat × Instr × List Nat) := [(0, .aload_n 0, []), (1, .iconst 0, []), (2, .putfield 55, [7, 0, 0, 1]), (5, .iload_n 1, []), (6, .iconst 0, []), (7, .sipush 9999, []), (10, .invokestatic 62, [4, 1, 3, 0, 18, 0, 19, 17, 0, 16]), (13, .ifCond .eq 22, [35]), (16, .iload_n 2, []), (17, .iconst 0, []), (18, .bipush 7, []), (20, .invokestatic 62, [4, 1, 3, 0, 18, 0, 19, 17, 0, 16]), (23, .ifCond .eq 12, [35]), (26, .iload_n 3, []), (27, .iconst 0, []), (28, .iconst 3, []), (29, .invokestatic 62, [4, 1, 3, 0, 18, 0, 19, 17, 0, 16]), (32, .ifCond .ne 9, [41]), (35, .aload_n 0, []), (36, .iconst 1, []), (37, .invokevirtual 69, [2, 0, 1, 7, 564, 565, 19, 563, 0, 562]), (40, .ireturn, []), (41, .aload_n 0, []), (42, .getfield 59, [7, 1, 36]), (45, .bipush 70, []), (47, .if_icmp .eq 25, [72]), (50, .aload_n 0, []), (51, .getfield 59, [7, 1, 36]), (54, .ifCond .le 24, [78]), (57, .iload_n 1, []), (58, .aload_n 0, []), (59, .getfield 9, [7, 2, 109]), (62, .aload_n 0, []), (63, .getfield 59, [7, 1, 36]), (66, .iconst 1, []), (67, .isub, []), (68, .iaload, []), (69, .if_icmp .ge 9, [78]), (72, .aload_n 0, []), (73, .iconst 2, []), (74, .invokevirtual 69, [2, 0, 1, 7, 564, 565, 19, 563, 0, 562]), (77, .ireturn, []), (78, .aload_n 0, []), (79, .getfield 9, [7, 2, 109]), (82, .aload_n 0, []), (83, .getfield 59, [7, 1, 36]), (86, .iload_n 1, []), (87, .iastore, []), (88, .aload_n 0, []), (89, .getfield 13, [7, 3, 189]), (92, .aload_n 0, []), (93, .getfield 59, [7, 1, 36]), (96, .iload_n 2, []), (97, .iastore, []), (98, .aload_n 0, []), (99, .getfield 16, [7, 4, 195]), (102, .aload_n 0, []), (103, .getfield 59, [7, 1, 36]), (106, .iload_n 3, []), (107, .iastore, []), (108, .aload_n 0, []), (109, .dup, []), (110, .getfield 59, [7, 1, 36]), (113, .dup_x1, []), (114, .iconst 1, []), (115, .iadd, []), (116, .putfield 59, [7, 1, 0, 36]), (119, .ireturn, [])]
def zm_133 : zM := (⟨"NightjarModel", "word", "(I)I"⟩, prog_9_method_8_code, 2, (Option.some Jvm.ClassFile.FieldType.int), 1, 22)
def zc_133 : List (Nat × Instr × List Nat) := [(0, .aload_n 0, []), (1, .iconst 0, []), (2, .putfield 55, [7, 0, 0, 1]), (5, .iload_n 1, []), (6, .iconst 0, []), (7, .sipush 999, []), (10, .invokestatic 62, [4, 1, 3, 0, 18, 0, 19, 17, 0, 16]), (13, .ifCond .ne 9, [22]), (16, .aload_n 0, []), (17, .iconst 1, []), (18, .invokevirtual 69, [2, 0, 1, 7, 564, 565, 19, 563, 0, 562]), (21, .ireturn, []), (22, .aload_n 0, []), (23, .getfield 59, [7, 1, 36]), (26, .ifCond .eq 30, [56]), (29, .aload_n 0, []), (30, .getfield 19, [7, 5, 86]), (33, .aload_n 0, []), (34, .getfield 59, [7, 1, 36]), (37, .iconst 1, []), (38, .isub, []), (39, .iaload, []), (40, .bipush 8, []), (42, .if_icmp .eq 14, [56]), (45, .aload_n 0, []), (46, .getfield 73, [7, 8, 37]), (49, .aload_n 0, []), (50, .getfield 59, [7, 1, 36]), (53, .if_icmp .ne 9, [62]), (56, .aload_n 0, []), (57, .iconst 2, []), (58, .invokevirtual 69, [2, 0, 1, 7, 564, 565, 19, 563, 0, 562]), (61, .ireturn, []), (62, .aload_n 0, []), (63, .getfield 22, [7, 6, 26]), (66, .aload_n 0, []), (67, .getfield 59, [7, 1, 36]), (70, .iconst 1, []), (71, .isub, []), (72, .bipush 8, []), (74, .imul, []), (75, .aload_n 0, []), (76, .getfield 19, [7, 5, 86]), (79, .aload_n 0, []), (80, .getfield 59, [7, 1, 36]), (83, .iconst 1, []), (84, .isub, []), (85, .iaload, []), (86, .iadd, []), (87, .iload_n 1, []), (88, .iastore, []), (89, .aload_n 0, []), (90, .getfield 19, [7, 5, 86]), (93, .aload_n 0, []), (94, .getfield 59, [7, 1, 36]), (97, .iconst 1, []), (98, .isub, []), (99, .dup2, []), (100, .iaload, []), (101, .iconst 1, []), (102, .iadd, []), (103, .dup_x2, []), (104, .iastore, []), (105, .ireturn, [])]
def zm_134 : zM := (⟨"NightjarModel", "learn", "(I)I"⟩, prog_9_method_14_code, 3, (Option.some Jvm.ClassFile.FieldType.int), 3, 113)
def zc_134 : List (Nat × Instr × List Nat) := [(0, .aload_n 0, []), (1, .iconst 0, []), (2, .putfield 55, [7, 0, 0, 1]), (5, .iload_n 1, []), (6, .iconst 1, []), (7, .bipush 70, []), (9, .invokestatic 62, [4, 1, 3, 0, 18, 0, 19, 17, 0, 16]), (12, .ifCond .ne 9, [21]), (15, .aload_n 0, []), (16, .iconst 1, []), (17, .invokevirtual 69, [2, 0, 1, 7, 564, 565, 19, 563, 0, 562]), (20, .ireturn, []), (21, .aload_n 0, []), (22, .getfield 73, [7, 8, 37]), (25, .istore_n 2, []), (26, .aload_n 0, []), (27, .getfield 73, [7, 8, 37]), (30, .aload_n 0, []), (31, .getfield 59, [7, 1, 36]), (34, .if_icmp .ge 40, [74]), (37, .aload_n 0, []), (38, .getfield 73, [7, 8, 37]), (41, .iload_n 2, []), (42, .isub, []), (43, .iload_n 1, []), (44, .if_icmp .ge 30, [74]), (47, .aload_n 0, []), (48, .aload_n 0, []), (49, .getfield 73, [7, 8, 37]), (52, .aload_n 0, []), (53, .getfield 25, [7, 7, 27]), (56, .iconst 0, []), (57, .iaload, []), (58, .invokevirtual 92, [29, 0, 2, 7, 568, 569, 19, 567, 0, 566]), (61, .aload_n 0, []), (62, .dup, []), (63, .getfield 73, [7, 8, 37]), (66, .iconst 1, []), (67, .iadd, []), (68, .putfield 73, [7, 8, 0, 37]), (71, .goto (-45), [26]), (74, .aload_n 0, []), (75, .getfield 73, [7, 8, 37]), (78, .iload_n 2, []), (79, .isub, []), (80, .ireturn, [])]
def zm_135 : zM := (⟨"NightjarModel", "set", "(II)I"⟩, prog_9_method_15_code, 4, (Option.some Jvm.ClassFile.FieldType.int), 1, 22)
def zc_135 : List (Nat × Instr × List Nat) := [(0, .aload_n 0, []), (1, .iconst 0, []), (2, .putfield 55, [7, 0, 0, 1]), (5, .iload_n 1, []), (6, .iconst 0, []), (7, .iconst 3, []), (8, .invokestatic 62, [4, 1, 3, 0, 18, 0, 19, 17, 0, 16]), (11, .ifCond .eq 32, [43]), (14, .iload_n 2, []), (15, .iload_n 1, []), (16, .iconst 2, []), (17, .if_icmp .ne 7, [24]), (20, .iconst 1, []), (21, .goto 4, [25]), (24, .iconst 0, []), (25, .iload_n 1, []), (26, .ifCond .ne 8, [34]), (29, .bipush 100, []), (31, .goto 6, [37]), (34, .sipush 1000, []), (37, .invokestatic 62, [4, 1, 3, 0, 18, 0, 19, 17, 0, 16]), (40, .ifCond .ne 9, [49]), (43, .aload_n 0, []), (44, .iconst 1, []), (45, .invokevirtual 69, [2, 0, 1, 7, 564, 565, 19, 563, 0, 562]), (48, .ireturn, []), (49, .aload_n 0, []), (50, .getfield 25, [7, 7, 27]), (53, .iload_n 1, []), (54, .iaload, []), (55, .istore_n 3, []), (56, .aload_n 0, []), (57, .getfield 25, [7, 7, 27]), (60, .iload_n 1, []), (61, .iload_n 2, []), (62, .iastore, []), (63, .iload_n 3, []), (64, .ireturn, [])]
def zm_136 : zM := (⟨"NightjarModel", "forget", "()I"⟩, prog_9_method_16_code, 2, (Option.some Jvm.ClassFile.FieldType.int), 0, 0)
def zc_136 : List (Nat × Instr × List Nat) := [(0, .aload_n 0, []), (1, .iconst 0, []), (2, .putfield 55, [7, 0, 0, 1]), (5, .aload_n 0, []), (6, .getfield 73, [7, 8, 37]), (9, .istore_n 1, []), (10, .aload_n 0, []), (11, .iconst 0, []), (12, .putfield 73, [7, 8, 0, 37]), (15, .aload_n 0, []), (16, .iconst 0, []), (17, .putfield 66, [7, 10, 0, 15]), (20, .iload_n 1, []), (21, .ireturn, [])]
def zm_137 : zM := (⟨"NightjarModel", "many", "(I)I"⟩, prog_9_method_27_code, 2, (Option.some Jvm.ClassFile.FieldType.int), 5, 108)
def zc_137 : List (Nat × Instr × List Nat) := [(0, .aload_n 0, []), (1, .iconst 0, []), (2, .putfield 55, [7, 0, 0, 1]), (5, .aload_n 0, []), (6, .invokevirtual 126, [48, 0, 0, 7, 572, 573, 19, 571, 0, 570]), (9, .iload_n 1, []), (10, .iconst 0, []), (11, .iconst 5, []), (12, .invokestatic 62, [4, 1, 3, 0, 18, 0, 19, 17, 0, 16]), (15, .ifCond .eq 11, [26]), (18, .aload_n 0, []), (19, .iload_n 1, []), (20, .invokevirtual 129, [47, 0, 1, 7, 576, 577, 19, 575, 0, 574]), (23, .goto 8, [31]), (26, .aload_n 0, []), (27, .iconst 1, []), (28, .invokevirtual 69, [2, 0, 1, 7, 564, 565, 19, 563, 0, 562]), (31, .ireturn, [])]
def zm_138 : zM := (⟨"NightjarModel", "ofLine", "(II)I"⟩, prog_9_method_35_code, 3, (Option.some Jvm.ClassFile.FieldType.int), 5, 111)
def zc_138 : List (Nat × Instr × List Nat) := [(0, .aload_n 0, []), (1, .iconst 0, []), (2, .putfield 55, [7, 0, 0, 1]), (5, .aload_n 0, []), (6, .iload_n 1, []), (7, .invokevirtual 153, [18, 0, 1, 7, 580, 581, 19, 579, 0, 578]), (10, .ifCond .ne 9, [19]), (13, .aload_n 0, []), (14, .iconst 1, []), (15, .invokevirtual 69, [2, 0, 1, 7, 564, 565, 19, 563, 0, 562]), (18, .ireturn, []), (19, .iload_n 2, []), (20, .iconst 0, []), (21, .bipush 8, []), (23, .invokestatic 62, [4, 1, 3, 0, 18, 0, 19, 17, 0, 16]), (26, .ifCond .ne 9, [35]), (29, .aload_n 0, []), (30, .iconst 2, []), (31, .invokevirtual 69, [2, 0, 1, 7, 564, 565, 19, 563, 0, 562]), (34, .ireturn, []), (35, .aload_n 0, []), (36, .invokevirtual 121, [14, 0, 0, 7, 183, 184, 19, 182, 0, 181]), (39, .aload_n 0, []), (40, .iload_n 1, []), (41, .iload_n 2, []), (42, .invokevirtual 156, [51, 0, 2, 7, 584, 585, 19, 583, 0, 582]), (45, .ireturn, [])]
def zm_139 : zM := (⟨"NightjarModel", "wordAt", "(II)I"⟩, prog_9_method_36_code, 3, (Option.some Jvm.ClassFile.FieldType.int), 2, 43)
def zc_139 : List (Nat × Instr × List Nat) := [(0, .aload_n 0, []), (1, .iconst 0, []), (2, .putfield 55, [7, 0, 0, 1]), (5, .aload_n 0, []), (6, .iload_n 1, []), (7, .invokevirtual 153, [18, 0, 1, 7, 580, 581, 19, 579, 0, 578]), (10, .ifCond .eq 33, [43]), (13, .iload_n 2, []), (14, .iconst 0, []), (15, .aload_n 0, []), (16, .getfield 19, [7, 5, 86]), (19, .iload_n 1, []), (20, .iaload, []), (21, .iconst 1, []), (22, .isub, []), (23, .invokestatic 62, [4, 1, 3, 0, 18, 0, 19, 17, 0, 16]), (26, .ifCond .eq 17, [43]), (29, .aload_n 0, []), (30, .getfield 22, [7, 6, 26]), (33, .iload_n 1, []), (34, .bipush 8, []), (36, .imul, []), (37, .iload_n 2, []), (38, .iadd, []), (39, .iaload, []), (40, .goto 8, [48]), (43, .aload_n 0, []), (44, .iconst 1, []), (45, .invokevirtual 69, [2, 0, 1, 7, 564, 565, 19, 563, 0, 562]), (48, .ireturn, [])]
def zm_140 : zM := (⟨"NightjarModel", "ofTemplate", "(II)I"⟩, prog_9_method_38_code, 3, (Option.some Jvm.ClassFile.FieldType.int), 2, 49)
def zc_140 : List (Nat × Instr × List Nat) := [(0, .aload_n 0, []), (1, .iconst 0, []), (2, .putfield 55, [7, 0, 0, 1]), (5, .aload_n 0, []), (6, .iload_n 1, []), (7, .invokevirtual 167, [11, 0, 1, 7, 588, 589, 19, 587, 0, 586]), (10, .ifCond .ne 9, [19]), (13, .aload_n 0, []), (14, .iconst 1, []), (15, .invokevirtual 69, [2, 0, 1, 7, 564, 565, 19, 563, 0, 562]), (18, .ireturn, []), (19, .iload_n 2, []), (20, .iconst 0, []), (21, .iconst 4, []), (22, .invokestatic 62, [4, 1, 3, 0, 18, 0, 19, 17, 0, 16]), (25, .ifCond .eq 12, [37]), (28, .aload_n 0, []), (29, .iload_n 1, []), (30, .iload_n 2, []), (31, .invokevirtual 170, [52, 0, 2, 7, 592, 593, 19, 591, 0, 590]), (34, .goto 8, [42]), (37, .aload_n 0, []), (38, .iconst 2, []), (39, .invokevirtual 69, [2, 0, 1, 7, 564, 565, 19, 563, 0, 562]), (42, .ireturn, [])]
def zm_141 : zM := (⟨"NightjarModel", "slot", "(II)I"⟩, prog_9_method_39_code, 3, (Option.some Jvm.ClassFile.FieldType.int), 2, 43)
def zc_141 : List (Nat × Instr × List Nat) := [(0, .aload_n 0, []), (1, .iconst 0, []), (2, .putfield 55, [7, 0, 0, 1]), (5, .aload_n 0, []), (6, .iload_n 1, []), (7, .invokevirtual 167, [11, 0, 1, 7, 588, 589, 19, 587, 0, 586]), (10, .ifCond .eq 33, [43]), (13, .iload_n 2, []), (14, .iconst 0, []), (15, .aload_n 0, []), (16, .getfield 31, [7, 11, 24]), (19, .iload_n 1, []), (20, .iaload, []), (21, .iconst 1, []), (22, .isub, []), (23, .invokestatic 62, [4, 1, 3, 0, 18, 0, 19, 17, 0, 16]), (26, .ifCond .eq 17, [43]), (29, .aload_n 0, []), (30, .getfield 34, [7, 12, 25]), (33, .iload_n 1, []), (34, .bipush 8, []), (36, .imul, []), (37, .iload_n 2, []), (38, .iadd, []), (39, .iaload, []), (40, .goto 8, [48]), (43, .aload_n 0, []), (44, .iconst 1, []), (45, .invokevirtual 69, [2, 0, 1, 7, 564, 565, 19, 563, 0, 562]), (48, .ireturn, [])]
def zm_142 : zM := (⟨"NightjarModel", "values", "(II)I"⟩, prog_9_method_42_code, 3, (Option.some Jvm.ClassFile.FieldType.int), 2, 50)
def zc_142 : List (Nat × Instr × List Nat) := [(0, .aload_n 0, []), (1, .iconst 0, []), (2, .putfield 55, [7, 0, 0, 1]), (5, .aload_n 0, []), (6, .iload_n 1, []), (7, .invokevirtual 167, [11, 0, 1, 7, 588, 589, 19, 587, 0, 586]), (10, .ifCond .eq 27, [37]), (13, .iload_n 2, []), (14, .iconst 0, []), (15, .aload_n 0, []), (16, .iload_n 1, []), (17, .invokevirtual 159, [30, 0, 1, 7, 202, 203, 19, 201, 0, 200]), (20, .iconst 1, []), (21, .isub, []), (22, .invokestatic 62, [4, 1, 3, 0, 18, 0, 19, 17, 0, 16]), (25, .ifCond .eq 12, [37]), (28, .aload_n 0, []), (29, .iload_n 1, []), (30, .iload_n 2, []), (31, .invokevirtual 176, [53, 0, 2, 7, 596, 597, 19, 595, 0, 594]), (34, .goto 8, [42]), (37, .aload_n 0, []), (38, .iconst 1, []), (39, .invokevirtual 69, [2, 0, 1, 7, 564, 565, 19, 563, 0, 562]), (42, .ireturn, [])]
def zm_143 : zM := (⟨"NightjarModel", "alike", "(II)I"⟩, prog_9_method_43_code, 3, (Option.some Jvm.ClassFile.FieldType.int), 2, 43)
def zc_143 : List (Nat × Instr × List Nat) := [(0, .aload_n 0, []), (1, .iconst 0, []), (2, .putfield 55, [7, 0, 0, 1]), (5, .aload_n 0, []), (6, .iload_n 1, []), (7, .invokevirtual 153, [18, 0, 1, 7, 580, 581, 19, 579, 0, 578]), (10, .ifCond .eq 11, [21]), (13, .aload_n 0, []), (14, .iload_n 2, []), (15, .invokevirtual 167, [11, 0, 1, 7, 588, 589, 19, 587, 0, 586]), (18, .ifCond .ne 9, [27]), (21, .aload_n 0, []), (22, .iconst 1, []), (23, .invokevirtual 69, [2, 0, 1, 7, 564, 565, 19, 563, 0, 562]), (26, .ireturn, []), (27, .aload_n 0, []), (28, .getfield 31, [7, 11, 24]), (31, .iload_n 2, []), (32, .iaload, []), (33, .aload_n 0, []), (34, .getfield 19, [7, 5, 86]), (37, .iload_n 1, []), (38, .iaload, []), (39, .if_icmp .ne 12, [51]), (42, .aload_n 0, []), (43, .iload_n 1, []), (44, .iload_n 2, []), (45, .invokevirtual 76, [22, 0, 2, 7, 469, 470, 19, 468, 0, 467]), (48, .goto 4, [52]), (51, .iconst (-1), []), (52, .ireturn, [])]
def zm_144 : zM := (⟨"NightjarModel", "ofSession", "(II)I"⟩, prog_9_method_48_code, 3, (Option.some Jvm.ClassFile.FieldType.int), 4, 96)
def zc_144 : List (Nat × Instr × List Nat) := [(0, .aload_n 0, []), (1, .iconst 0, []), (2, .putfield 55, [7, 0, 0, 1]), (5, .aload_n 0, []), (6, .invokevirtual 121, [14, 0, 0, 7, 183, 184, 19, 182, 0, 181]), (9, .iload_n 1, []), (10, .iconst 0, []), (11, .aload_n 0, []), (12, .getfield 99, [7, 13, 163]), (15, .iconst 1, []), (16, .isub, []), (17, .invokestatic 62, [4, 1, 3, 0, 18, 0, 19, 17, 0, 16]), (20, .ifCond .ne 9, [29]), (23, .aload_n 0, []), (24, .iconst 1, []), (25, .invokevirtual 69, [2, 0, 1, 7, 564, 565, 19, 563, 0, 562]), (28, .ireturn, []), (29, .iload_n 2, []), (30, .iconst 0, []), (31, .bipush 6, []), (33, .invokestatic 62, [4, 1, 3, 0, 18, 0, 19, 17, 0, 16]), (36, .ifCond .eq 12, [48]), (39, .aload_n 0, []), (40, .iload_n 1, []), (41, .iload_n 2, []), (42, .invokevirtual 188, [55, 0, 2, 7, 600, 601, 19, 599, 0, 598]), (45, .goto 8, [53]), (48, .aload_n 0, []), (49, .iconst 2, []), (50, .invokevirtual 69, [2, 0, 1, 7, 564, 565, 19, 563, 0, 562]), (53, .ireturn, [])]
def zm_145 : zM := (⟨"NightjarModel", "inSession", "(II)I"⟩, prog_9_method_49_code, 5, (Option.some Jvm.ClassFile.FieldType.int), 4, 88)
def zc_145 : List (Nat × Instr × List Nat) := [(0, .aload_n 0, []), (1, .iconst 0, []), (2, .putfield 55, [7, 0, 0, 1]), (5, .aload_n 0, []), (6, .invokevirtual 121, [14, 0, 0, 7, 183, 184, 19, 182, 0, 181]), (9, .iload_n 1, []), (10, .iconst 0, []), (11, .aload_n 0, []), (12, .getfield 99, [7, 13, 163]), (15, .iconst 1, []), (16, .isub, []), (17, .invokestatic 62, [4, 1, 3, 0, 18, 0, 19, 17, 0, 16]), (20, .ifCond .eq 7, [27]), (23, .iload_n 2, []), (24, .ifCond .ge 9, [33]), (27, .aload_n 0, []), (28, .iconst 1, []), (29, .invokevirtual 69, [2, 0, 1, 7, 564, 565, 19, 563, 0, 562]), (32, .ireturn, []), (33, .aload_n 0, []), (34, .iload_n 1, []), (35, .iconst (-1), []), (36, .invokevirtual 179, [25, 0, 2, 7, 473, 474, 19, 472, 0, 471]), (39, .istore_n 3, []), (40, .iconst 0, []), (41, .istore 4, []), (43, .iload 4, []), (45, .iload_n 2, []), (46, .if_icmp .ge 21, [67]), (49, .iload_n 3, []), (50, .iconst (-1), []), (51, .if_icmp .eq 16, [67]), (54, .aload_n 0, []), (55, .iload_n 1, []), (56, .iload_n 3, []), (57, .invokevirtual 179, [25, 0, 2, 7, 473, 474, 19, 472, 0, 471]), (60, .istore_n 3, []), (61, .iinc 4 1, []), (64, .goto (-21), [43]), (67, .iload_n 3, []), (68, .iconst (-1), []), (69, .if_icmp .ne 11, [80]), (72, .aload_n 0, []), (73, .iconst 1, []), (74, .invokevirtual 69, [2, 0, 1, 7, 564, 565, 19, 563, 0, 562]), (77, .goto 4, [81]), (80, .iload_n 3, []), (81, .ireturn, [])]
def zm_146 : zM := (⟨"NightjarModel", "usual", "()I"⟩, prog_9_method_51_code, 1, (Option.some Jvm.ClassFile.FieldType.int), 4, 94)
def zc_146 : List (Nat × Instr × List Nat) := [(0, .aload_n 0, []), (1, .iconst 0, []), (2, .putfield 55, [7, 0, 0, 1]), (5, .aload_n 0, []), (6, .invokevirtual 121, [14, 0, 0, 7, 183, 184, 19, 182, 0, 181]), (9, .aload_n 0, []), (10, .invokevirtual 191, [56, 0, 0, 7, 604, 605, 19, 603, 0, 602]), (13, .ireturn, [])]
def zm_147 : zM := (⟨"NightjarModel", "meanSession", "()D"⟩, prog_9_method_52_code, 3, (Option.some Jvm.ClassFile.FieldType.double), 4, 88)
def zc_147 : List (Nat × Instr × List Nat) := [(0, .aload_n 0, []), (1, .iconst 0, []), (2, .putfield 55, [7, 0, 0, 1]), (5, .aload_n 0, []), (6, .invokevirtual 121, [14, 0, 0, 7, 183, 184, 19, 182, 0, 181]), (9, .iconst 0, []), (10, .istore_n 1, []), (11, .iconst 0, []), (12, .istore_n 2, []), (13, .iload_n 2, []), (14, .aload_n 0, []), (15, .getfield 59, [7, 1, 36]), (18, .if_icmp .ge 27, [45]), (21, .iload_n 1, []), (22, .aload_n 0, []), (23, .getfield 37, [7, 14, 96]), (26, .iload_n 2, []), (27, .iaload, []), (28, .iconst (-1), []), (29, .if_icmp .ne 7, [36]), (32, .iconst 0, []), (33, .goto 4, [37]), (36, .iconst 1, []), (37, .iadd, []), (38, .istore_n 1, []), (39, .iinc 2 1, []), (42, .goto (-29), [13]), (45, .aload_n 0, []), (46, .getfield 99, [7, 13, 163]), (49, .ifCond .ne 7, [56]), (52, .dconst 0, []), (53, .goto 11, [64]), (56, .iload_n 1, []), (57, .i2d, []), (58, .aload_n 0, []), (59, .getfield 99, [7, 13, 163]), (62, .i2d, []), (63, .ddiv, []), (64, .dreturn, [])]
def zm_148 : zM := (⟨"NightjarModel", "count", "(II)I"⟩, prog_9_method_53_code, 3, (Option.some Jvm.ClassFile.FieldType.int), 2, 45)
def zc_148 : List (Nat × Instr × List Nat) := [(0, .aload_n 0, []), (1, .iconst 0, []), (2, .putfield 55, [7, 0, 0, 1]), (5, .aload_n 0, []), (6, .iload_n 1, []), (7, .invokevirtual 167, [11, 0, 1, 7, 588, 589, 19, 587, 0, 586]), (10, .ifCond .ne 9, [19]), (13, .aload_n 0, []), (14, .iconst 1, []), (15, .invokevirtual 69, [2, 0, 1, 7, 564, 565, 19, 563, 0, 562]), (18, .ireturn, []), (19, .iload_n 2, []), (20, .ifCond .ge 11, [31]), (23, .aload_n 0, []), (24, .iconst 2, []), (25, .invokevirtual 69, [2, 0, 1, 7, 564, 565, 19, 563, 0, 562]), (28, .goto 9, [37]), (31, .aload_n 0, []), (32, .iload_n 1, []), (33, .iload_n 2, []), (34, .invokevirtual 114, [19, 0, 2, 7, 173, 174, 19, 172, 0, 171]), (37, .ireturn, [])]
def zm_149 : zM := (⟨"NightjarModel", "spike", "(II)I"⟩, prog_9_method_55_code, 3, (Option.some Jvm.ClassFile.FieldType.int), 3, 71)
def zc_149 : List (Nat × Instr × List Nat) := [(0, .aload_n 0, []), (1, .iconst 0, []), (2, .putfield 55, [7, 0, 0, 1]), (5, .aload_n 0, []), (6, .invokevirtual 123, [46, 0, 0, 7, 187, 188, 19, 186, 0, 185]), (9, .iload_n 1, []), (10, .iconst 0, []), (11, .aload_n 0, []), (12, .getfield 111, [7, 17, 170]), (15, .iconst 1, []), (16, .isub, []), (17, .invokestatic 62, [4, 1, 3, 0, 18, 0, 19, 17, 0, 16]), (20, .ifCond .ne 9, [29]), (23, .aload_n 0, []), (24, .iconst 1, []), (25, .invokevirtual 69, [2, 0, 1, 7, 564, 565, 19, 563, 0, 562]), (28, .ireturn, []), (29, .iload_n 2, []), (30, .iconst 0, []), (31, .iconst 2, []), (32, .invokestatic 62, [4, 1, 3, 0, 18, 0, 19, 17, 0, 16]), (35, .ifCond .eq 12, [47]), (38, .aload_n 0, []), (39, .iload_n 1, []), (40, .iload_n 2, []), (41, .invokevirtual 195, [57, 0, 2, 7, 608, 609, 19, 607, 0, 606]), (44, .goto 8, [52]), (47, .aload_n 0, []), (48, .iconst 2, []), (49, .invokevirtual 69, [2, 0, 1, 7, 564, 565, 19, 563, 0, 562]), (52, .ireturn, [])]
def zm_150 : zM := (⟨"NightjarModel", "causes", "(I)I"⟩, prog_9_method_56_code, 2, (Option.some Jvm.ClassFile.FieldType.int), 5, 120)
def zc_150 : List (Nat × Instr × List Nat) := [(0, .aload_n 0, []), (1, .iconst 0, []), (2, .putfield 55, [7, 0, 0, 1]), (5, .aload_n 0, []), (6, .iload_n 1, []), (7, .invokevirtual 167, [11, 0, 1, 7, 588, 589, 19, 587, 0, 586]), (10, .ifCond .ne 9, [19]), (13, .aload_n 0, []), (14, .iconst 1, []), (15, .invokevirtual 69, [2, 0, 1, 7, 564, 565, 19, 563, 0, 562]), (18, .ireturn, []), (19, .aload_n 0, []), (20, .iload_n 1, []), (21, .invokevirtual 146, [24, 0, 1, 7, 192, 193, 19, 191, 0, 190]), (24, .aload_n 0, []), (25, .getfield 136, [7, 20, 87]), (28, .ireturn, [])]
def zm_151 : zM := (⟨"NightjarModel", "cause", "(III)I"⟩, prog_9_method_57_code, 4, (Option.some Jvm.ClassFile.FieldType.int), 5, 120)
def zc_151 : List (Nat × Instr × List Nat) := [(0, .aload_n 0, []), (1, .iconst 0, []), (2, .putfield 55, [7, 0, 0, 1]), (5, .aload_n 0, []), (6, .iload_n 1, []), (7, .invokevirtual 167, [11, 0, 1, 7, 588, 589, 19, 587, 0, 586]), (10, .ifCond .ne 9, [19]), (13, .aload_n 0, []), (14, .iconst 1, []), (15, .invokevirtual 69, [2, 0, 1, 7, 564, 565, 19, 563, 0, 562]), (18, .ireturn, []), (19, .aload_n 0, []), (20, .iload_n 1, []), (21, .invokevirtual 146, [24, 0, 1, 7, 192, 193, 19, 191, 0, 190]), (24, .iload_n 2, []), (25, .iconst 0, []), (26, .aload_n 0, []), (27, .getfield 136, [7, 20, 87]), (30, .iconst 1, []), (31, .isub, []), (32, .invokestatic 62, [4, 1, 3, 0, 18, 0, 19, 17, 0, 16]), (35, .ifCond .ne 9, [44]), (38, .aload_n 0, []), (39, .iconst 1, []), (40, .invokevirtual 69, [2, 0, 1, 7, 564, 565, 19, 563, 0, 562]), (43, .ireturn, []), (44, .iload_n 3, []), (45, .iconst 0, []), (46, .iconst 3, []), (47, .invokestatic 62, [4, 1, 3, 0, 18, 0, 19, 17, 0, 16]), (50, .ifCond .eq 16, [66]), (53, .aload_n 0, []), (54, .getfield 52, [7, 21, 194]), (57, .iconst 4, []), (58, .iload_n 2, []), (59, .imul, []), (60, .iload_n 3, []), (61, .iadd, []), (62, .iaload, []), (63, .goto 8, [71]), (66, .aload_n 0, []), (67, .iconst 2, []), (68, .invokevirtual 69, [2, 0, 1, 7, 564, 565, 19, 563, 0, 562]), (71, .ireturn, [])]
def zm_152 : zM := (⟨"NightjarModel", "because", "(I)I"⟩, prog_9_method_58_code, 2, (Option.some Jvm.ClassFile.FieldType.int), 6, 143)
def zc_152 : List (Nat × Instr × List Nat) := [(0, .aload_n 0, []), (1, .iconst 0, []), (2, .putfield 55, [7, 0, 0, 1]), (5, .aload_n 0, []), (6, .iload_n 1, []), (7, .invokevirtual 153, [18, 0, 1, 7, 580, 581, 19, 579, 0, 578]), (10, .ifCond .eq 11, [21]), (13, .aload_n 0, []), (14, .iload_n 1, []), (15, .invokevirtual 198, [50, 0, 1, 7, 612, 613, 19, 611, 0, 610]), (18, .goto 8, [26]), (21, .aload_n 0, []), (22, .iconst 1, []), (23, .invokevirtual 69, [2, 0, 1, 7, 564, 565, 19, 563, 0, 562]), (26, .ireturn, [])]
def zm_153 : zM := (⟨"NightjarModel", "templatesWith", "(I)I"⟩, prog_9_method_61_code, 4, (Option.some Jvm.ClassFile.FieldType.int), 3, 113)
def zc_153 : List (Nat × Instr × List Nat) := [(0, .aload_n 0, []), (1, .iconst 0, []), (2, .putfield 55, [7, 0, 0, 1]), (5, .iload_n 1, []), (6, .iconst 0, []), (7, .bipush 100, []), (9, .invokestatic 62, [4, 1, 3, 0, 18, 0, 19, 17, 0, 16]), (12, .ifCond .ne 9, [21]), (15, .aload_n 0, []), (16, .iconst 1, []), (17, .invokevirtual 69, [2, 0, 1, 7, 564, 565, 19, 563, 0, 562]), (20, .ireturn, []), (21, .aload_n 0, []), (22, .iconst 0, []), (23, .invokevirtual 202, [58, 0, 1, 7, 616, 617, 19, 615, 0, 614]), (26, .astore_n 2, []), (27, .iconst 0, []), (28, .istore_n 3, []), (29, .iload_n 3, []), (30, .aload_n 0, []), (31, .getfield 59, [7, 1, 36]), (34, .if_icmp .ge 15, [49]), (37, .aload_n 0, []), (38, .iload_n 3, []), (39, .iload_n 1, []), (40, .invokevirtual 92, [29, 0, 2, 7, 568, 569, 19, 567, 0, 566]), (43, .iinc 3 1, []), (46, .goto (-17), [29]), (49, .aload_n 0, []), (50, .getfield 66, [7, 10, 15]), (53, .istore_n 3, []), (54, .aload_n 0, []), (55, .aload_n 2, []), (56, .invokevirtual 206, [59, 0, 1, 7, 620, 621, 19, 619, 0, 618]), (59, .iload_n 3, []), (60, .ireturn, [])]
def zm_154 : zM := (⟨"NightjarModel", "sessionsWith", "(I)I"⟩, prog_9_method_62_code, 2, (Option.some Jvm.ClassFile.FieldType.int), 3, 68)
def zc_154 : List (Nat × Instr × List Nat) := [(0, .aload_n 0, []), (1, .iconst 0, []), (2, .putfield 55, [7, 0, 0, 1]), (5, .iload_n 1, []), (6, .iconst 0, []), (7, .sipush 1000, []), (10, .invokestatic 62, [4, 1, 3, 0, 18, 0, 19, 17, 0, 16]), (13, .ifCond .eq 11, [24]), (16, .aload_n 0, []), (17, .iload_n 1, []), (18, .invokevirtual 105, [45, 0, 1, 7, 30, 31, 19, 29, 0, 28]), (21, .goto 8, [29]), (24, .aload_n 0, []), (25, .iconst 1, []), (26, .invokevirtual 69, [2, 0, 1, 7, 564, 565, 19, 563, 0, 562]), (29, .ireturn, [])]
def zm_155 : zM := (⟨"NightjarModel", "wouldBe", "(I)I"⟩, prog_9_method_63_code, 4, (Option.some Jvm.ClassFile.FieldType.int), 3, 113)
def zc_155 : List (Nat × Instr × List Nat) := [(0, .aload_n 0, []), (1, .iconst 0, []), (2, .putfield 55, [7, 0, 0, 1]), (5, .aload_n 0, []), (6, .iload_n 1, []), (7, .invokevirtual 153, [18, 0, 1, 7, 580, 581, 19, 579, 0, 578]), (10, .ifCond .ne 9, [19]), (13, .aload_n 0, []), (14, .iconst 1, []), (15, .invokevirtual 69, [2, 0, 1, 7, 564, 565, 19, 563, 0, 562]), (18, .ireturn, []), (19, .iload_n 1, []), (20, .aload_n 0, []), (21, .getfield 73, [7, 8, 37]), (24, .if_icmp .ge 9, [33]), (27, .aload_n 0, []), (28, .iconst 2, []), (29, .invokevirtual 69, [2, 0, 1, 7, 564, 565, 19, 563, 0, 562]), (32, .ireturn, []), (33, .aload_n 0, []), (34, .iconst 1, []), (35, .invokevirtual 202, [58, 0, 1, 7, 616, 617, 19, 615, 0, 614]), (38, .astore_n 2, []), (39, .aload_n 0, []), (40, .iload_n 1, []), (41, .aload_n 0, []), (42, .getfield 25, [7, 7, 27]), (45, .iconst 0, []), (46, .iaload, []), (47, .invokevirtual 92, [29, 0, 2, 7, 568, 569, 19, 567, 0, 566]), (50, .aload_n 0, []), (51, .getfield 28, [7, 9, 38]), (54, .iload_n 1, []), (55, .iaload, []), (56, .istore_n 3, []), (57, .aload_n 0, []), (58, .aload_n 2, []), (59, .invokevirtual 206, [59, 0, 1, 7, 620, 621, 19, 619, 0, 618]), (62, .iload_n 3, []), (63, .ireturn, [])]
def zm_156 : zM := (⟨"NightjarModel", "digest", "()J"⟩, prog_9_method_64_code, 5, (Option.some Jvm.ClassFile.FieldType.long), 6, 143)
def zc_156 : List (Nat × Instr × List Nat) := [(0, .aload_n 0, []), (1, .iconst 0, []), (2, .putfield 55, [7, 0, 0, 1]), (5, .aload_n 0, []), (6, .invokevirtual 126, [48, 0, 0, 7, 572, 573, 19, 571, 0, 570]), (9, .ldc2_w 210, [58085, 622]), (12, .lstore_n 1, []), (13, .iconst 0, []), (14, .istore_n 3, []), (15, .iload_n 3, []), (16, .bipush 6, []), (18, .if_icmp .ge 22, [40]), (21, .lload_n 1, []), (22, .ldc2_w 212, [31, 623]), (25, .lmul, []), (26, .aload_n 0, []), (27, .iload_n 3, []), (28, .invokevirtual 129, [47, 0, 1, 7, 576, 577, 19, 575, 0, 574]), (31, .i2l, []), (32, .ladd, []), (33, .lstore_n 1, []), (34, .iinc 3 1, []), (37, .goto (-22), [15]), (40, .iconst 0, []), (41, .istore_n 3, []), (42, .iload_n 3, []), (43, .aload_n 0, []), (44, .getfield 59, [7, 1, 36]), (47, .if_icmp .ge 53, [100]), (50, .iconst 4, []), (51, .istore 4, []), (53, .iload 4, []), (55, .bipush 9, []), (57, .if_icmp .ge 24, [81]), (60, .lload_n 1, []), (61, .ldc2_w 212, [31, 623]), (64, .lmul, []), (65, .aload_n 0, []), (66, .iload_n 3, []), (67, .iload 4, []), (69, .invokevirtual 156, [51, 0, 2, 7, 584, 585, 19, 583, 0, 582]), (72, .i2l, []), (73, .ladd, []), (74, .lstore_n 1, []), (75, .iinc 4 1, []), (78, .goto (-25), [53]), (81, .lload_n 1, []), (82, .ldc2_w 212, [31, 623]), (85, .lmul, []), (86, .aload_n 0, []), (87, .iload_n 3, []), (88, .invokevirtual 198, [50, 0, 1, 7, 612, 613, 19, 611, 0, 610]), (91, .i2l, []), (92, .ladd, []), (93, .lstore_n 1, []), (94, .iinc 3 1, []), (97, .goto (-55), [42]), (100, .iconst 0, []), (101, .istore_n 3, []), (102, .iload_n 3, []), (103, .aload_n 0, []), (104, .getfield 66, [7, 10, 15]), (107, .if_icmp .ge 174, [281]), (110, .lload_n 1, []), (111, .ldc2_w 212, [31, 623]), (114, .lmul, []), (115, .iload_n 3, []), (116, .i2l, []), (117, .ladd, []), (118, .lstore_n 1, []), (119, .iconst 0, []), (120, .istore 4, []), (122, .iload 4, []), (124, .iconst 5, []), (125, .if_icmp .ge 24, [149]), (128, .lload_n 1, []), (129, .ldc2_w 212, [31, 623]), (132, .lmul, []), (133, .aload_n 0, []), (134, .iload_n 3, []), (135, .iload 4, []), (137, .invokevirtual 170, [52, 0, 2, 7, 592, 593, 19, 591, 0, 590]), (140, .i2l, []), (141, .ladd, []), (142, .lstore_n 1, []), (143, .iinc 4 1, []), (146, .goto (-24), [122]), (149, .iconst 0, []), (150, .istore 4, []), (152, .iload 4, []), (154, .aload_n 0, []), (155, .getfield 31, [7, 11, 24]), (158, .iload_n 3, []), (159, .iaload, []), (160, .if_icmp .ge 29, [189]), (163, .lload_n 1, []), (164, .ldc2_w 212, [31, 623]), (167, .lmul, []), (168, .aload_n 0, []), (169, .getfield 34, [7, 12, 25]), (172, .iload_n 3, []), (173, .bipush 8, []), (175, .imul, []), (176, .iload 4, []), (178, .iadd, []), (179, .iaload, []), (180, .i2l, []), (181, .ladd, []), (182, .lstore_n 1, []), (183, .iinc 4 1, []), (186, .goto (-34), [152]), (189, .iconst 0, []), (190, .istore 4, []), (192, .iload 4, []), (194, .aload_n 0, []), (195, .iload_n 3, []), (196, .invokevirtual 159, [30, 0, 1, 7, 202, 203, 19, 201, 0, 200]), (199, .if_icmp .ge 24, [223]), (202, .lload_n 1, []), (203, .ldc2_w 212, [31, 623]), (206, .lmul, []), (207, .aload_n 0, []), (208, .iload_n 3, []), (209, .iload 4, []), (211, .invokevirtual 176, [53, 0, 2, 7, 596, 597, 19, 595, 0, 594]), (214, .i2l, []), (215, .ladd, []), (216, .lstore_n 1, []), (217, .iinc 4 1, []), (220, .goto (-28), [192]), (223, .aload_n 0, []), (224, .iload_n 3, []), (225, .invokevirtual 146, [24, 0, 1, 7, 192, 193, 19, 191, 0, 190]), (228, .lload_n 1, []), (229, .ldc2_w 212, [31, 623]), (232, .lmul, []), (233, .aload_n 0, []), (234, .getfield 136, [7, 20, 87]), (237, .i2l, []), (238, .ladd, []), (239, .lstore_n 1, []), (240, .iconst 0, []), (241, .istore 4, []), (243, .iload 4, []), (245, .iconst 4, []), (246, .aload_n 0, []), (247, .getfield 136, [7, 20, 87]), (250, .imul, []), (251, .if_icmp .ge 24, [275]), (254, .lload_n 1, []), (255, .ldc2_w 212, [31, 623]), (258, .lmul, []), (259, .aload_n 0, []), (260, .getfield 52, [7, 21, 194]), (263, .iload 4, []), (265, .iaload, []), (266, .i2l, []), (267, .ladd, []), (268, .lstore_n 1, []), (269, .iinc 4 1, []), (272, .goto (-29), [243]), (275, .iinc 3 1, []), (278, .goto (-176), [102]), (281, .iconst 0, []), (282, .istore_n 3, []), (283, .iload_n 3, []), (284, .aload_n 0, []), (285, .getfield 99, [7, 13, 163]), (288, .if_icmp .ge 40, [328]), (291, .iconst 0, []), (292, .istore 4, []), (294, .iload 4, []), (296, .bipush 7, []), (298, .if_icmp .ge 24, [322]), (301, .lload_n 1, []), (302, .ldc2_w 212, [31, 623]), (305, .lmul, []), (306, .aload_n 0, []), (307, .iload_n 3, []), (308, .iload 4, []), (310, .invokevirtual 188, [55, 0, 2, 7, 600, 601, 19, 599, 0, 598]), (313, .i2l, []), (314, .ladd, []), (315, .lstore_n 1, []), (316, .iinc 4 1, []), (319, .goto (-25), [294]), (322, .iinc 3 1, []), (325, .goto (-42), [283]), (328, .lload_n 1, []), (329, .ldc2_w 212, [31, 623]), (332, .lmul, []), (333, .aload_n 0, []), (334, .invokevirtual 191, [56, 0, 0, 7, 604, 605, 19, 603, 0, 602]), (337, .i2l, []), (338, .ladd, []), (339, .lstore_n 1, []), (340, .iconst 0, []), (341, .istore_n 3, []), (342, .iload_n 3, []), (343, .aload_n 0, []), (344, .getfield 111, [7, 17, 170]), (347, .if_icmp .ge 39, [386]), (350, .iconst 0, []), (351, .istore 4, []), (353, .iload 4, []), (355, .iconst 3, []), (356, .if_icmp .ge 24, [380]), (359, .lload_n 1, []), (360, .ldc2_w 212, [31, 623]), (363, .lmul, []), (364, .aload_n 0, []), (365, .iload_n 3, []), (366, .iload 4, []), (368, .invokevirtual 195, [57, 0, 2, 7, 608, 609, 19, 607, 0, 606]), (371, .i2l, []), (372, .ladd, []), (373, .lstore_n 1, []), (374, .iinc 4 1, []), (377, .goto (-24), [353]), (380, .iinc 3 1, []), (383, .goto (-41), [342]), (386, .lload_n 1, []), (387, .lreturn, [])]
def zm_157 : zM := (⟨"NightjarLaw", "line", "(LNightjar;III[J)I"⟩, method_3_code, 6, (Option.some Jvm.ClassFile.FieldType.int), 6, 144)
def zc_157 : List (Nat × Instr × List Nat) := [(0, .aload 4, []), (2, .iconst 0, []), (3, .aload_n 0, []), (4, .iload_n 1, []), (5, .iload_n 2, []), (6, .iload_n 3, []), (7, .invokevirtual 7, [116, 0, 3, 6, 626, 627, 118, 625, 0, 624]), (10, .i2l, []), (11, .lastore, []), (12, .goto 11, [23]), (15, .astore 5, []), (17, .iconst 1, []), (18, .ireturn, []), (19, .astore 5, []), (21, .iconst 2, []), (22, .ireturn, []), (23, .iconst 0, []), (24, .ireturn, [])]
def zm_158 : zM := (⟨"NightjarLaw", "word", "(LNightjar;I[J)I"⟩, method_4_code, 4, (Option.some Jvm.ClassFile.FieldType.int), 3, 67)
def zc_158 : List (Nat × Instr × List Nat) := [(0, .aload_n 2, []), (1, .iconst 0, []), (2, .aload_n 0, []), (3, .iload_n 1, []), (4, .invokevirtual 17, [117, 0, 1, 6, 630, 631, 118, 629, 0, 628]), (7, .i2l, []), (8, .lastore, []), (9, .goto 9, [18]), (12, .astore_n 3, []), (13, .iconst 1, []), (14, .ireturn, []), (15, .astore_n 3, []), (16, .iconst 2, []), (17, .ireturn, []), (18, .iconst 0, []), (19, .ireturn, [])]
def zm_159 : zM := (⟨"NightjarLaw", "learn", "(LNightjar;I[J)I"⟩, method_5_code, 4, (Option.some Jvm.ClassFile.FieldType.int), 6, 145)
def zc_159 : List (Nat × Instr × List Nat) := [(0, .aload_n 2, []), (1, .iconst 0, []), (2, .aload_n 0, []), (3, .iload_n 1, []), (4, .invokevirtual 21, [118, 0, 1, 6, 634, 635, 118, 633, 0, 632]), (7, .i2l, []), (8, .lastore, []), (9, .goto 6, [15]), (12, .astore_n 3, []), (13, .iconst 1, []), (14, .ireturn, []), (15, .iconst 0, []), (16, .ireturn, [])]
def zm_160 : zM := (⟨"NightjarLaw", "set", "(LNightjar;II[J)I"⟩, method_6_code, 5, (Option.some Jvm.ClassFile.FieldType.int), 6, 145)
def zc_160 : List (Nat × Instr × List Nat) := [(0, .aload_n 3, []), (1, .iconst 0, []), (2, .aload_n 0, []), (3, .iload_n 1, []), (4, .iload_n 2, []), (5, .invokevirtual 24, [119, 0, 2, 6, 638, 639, 118, 637, 0, 636]), (8, .i2l, []), (9, .lastore, []), (10, .goto 7, [17]), (13, .astore 4, []), (15, .iconst 1, []), (16, .ireturn, []), (17, .iconst 0, []), (18, .ireturn, [])]
def zm_161 : zM := (⟨"NightjarLaw", "many", "(LNightjar;I[J)I"⟩, method_7_code, 4, (Option.some Jvm.ClassFile.FieldType.int), 3, 64)
def zc_161 : List (Nat × Instr × List Nat) := [(0, .aload_n 2, []), (1, .iconst 0, []), (2, .aload_n 0, []), (3, .iload_n 1, []), (4, .invokevirtual 28, [94, 0, 1, 6, 539, 540, 118, 538, 0, 640]), (7, .i2l, []), (8, .lastore, []), (9, .goto 6, [15]), (12, .astore_n 3, []), (13, .iconst 1, []), (14, .ireturn, []), (15, .iconst 0, []), (16, .ireturn, [])]
def zm_162 : zM := (⟨"NightjarLaw", "ofLine", "(LNightjar;II[J)I"⟩, method_8_code, 5, (Option.some Jvm.ClassFile.FieldType.int), 2, 43)
def zc_162 : List (Nat × Instr × List Nat) := [(0, .aload_n 3, []), (1, .iconst 0, []), (2, .aload_n 0, []), (3, .iload_n 1, []), (4, .iload_n 2, []), (5, .invokevirtual 31, [95, 0, 2, 6, 438, 439, 118, 437, 0, 641]), (8, .i2l, []), (9, .lastore, []), (10, .goto 11, [21]), (13, .astore 4, []), (15, .iconst 1, []), (16, .ireturn, []), (17, .astore 4, []), (19, .iconst 2, []), (20, .ireturn, []), (21, .iconst 0, []), (22, .ireturn, [])]
def zm_163 : zM := (⟨"NightjarLaw", "wordAt", "(LNightjar;II[J)I"⟩, method_9_code, 5, (Option.some Jvm.ClassFile.FieldType.int), 3, 65)
def zc_163 : List (Nat × Instr × List Nat) := [(0, .aload_n 3, []), (1, .iconst 0, []), (2, .aload_n 0, []), (3, .iload_n 1, []), (4, .iload_n 2, []), (5, .invokevirtual 36, [121, 0, 2, 6, 644, 645, 118, 643, 0, 642]), (8, .i2l, []), (9, .lastore, []), (10, .goto 7, [17]), (13, .astore 4, []), (15, .iconst 1, []), (16, .ireturn, []), (17, .iconst 0, []), (18, .ireturn, [])]
def zm_164 : zM := (⟨"NightjarLaw", "ofTemplate", "(LNightjar;II[J)I"⟩, method_10_code, 5, (Option.some Jvm.ClassFile.FieldType.int), 4, 88)
def zc_164 : List (Nat × Instr × List Nat) := [(0, .aload_n 3, []), (1, .iconst 0, []), (2, .aload_n 0, []), (3, .iload_n 1, []), (4, .iload_n 2, []), (5, .invokevirtual 39, [96, 0, 2, 6, 449, 450, 118, 448, 0, 646]), (8, .i2l, []), (9, .lastore, []), (10, .goto 11, [21]), (13, .astore 4, []), (15, .iconst 1, []), (16, .ireturn, []), (17, .astore 4, []), (19, .iconst 2, []), (20, .ireturn, []), (21, .iconst 0, []), (22, .ireturn, [])]
def zm_165 : zM := (⟨"NightjarLaw", "slot", "(LNightjar;II[J)I"⟩, method_11_code, 5, (Option.some Jvm.ClassFile.FieldType.int), 3, 65)
def zc_165 : List (Nat × Instr × List Nat) := [(0, .aload_n 3, []), (1, .iconst 0, []), (2, .aload_n 0, []), (3, .iload_n 1, []), (4, .iload_n 2, []), (5, .invokevirtual 42, [97, 0, 2, 6, 453, 454, 118, 452, 0, 647]), (8, .i2l, []), (9, .lastore, []), (10, .goto 7, [17]), (13, .astore 4, []), (15, .iconst 1, []), (16, .ireturn, []), (17, .iconst 0, []), (18, .ireturn, [])]
def zm_166 : zM := (⟨"NightjarLaw", "values", "(LNightjar;II[J)I"⟩, method_12_code, 5, (Option.some Jvm.ClassFile.FieldType.int), 5, 113)
def zc_166 : List (Nat × Instr × List Nat) := [(0, .aload_n 3, []), (1, .iconst 0, []), (2, .aload_n 0, []), (3, .iload_n 1, []), (4, .iload_n 2, []), (5, .invokevirtual 45, [98, 0, 2, 6, 457, 458, 118, 456, 0, 648]), (8, .i2l, []), (9, .lastore, []), (10, .goto 7, [17]), (13, .astore 4, []), (15, .iconst 1, []), (16, .ireturn, []), (17, .iconst 0, []), (18, .ireturn, [])]
def zm_167 : zM := (⟨"NightjarLaw", "alike", "(LNightjar;II[J)I"⟩, method_13_code, 5, (Option.some Jvm.ClassFile.FieldType.int), 4, 91)
def zc_167 : List (Nat × Instr × List Nat) := [(0, .aload_n 3, []), (1, .iconst 0, []), (2, .aload_n 0, []), (3, .iload_n 1, []), (4, .iload_n 2, []), (5, .invokevirtual 48, [122, 0, 2, 6, 651, 652, 118, 650, 0, 649]), (8, .i2l, []), (9, .lastore, []), (10, .goto 7, [17]), (13, .astore 4, []), (15, .iconst 1, []), (16, .ireturn, []), (17, .iconst 0, []), (18, .ireturn, [])]
def zm_168 : zM := (⟨"NightjarLaw", "ofSession", "(LNightjar;II[J)I"⟩, method_14_code, 5, (Option.some Jvm.ClassFile.FieldType.int), 3, 68)
def zc_168 : List (Nat × Instr × List Nat) := [(0, .aload_n 3, []), (1, .iconst 0, []), (2, .aload_n 0, []), (3, .iload_n 1, []), (4, .iload_n 2, []), (5, .invokevirtual 51, [99, 0, 2, 6, 551, 552, 118, 550, 0, 653]), (8, .i2l, []), (9, .lastore, []), (10, .goto 11, [21]), (13, .astore 4, []), (15, .iconst 1, []), (16, .ireturn, []), (17, .astore 4, []), (19, .iconst 2, []), (20, .ireturn, []), (21, .iconst 0, []), (22, .ireturn, [])]
def zm_169 : zM := (⟨"NightjarLaw", "inSession", "(LNightjar;II[J)I"⟩, method_15_code, 5, (Option.some Jvm.ClassFile.FieldType.int), 3, 67)
def zc_169 : List (Nat × Instr × List Nat) := [(0, .aload_n 3, []), (1, .iconst 0, []), (2, .aload_n 0, []), (3, .iload_n 1, []), (4, .iload_n 2, []), (5, .invokevirtual 54, [123, 0, 2, 6, 656, 657, 118, 655, 0, 654]), (8, .i2l, []), (9, .lastore, []), (10, .goto 7, [17]), (13, .astore 4, []), (15, .iconst 1, []), (16, .ireturn, []), (17, .iconst 0, []), (18, .ireturn, [])]
def zm_170 : zM := (⟨"NightjarLaw", "count", "(LNightjar;II[J)I"⟩, method_16_code, 5, (Option.some Jvm.ClassFile.FieldType.int), 3, 70)
def zc_170 : List (Nat × Instr × List Nat) := [(0, .aload_n 3, []), (1, .iconst 0, []), (2, .aload_n 0, []), (3, .iload_n 1, []), (4, .iload_n 2, []), (5, .invokevirtual 57, [125, 0, 2, 6, 660, 661, 118, 659, 0, 658]), (8, .i2l, []), (9, .lastore, []), (10, .goto 11, [21]), (13, .astore 4, []), (15, .iconst 1, []), (16, .ireturn, []), (17, .astore 4, []), (19, .iconst 2, []), (20, .ireturn, []), (21, .iconst 0, []), (22, .ireturn, [])]
def zm_171 : zM := (⟨"NightjarLaw", "spike", "(LNightjar;II[J)I"⟩, method_17_code, 5, (Option.some Jvm.ClassFile.FieldType.int), 2, 43)
def zc_171 : List (Nat × Instr × List Nat) := [(0, .aload_n 3, []), (1, .iconst 0, []), (2, .aload_n 0, []), (3, .iload_n 1, []), (4, .iload_n 2, []), (5, .invokevirtual 60, [101, 0, 2, 6, 559, 560, 118, 558, 0, 662]), (8, .i2l, []), (9, .lastore, []), (10, .goto 11, [21]), (13, .astore 4, []), (15, .iconst 1, []), (16, .ireturn, []), (17, .astore 4, []), (19, .iconst 2, []), (20, .ireturn, []), (21, .iconst 0, []), (22, .ireturn, [])]
def zm_172 : zM := (⟨"NightjarLaw", "causes", "(LNightjar;I[J)I"⟩, method_18_code, 4, (Option.some Jvm.ClassFile.FieldType.int), 2, 42)
def zc_172 : List (Nat × Instr × List Nat) := [(0, .aload_n 2, []), (1, .iconst 0, []), (2, .aload_n 0, []), (3, .iload_n 1, []), (4, .invokevirtual 63, [102, 0, 1, 6, 461, 462, 118, 460, 0, 663]), (7, .i2l, []), (8, .lastore, []), (9, .goto 6, [15]), (12, .astore_n 3, []), (13, .iconst 1, []), (14, .ireturn, []), (15, .iconst 0, []), (16, .ireturn, [])]
def zm_173 : zM := (⟨"NightjarLaw", "cause", "(LNightjar;III[J)I"⟩, method_19_code, 6, (Option.some Jvm.ClassFile.FieldType.int), 4, 89)
def zc_173 : List (Nat × Instr × List Nat) := [(0, .aload 4, []), (2, .iconst 0, []), (3, .aload_n 0, []), (4, .iload_n 1, []), (5, .iload_n 2, []), (6, .iload_n 3, []), (7, .invokevirtual 66, [103, 0, 3, 6, 465, 466, 118, 464, 0, 664]), (10, .i2l, []), (11, .lastore, []), (12, .goto 11, [23]), (15, .astore 5, []), (17, .iconst 1, []), (18, .ireturn, []), (19, .astore 5, []), (21, .iconst 2, []), (22, .ireturn, []), (23, .iconst 0, []), (24, .ireturn, [])]
def zm_174 : zM := (⟨"NightjarLaw", "because", "(LNightjar;I[J)I"⟩, method_20_code, 4, (Option.some Jvm.ClassFile.FieldType.int), 5, 116)
def zc_174 : List (Nat × Instr × List Nat) := [(0, .aload_n 2, []), (1, .iconst 0, []), (2, .aload_n 0, []), (3, .iload_n 1, []), (4, .invokevirtual 69, [104, 0, 1, 6, 445, 446, 118, 444, 0, 665]), (7, .i2l, []), (8, .lastore, []), (9, .goto 6, [15]), (12, .astore_n 3, []), (13, .iconst 1, []), (14, .ireturn, []), (15, .iconst 0, []), (16, .ireturn, [])]
def zm_175 : zM := (⟨"NightjarLaw", "templatesWith", "(LNightjar;I[J)I"⟩, method_21_code, 4, (Option.some Jvm.ClassFile.FieldType.int), 6, 142)
def zc_175 : List (Nat × Instr × List Nat) := [(0, .aload_n 2, []), (1, .iconst 0, []), (2, .aload_n 0, []), (3, .iload_n 1, []), (4, .invokevirtual 72, [126, 0, 1, 6, 668, 669, 118, 667, 0, 666]), (7, .i2l, []), (8, .lastore, []), (9, .goto 6, [15]), (12, .astore_n 3, []), (13, .iconst 1, []), (14, .ireturn, []), (15, .iconst 0, []), (16, .ireturn, [])]
def zm_176 : zM := (⟨"NightjarLaw", "sessionsWith", "(LNightjar;I[J)I"⟩, method_22_code, 4, (Option.some Jvm.ClassFile.FieldType.int), 3, 67)
def zc_176 : List (Nat × Instr × List Nat) := [(0, .aload_n 2, []), (1, .iconst 0, []), (2, .aload_n 0, []), (3, .iload_n 1, []), (4, .invokevirtual 75, [127, 0, 1, 6, 672, 673, 118, 671, 0, 670]), (7, .i2l, []), (8, .lastore, []), (9, .goto 6, [15]), (12, .astore_n 3, []), (13, .iconst 1, []), (14, .ireturn, []), (15, .iconst 0, []), (16, .ireturn, [])]
def zm_177 : zM := (⟨"NightjarLaw", "wouldBe", "(LNightjar;I[J)I"⟩, method_23_code, 4, (Option.some Jvm.ClassFile.FieldType.int), 5, 117)
def zc_177 : List (Nat × Instr × List Nat) := [(0, .aload_n 2, []), (1, .iconst 0, []), (2, .aload_n 0, []), (3, .iload_n 1, []), (4, .invokevirtual 78, [128, 0, 1, 6, 676, 677, 118, 675, 0, 674]), (7, .i2l, []), (8, .lastore, []), (9, .goto 9, [18]), (12, .astore_n 3, []), (13, .iconst 1, []), (14, .ireturn, []), (15, .astore_n 3, []), (16, .iconst 2, []), (17, .ireturn, []), (18, .iconst 0, []), (19, .ireturn, [])]
def zm_178 : zM := (⟨"NightjarLaw", "law", "([I)Z"⟩, code, 9, (Option.some Jvm.ClassFile.FieldType.boolean), 7, 167)
def zc_178 : List (Nat × Instr × List Nat) := [(0, .new 8, [6, 678, 679, 118, 1, 1, 1, 1, 1, 1, 1]), (3, .dup, []), (4, .invokespecial 81, [115, 2, 0, 0, 682, 0, 118, 681, 0, 680]), (7, .astore_n 1, []), (8, .new 82, [7, 683, 684, 19, 0, 0, 1, 1, 1, 1, 1, 1, 0, 1, 0, 1, 1, 0, 1, 1, 1, 0, 1, 1, 0, 1]), (11, .dup, []), (12, .invokespecial 84, [130, 2, 0, 0, 687, 0, 19, 686, 0, 685]), (15, .astore_n 2, []), (16, .iconst 1, []), (17, .newarray .long, [1, 688]), (19, .astore_n 3, []), (20, .iconst 0, []), (21, .istore 4, []), (23, .iload 4, []), (25, .aload_n 0, []), (26, .arraylength, []), (27, .iconst 4, []), (28, .isub, []), (29, .if_icmp .gt 1566, [1595]), (32, .aload_n 0, []), (33, .iload 4, []), (35, .iaload, []), (36, .bipush 31, []), (38, .iand, []), (39, .tableswitch 1550 0 24 #[113, 193, 249, 305, 373, 386, 442, 510, 578, 646, 714, 782, 850, 918, 986, 999, 1040, 1108, 1176, 1232, 1312, 1368, 1424, 1480, 1536], [1589, 152, 232, 288, 344, 412, 425, 481, 549, 617, 685, 753, 821, 889, 957, 1025, 1038, 1079, 1147, 1215, 1271, 1351, 1407, 1463, 1519, 1575]), (152, .aload_n 1, []), (153, .aload_n 0, []), (154, .iload 4, []), (156, .iconst 1, []), (157, .iadd, []), (158, .iaload, []), (159, .aload_n 0, []), (160, .iload 4, []), (162, .iconst 2, []), (163, .iadd, []), (164, .iaload, []), (165, .aload_n 0, []), (166, .iload 4, []), (168, .iconst 3, []), (169, .iadd, []), (170, .iaload, []), (171, .aload_n 3, []), (175, .istore 5, []), (177, .aload_n 2, []), (178, .aload_n 0, []), (179, .iload 4, []), (181, .iconst 1, []), (182, .iadd, []), (183, .iaload, []), (184, .aload_n 0, []), (185, .iload 4, []), (187, .iconst 2, []), (188, .iadd, []), (189, .iaload, []), (190, .aload_n 0, []), (191, .iload 4, []), (193, .iconst 3, []), (194, .iadd, []), (195, .iaload, []), (196, .invokevirtual 90, [132, 0, 3, 7, 692, 693, 19, 691, 0, 690]), (199, .istore 6, []), (201, .aload_n 2, []), (202, .invokevirtual 91, [131, 0, 0, 7, 696, 697, 19, 695, 0, 694]), (205, .iload 5, []), (207, .if_icmp .eq 5, [212]), (210, .iconst 0, []), (211, .ireturn, []), (212, .iload 5, []), (214, .ifCond .ne 15, [229]), (217, .aload_n 3, []), (218, .iconst 0, []), (219, .laload, []), (220, .iload 6, []), (222, .i2l, []), (223, .lcmp, []), (224, .ifCond .eq 5, [229]), (227, .iconst 0, []), (228, .ireturn, []), (229, .goto 1360, [1589]), (232, .aload_n 1, []), (233, .aload_n 0, []), (234, .iload 4, []), (236, .iconst 1, []), (237, .iadd, []), (238, .iaload, []), (239, .aload_n 3, []), (243, .istore 5, []), (245, .aload_n 2, []), (246, .aload_n 0, []), (247, .iload 4, []), (249, .iconst 1, []), (250, .iadd, []), (251, .iaload, []), (252, .invokevirtual 98, [133, 0, 1, 7, 701, 702, 19, 700, 0, 699]), (255, .istore 6, []), (257, .aload_n 2, []), (258, .invokevirtual 91, [131, 0, 0, 7, 696, 697, 19, 695, 0, 694]), (261, .iload 5, []), (263, .if_icmp .eq 5, [268]), (266, .iconst 0, []), (267, .ireturn, []), (268, .iload 5, []), (270, .ifCond .ne 15, [285]), (273, .aload_n 3, []), (274, .iconst 0, []), (275, .laload, []), (276, .iload 6, []), (278, .i2l, []), (279, .lcmp, []), (280, .ifCond .eq 5, [285]), (283, .iconst 0, []), (284, .ireturn, []), (285, .goto 1304, [1589]), (288, .aload_n 1, []), (289, .aload_n 0, []), (290, .iload 4, []), (292, .iconst 1, []), (293, .iadd, []), (294, .iaload, []), (295, .aload_n 3, []), (299, .istore 5, []), (301, .aload_n 2, []), (302, .aload_n 0, []), (303, .iload 4, []), (305, .iconst 1, []), (306, .iadd, []), (307, .iaload, []), (308, .invokevirtual 101, [134, 0, 1, 7, 706, 707, 19, 705, 0, 704]), (311, .istore 6, []), (313, .aload_n 2, []), (314, .invokevirtual 91, [131, 0, 0, 7, 696, 697, 19, 695, 0, 694]), (317, .iload 5, []), (319, .if_icmp .eq 5, [324]), (322, .iconst 0, []), (323, .ireturn, []), (324, .iload 5, []), (326, .ifCond .ne 15, [341]), (329, .aload_n 3, []), (330, .iconst 0, []), (331, .laload, []), (332, .iload 6, []), (334, .i2l, []), (335, .lcmp, []), (336, .ifCond .eq 5, [341]), (339, .iconst 0, []), (340, .ireturn, []), (341, .goto 1248, [1589]), (344, .aload_n 1, []), (345, .aload_n 0, []), (346, .iload 4, []), (348, .iconst 1, []), (349, .iadd, []), (350, .iaload, []), (351, .aload_n 0, []), (352, .iload 4, []), (354, .iconst 2, []), (355, .iadd, []), (356, .iaload, []), (357, .aload_n 3, []), (361, .istore 5, []), (363, .aload_n 2, []), (364, .aload_n 0, []), (365, .iload 4, []), (367, .iconst 1, []), (368, .iadd, []), (369, .iaload, []), (370, .aload_n 0, []), (371, .iload 4, []), (373, .iconst 2, []), (374, .iadd, []), (375, .iaload, []), (376, .invokevirtual 105, [135, 0, 2, 7, 711, 712, 19, 710, 0, 709]), (379, .istore 6, []), (381, .aload_n 2, []), (382, .invokevirtual 91, [131, 0, 0, 7, 696, 697, 19, 695, 0, 694]), (385, .iload 5, []), (387, .if_icmp .eq 5, [392]), (390, .iconst 0, []), (391, .ireturn, []), (392, .iload 5, []), (394, .ifCond .ne 15, [409]), (397, .aload_n 3, []), (398, .iconst 0, []), (399, .laload, []), (400, .iload 6, []), (402, .i2l, []), (403, .lcmp, []), (404, .ifCond .eq 5, [409]), (407, .iconst 0, []), (408, .ireturn, []), (409, .goto 1180, [1589]), (412, .aload_n 1, []), (413, .invokevirtual 106, [120, 0, 0, 6, 715, 716, 118, 714, 0, 713]), (416, .aload_n 2, []), (417, .invokevirtual 109, [136, 0, 0, 7, 719, 720, 19, 718, 0, 717]), (420, .if_icmp .eq 1169, [1589]), (423, .iconst 0, []), (424, .ireturn, []), (425, .aload_n 1, []), (426, .aload_n 0, []), (427, .iload 4, []), (429, .iconst 1, []), (430, .iadd, []), (431, .iaload, []), (432, .aload_n 3, []), (436, .istore 5, []), (438, .aload_n 2, []), (439, .aload_n 0, []), (440, .iload 4, []), (442, .iconst 1, []), (443, .iadd, []), (444, .iaload, []), (445, .invokevirtual 112, [137, 0, 1, 7, 724, 725, 19, 723, 0, 722]), (448, .istore 6, []), (450, .aload_n 2, []), (451, .invokevirtual 91, [131, 0, 0, 7, 696, 697, 19, 695, 0, 694]), (454, .iload 5, []), (456, .if_icmp .eq 5, [461]), (459, .iconst 0, []), (460, .ireturn, []), (461, .iload 5, []), (463, .ifCond .ne 15, [478]), (466, .aload_n 3, []), (467, .iconst 0, []), (468, .laload, []), (469, .iload 6, []), (471, .i2l, []), (472, .lcmp, []), (473, .ifCond .eq 5, [478]), (476, .iconst 0, []), (477, .ireturn, []), (478, .goto 1111, [1589]), (481, .aload_n 1, []), (482, .aload_n 0, []), (483, .iload 4, []), (485, .iconst 1, []), (486, .iadd, []), (487, .iaload, []), (488, .aload_n 0, []), (489, .iload 4, []), (491, .iconst 2, []), (492, .iadd, []), (493, .iaload, []), (494, .aload_n 3, []), (498, .istore 5, []), (500, .aload_n 2, []), (501, .aload_n 0, []), (502, .iload 4, []), (504, .iconst 1, []), (505, .iadd, []), (506, .iaload, []), (507, .aload_n 0, []), (508, .iload 4, []), (510, .iconst 2, []), (511, .iadd, []), (512, .iaload, []), (513, .invokevirtual 115, [138, 0, 2, 7, 729, 730, 19, 728, 0, 727]), (516, .istore 6, []), (518, .aload_n 2, []), (519, .invokevirtual 91, [131, 0, 0, 7, 696, 697, 19, 695, 0, 694]), (522, .iload 5, []), (524, .if_icmp .eq 5, [529]), (527, .iconst 0, []), (528, .ireturn, []), (529, .iload 5, []), (531, .ifCond .ne 15, [546]), (534, .aload_n 3, []), (535, .iconst 0, []), (536, .laload, []), (537, .iload 6, []), (539, .i2l, []), (540, .lcmp, []), (541, .ifCond .eq 5, [546]), (544, .iconst 0, []), (545, .ireturn, []), (546, .goto 1043, [1589]), (549, .aload_n 1, []), (550, .aload_n 0, []), (551, .iload 4, []), (553, .iconst 1, []), (554, .iadd, []), (555, .iaload, []), (556, .aload_n 0, []), (557, .iload 4, []), (559, .iconst 2, []), (560, .iadd, []), (561, .iaload, []), (562, .aload_n 3, []), (566, .istore 5, []), (568, .aload_n 2, []), (569, .aload_n 0, []), (570, .iload 4, []), (572, .iconst 1, []), (573, .iadd, []), (574, .iaload, []), (575, .aload_n 0, []), (576, .iload 4, []), (578, .iconst 2, []), (579, .iadd, []), (580, .iaload, []), (581, .invokevirtual 118, [139, 0, 2, 7, 734, 735, 19, 733, 0, 732]), (584, .istore 6, []), (586, .aload_n 2, []), (587, .invokevirtual 91, [131, 0, 0, 7, 696, 697, 19, 695, 0, 694]), (590, .iload 5, []), (592, .if_icmp .eq 5, [597]), (595, .iconst 0, []), (596, .ireturn, []), (597, .iload 5, []), (599, .ifCond .ne 15, [614]), (602, .aload_n 3, []), (603, .iconst 0, []), (604, .laload, []), (605, .iload 6, []), (607, .i2l, []), (608, .lcmp, []), (609, .ifCond .eq 5, [614]), (612, .iconst 0, []), (613, .ireturn, []), (614, .goto 975, [1589]), (617, .aload_n 1, []), (618, .aload_n 0, []), (619, .iload 4, []), (621, .iconst 1, []), (622, .iadd, []), (623, .iaload, []), (624, .aload_n 0, []), (625, .iload 4, []), (627, .iconst 2, []), (628, .iadd, []), (629, .iaload, []), (630, .aload_n 3, []), (634, .istore 5, []), (636, .aload_n 2, []), (637, .aload_n 0, []), (638, .iload 4, []), (640, .iconst 1, []), (641, .iadd, []), (642, .iaload, []), (643, .aload_n 0, []), (644, .iload 4, []), (646, .iconst 2, []), (647, .iadd, []), (648, .iaload, []), (649, .invokevirtual 121, [140, 0, 2, 7, 739, 740, 19, 738, 0, 737]), (652, .istore 6, []), (654, .aload_n 2, []), (655, .invokevirtual 91, [131, 0, 0, 7, 696, 697, 19, 695, 0, 694]), (658, .iload 5, []), (660, .if_icmp .eq 5, [665]), (663, .iconst 0, []), (664, .ireturn, []), (665, .iload 5, []), (667, .ifCond .ne 15, [682]), (670, .aload_n 3, []), (671, .iconst 0, []), (672, .laload, []), (673, .iload 6, []), (675, .i2l, []), (676, .lcmp, []), (677, .ifCond .eq 5, [682]), (680, .iconst 0, []), (681, .ireturn, []), (682, .goto 907, [1589]), (685, .aload_n 1, []), (686, .aload_n 0, []), (687, .iload 4, []), (689, .iconst 1, []), (690, .iadd, []), (691, .iaload, []), (692, .aload_n 0, []), (693, .iload 4, []), (695, .iconst 2, []), (696, .iadd, []), (697, .iaload, []), (698, .aload_n 3, []), (702, .istore 5, []), (704, .aload_n 2, []), (705, .aload_n 0, []), (706, .iload 4, []), (708, .iconst 1, []), (709, .iadd, []), (710, .iaload, []), (711, .aload_n 0, []), (712, .iload 4, []), (714, .iconst 2, []), (715, .iadd, []), (716, .iaload, []), (717, .invokevirtual 124, [141, 0, 2, 7, 744, 745, 19, 743, 0, 742]), (720, .istore 6, []), (722, .aload_n 2, []), (723, .invokevirtual 91, [131, 0, 0, 7, 696, 697, 19, 695, 0, 694]), (726, .iload 5, []), (728, .if_icmp .eq 5, [733]), (731, .iconst 0, []), (732, .ireturn, []), (733, .iload 5, []), (735, .ifCond .ne 15, [750]), (738, .aload_n 3, []), (739, .iconst 0, []), (740, .laload, []), (741, .iload 6, []), (743, .i2l, []), (744, .lcmp, []), (745, .ifCond .eq 5, [750]), (748, .iconst 0, []), (749, .ireturn, []), (750, .goto 839, [1589]), (753, .aload_n 1, []), (754, .aload_n 0, []), (755, .iload 4, []), (757, .iconst 1, []), (758, .iadd, []), (759, .iaload, []), (760, .aload_n 0, []), (761, .iload 4, []), (763, .iconst 2, []), (764, .iadd, []), (765, .iaload, []), (766, .aload_n 3, []), (770, .istore 5, []), (772, .aload_n 2, []), (773, .aload_n 0, []), (774, .iload 4, []), (776, .iconst 1, []), (777, .iadd, []), (778, .iaload, []), (779, .aload_n 0, []), (780, .iload 4, []), (782, .iconst 2, []), (783, .iadd, []), (784, .iaload, []), (785, .invokevirtual 127, [142, 0, 2, 7, 749, 750, 19, 748, 0, 747]), (788, .istore 6, []), (790, .aload_n 2, []), (791, .invokevirtual 91, [131, 0, 0, 7, 696, 697, 19, 695, 0, 694]), (794, .iload 5, []), (796, .if_icmp .eq 5, [801]), (799, .iconst 0, []), (800, .ireturn, []), (801, .iload 5, []), (803, .ifCond .ne 15, [818]), (806, .aload_n 3, []), (807, .iconst 0, []), (808, .laload, []), (809, .iload 6, []), (811, .i2l, []), (812, .lcmp, []), (813, .ifCond .eq 5, [818]), (816, .iconst 0, []), (817, .ireturn, []), (818, .goto 771, [1589]), (821, .aload_n 1, []), (822, .aload_n 0, []), (823, .iload 4, []), (825, .iconst 1, []), (826, .iadd, []), (827, .iaload, []), (828, .aload_n 0, []), (829, .iload 4, []), (831, .iconst 2, []), (832, .iadd, []), (833, .iaload, []), (834, .aload_n 3, []), (838, .istore 5, []), (840, .aload_n 2, []), (841, .aload_n 0, []), (842, .iload 4, []), (844, .iconst 1, []), (845, .iadd, []), (846, .iaload, []), (847, .aload_n 0, []), (848, .iload 4, []), (850, .iconst 2, []), (851, .iadd, []), (852, .iaload, []), (853, .invokevirtual 130, [143, 0, 2, 7, 754, 755, 19, 753, 0, 752]), (856, .istore 6, []), (858, .aload_n 2, []), (859, .invokevirtual 91, [131, 0, 0, 7, 696, 697, 19, 695, 0, 694]), (862, .iload 5, []), (864, .if_icmp .eq 5, [869]), (867, .iconst 0, []), (868, .ireturn, []), (869, .iload 5, []), (871, .ifCond .ne 15, [886]), (874, .aload_n 3, []), (875, .iconst 0, []), (876, .laload, []), (877, .iload 6, []), (879, .i2l, []), (880, .lcmp, []), (881, .ifCond .eq 5, [886]), (884, .iconst 0, []), (885, .ireturn, []), (886, .goto 703, [1589]), (889, .aload_n 1, []), (890, .aload_n 0, []), (891, .iload 4, []), (893, .iconst 1, []), (894, .iadd, []), (895, .iaload, []), (896, .aload_n 0, []), (897, .iload 4, []), (899, .iconst 2, []), (900, .iadd, []), (901, .iaload, []), (902, .aload_n 3, []), (906, .istore 5, []), (908, .aload_n 2, []), (909, .aload_n 0, []), (910, .iload 4, []), (912, .iconst 1, []), (913, .iadd, []), (914, .iaload, []), (915, .aload_n 0, []), (916, .iload 4, []), (918, .iconst 2, []), (919, .iadd, []), (920, .iaload, []), (921, .invokevirtual 133, [144, 0, 2, 7, 759, 760, 19, 758, 0, 757]), (924, .istore 6, []), (926, .aload_n 2, []), (927, .invokevirtual 91, [131, 0, 0, 7, 696, 697, 19, 695, 0, 694]), (930, .iload 5, []), (932, .if_icmp .eq 5, [937]), (935, .iconst 0, []), (936, .ireturn, []), (937, .iload 5, []), (939, .ifCond .ne 15, [954]), (942, .aload_n 3, []), (943, .iconst 0, []), (944, .laload, []), (945, .iload 6, []), (947, .i2l, []), (948, .lcmp, []), (949, .ifCond .eq 5, [954]), (952, .iconst 0, []), (953, .ireturn, []), (954, .goto 635, [1589]), (957, .aload_n 1, []), (958, .aload_n 0, []), (959, .iload 4, []), (961, .iconst 1, []), (962, .iadd, []), (963, .iaload, []), (964, .aload_n 0, []), (965, .iload 4, []), (967, .iconst 2, []), (968, .iadd, []), (969, .iaload, []), (970, .aload_n 3, []), (974, .istore 5, []), (976, .aload_n 2, []), (977, .aload_n 0, []), (978, .iload 4, []), (980, .iconst 1, []), (981, .iadd, []), (982, .iaload, []), (983, .aload_n 0, []), (984, .iload 4, []), (986, .iconst 2, []), (987, .iadd, []), (988, .iaload, []), (989, .invokevirtual 136, [145, 0, 2, 7, 764, 765, 19, 763, 0, 762]), (992, .istore 6, []), (994, .aload_n 2, []), (995, .invokevirtual 91, [131, 0, 0, 7, 696, 697, 19, 695, 0, 694]), (998, .iload 5, []), (1000, .if_icmp .eq 5, [1005]), (1003, .iconst 0, []), (1004, .ireturn, []), (1005, .iload 5, []), (1007, .ifCond .ne 15, [1022]), (1010, .aload_n 3, []), (1011, .iconst 0, []), (1012, .laload, []), (1013, .iload 6, []), (1015, .i2l, []), (1016, .lcmp, []), (1017, .ifCond .eq 5, [1022]), (1020, .iconst 0, []), (1021, .ireturn, []), (1022, .goto 567, [1589]), (1025, .aload_n 1, []), (1026, .invokevirtual 137, [100, 0, 0, 6, 555, 556, 118, 554, 0, 766]), (1029, .aload_n 2, []), (1030, .invokevirtual 140, [146, 0, 0, 7, 769, 770, 19, 768, 0, 767]), (1033, .if_icmp .eq 556, [1589]), (1036, .iconst 0, []), (1037, .ireturn, []), (1038, .aload_n 1, []), (1039, .invokevirtual 141, [124, 0, 0, 6, 773, 774, 118, 772, 0, 771]), (1042, .dstore 5, []), (1044, .aload_n 2, []), (1045, .invokevirtual 145, [147, 0, 0, 7, 777, 778, 19, 776, 0, 775]), (1048, .dstore 7, []), (1050, .dload 5, []), (1052, .dload 7, []), (1054, .dcmp .l, []), (1055, .ifCond .eq 21, [1076]), (1058, .dload 5, []), (1060, .dload 5, []), (1062, .dcmp .l, []), (1063, .ifCond .eq 11, [1074]), (1066, .dload 7, []), (1068, .dload 7, []), (1070, .dcmp .l, []), (1071, .ifCond .ne 5, [1076]), (1074, .iconst 0, []), (1075, .ireturn, []), (1076, .goto 513, [1589]), (1079, .aload_n 1, []), (1080, .aload_n 0, []), (1081, .iload 4, []), (1083, .iconst 1, []), (1084, .iadd, []), (1085, .iaload, []), (1086, .aload_n 0, []), (1087, .iload 4, []), (1089, .iconst 2, []), (1090, .iadd, []), (1091, .iaload, []), (1092, .aload_n 3, []), (1096, .istore 5, []), (1098, .aload_n 2, []), (1099, .aload_n 0, []), (1100, .iload 4, []), (1102, .iconst 1, []), (1103, .iadd, []), (1104, .iaload, []), (1105, .aload_n 0, []), (1106, .iload 4, []), (1108, .iconst 2, []), (1109, .iadd, []), (1110, .iaload, []), (1111, .invokevirtual 148, [148, 0, 2, 7, 782, 783, 19, 781, 0, 780]), (1114, .istore 6, []), (1116, .aload_n 2, []), (1117, .invokevirtual 91, [131, 0, 0, 7, 696, 697, 19, 695, 0, 694]), (1120, .iload 5, []), (1122, .if_icmp .eq 5, [1127]), (1125, .iconst 0, []), (1126, .ireturn, []), (1127, .iload 5, []), (1129, .ifCond .ne 15, [1144]), (1132, .aload_n 3, []), (1133, .iconst 0, []), (1134, .laload, []), (1135, .iload 6, []), (1137, .i2l, []), (1138, .lcmp, []), (1139, .ifCond .eq 5, [1144]), (1142, .iconst 0, []), (1143, .ireturn, []), (1144, .goto 445, [1589]), (1147, .aload_n 1, []), (1148, .aload_n 0, []), (1149, .iload 4, []), (1151, .iconst 1, []), (1152, .iadd, []), (1153, .iaload, []), (1154, .aload_n 0, []), (1155, .iload 4, []), (1157, .iconst 2, []), (1158, .iadd, []), (1159, .iaload, []), (1160, .aload_n 3, []), (1164, .istore 5, []), (1166, .aload_n 2, []), (1167, .aload_n 0, []), (1168, .iload 4, []), (1170, .iconst 1, []), (1171, .iadd, []), (1172, .iaload, []), (1173, .aload_n 0, []), (1174, .iload 4, []), (1176, .iconst 2, []), (1177, .iadd, []), (1178, .iaload, []), (1179, .invokevirtual 151, [149, 0, 2, 7, 787, 788, 19, 786, 0, 785]), (1182, .istore 6, []), (1184, .aload_n 2, []), (1185, .invokevirtual 91, [131, 0, 0, 7, 696, 697, 19, 695, 0, 694]), (1188, .iload 5, []), (1190, .if_icmp .eq 5, [1195]), (1193, .iconst 0, []), (1194, .ireturn, []), (1195, .iload 5, []), (1197, .ifCond .ne 15, [1212]), (1200, .aload_n 3, []), (1201, .iconst 0, []), (1202, .laload, []), (1203, .iload 6, []), (1205, .i2l, []), (1206, .lcmp, []), (1207, .ifCond .eq 5, [1212]), (1210, .iconst 0, []), (1211, .ireturn, []), (1212, .goto 377, [1589]), (1215, .aload_n 1, []), (1216, .aload_n 0, []), (1217, .iload 4, []), (1219, .iconst 1, []), (1220, .iadd, []), (1221, .iaload, []), (1222, .aload_n 3, []), (1226, .istore 5, []), (1228, .aload_n 2, []), (1229, .aload_n 0, []), (1230, .iload 4, []), (1232, .iconst 1, []), (1233, .iadd, []), (1234, .iaload, []), (1235, .invokevirtual 154, [150, 0, 1, 7, 792, 793, 19, 791, 0, 790]), (1238, .istore 6, []), (1240, .aload_n 2, []), (1241, .invokevirtual 91, [131, 0, 0, 7, 696, 697, 19, 695, 0, 694]), (1244, .iload 5, []), (1246, .if_icmp .eq 5, [1251]), (1249, .iconst 0, []), (1250, .ireturn, []), (1251, .iload 5, []), (1253, .ifCond .ne 15, [1268]), (1256, .aload_n 3, []), (1257, .iconst 0, []), (1258, .laload, []), (1259, .iload 6, []), (1261, .i2l, []), (1262, .lcmp, []), (1263, .ifCond .eq 5, [1268]), (1266, .iconst 0, []), (1267, .ireturn, []), (1268, .goto 321, [1589]), (1271, .aload_n 1, []), (1272, .aload_n 0, []), (1273, .iload 4, []), (1275, .iconst 1, []), (1276, .iadd, []), (1277, .iaload, []), (1278, .aload_n 0, []), (1279, .iload 4, []), (1281, .iconst 2, []), (1282, .iadd, []), (1283, .iaload, []), (1284, .aload_n 0, []), (1285, .iload 4, []), (1287, .iconst 3, []), (1288, .iadd, []), (1289, .iaload, []), (1290, .aload_n 3, []), (1294, .istore 5, []), (1296, .aload_n 2, []), (1297, .aload_n 0, []), (1298, .iload 4, []), (1300, .iconst 1, []), (1301, .iadd, []), (1302, .iaload, []), (1303, .aload_n 0, []), (1304, .iload 4, []), (1306, .iconst 2, []), (1307, .iadd, []), (1308, .iaload, []), (1309, .aload_n 0, []), (1310, .iload 4, []), (1312, .iconst 3, []), (1313, .iadd, []), (1314, .iaload, []), (1315, .invokevirtual 157, [151, 0, 3, 7, 797, 798, 19, 796, 0, 795]), (1318, .istore 6, []), (1320, .aload_n 2, []), (1321, .invokevirtual 91, [131, 0, 0, 7, 696, 697, 19, 695, 0, 694]), (1324, .iload 5, []), (1326, .if_icmp .eq 5, [1331]), (1329, .iconst 0, []), (1330, .ireturn, []), (1331, .iload 5, []), (1333, .ifCond .ne 15, [1348]), (1336, .aload_n 3, []), (1337, .iconst 0, []), (1338, .laload, []), (1339, .iload 6, []), (1341, .i2l, []), (1342, .lcmp, []), (1343, .ifCond .eq 5, [1348]), (1346, .iconst 0, []), (1347, .ireturn, []), (1348, .goto 241, [1589]), (1351, .aload_n 1, []), (1352, .aload_n 0, []), (1353, .iload 4, []), (1355, .iconst 1, []), (1356, .iadd, []), (1357, .iaload, []), (1358, .aload_n 3, []), (1362, .istore 5, []), (1364, .aload_n 2, []), (1365, .aload_n 0, []), (1366, .iload 4, []), (1368, .iconst 1, []), (1369, .iadd, []), (1370, .iaload, []), (1371, .invokevirtual 160, [152, 0, 1, 7, 802, 803, 19, 801, 0, 800]), (1374, .istore 6, []), (1376, .aload_n 2, []), (1377, .invokevirtual 91, [131, 0, 0, 7, 696, 697, 19, 695, 0, 694]), (1380, .iload 5, []), (1382, .if_icmp .eq 5, [1387]), (1385, .iconst 0, []), (1386, .ireturn, []), (1387, .iload 5, []), (1389, .ifCond .ne 15, [1404]), (1392, .aload_n 3, []), (1393, .iconst 0, []), (1394, .laload, []), (1395, .iload 6, []), (1397, .i2l, []), (1398, .lcmp, []), (1399, .ifCond .eq 5, [1404]), (1402, .iconst 0, []), (1403, .ireturn, []), (1404, .goto 185, [1589]), (1407, .aload_n 1, []), (1408, .aload_n 0, []), (1409, .iload 4, []), (1411, .iconst 1, []), (1412, .iadd, []), (1413, .iaload, []), (1414, .aload_n 3, []), (1418, .istore 5, []), (1420, .aload_n 2, []), (1421, .aload_n 0, []), (1422, .iload 4, []), (1424, .iconst 1, []), (1425, .iadd, []), (1426, .iaload, []), (1427, .invokevirtual 163, [153, 0, 1, 7, 807, 808, 19, 806, 0, 805]), (1430, .istore 6, []), (1432, .aload_n 2, []), (1433, .invokevirtual 91, [131, 0, 0, 7, 696, 697, 19, 695, 0, 694]), (1436, .iload 5, []), (1438, .if_icmp .eq 5, [1443]), (1441, .iconst 0, []), (1442, .ireturn, []), (1443, .iload 5, []), (1445, .ifCond .ne 15, [1460]), (1448, .aload_n 3, []), (1449, .iconst 0, []), (1450, .laload, []), (1451, .iload 6, []), (1453, .i2l, []), (1454, .lcmp, []), (1455, .ifCond .eq 5, [1460]), (1458, .iconst 0, []), (1459, .ireturn, []), (1460, .goto 129, [1589]), (1463, .aload_n 1, []), (1464, .aload_n 0, []), (1465, .iload 4, []), (1467, .iconst 1, []), (1468, .iadd, []), (1469, .iaload, []), (1470, .aload_n 3, []), (1474, .istore 5, []), (1476, .aload_n 2, []), (1477, .aload_n 0, []), (1478, .iload 4, []), (1480, .iconst 1, []), (1481, .iadd, []), (1482, .iaload, []), (1483, .invokevirtual 166, [154, 0, 1, 7, 812, 813, 19, 811, 0, 810]), (1486, .istore 6, []), (1488, .aload_n 2, []), (1489, .invokevirtual 91, [131, 0, 0, 7, 696, 697, 19, 695, 0, 694]), (1492, .iload 5, []), (1494, .if_icmp .eq 5, [1499]), (1497, .iconst 0, []), (1498, .ireturn, []), (1499, .iload 5, []), (1501, .ifCond .ne 15, [1516]), (1504, .aload_n 3, []), (1505, .iconst 0, []), (1506, .laload, []), (1507, .iload 6, []), (1509, .i2l, []), (1510, .lcmp, []), (1511, .ifCond .eq 5, [1516]), (1514, .iconst 0, []), (1515, .ireturn, []), (1516, .goto 73, [1589]), (1519, .aload_n 1, []), (1520, .aload_n 0, []), (1521, .iload 4, []), (1523, .iconst 1, []), (1524, .iadd, []), (1525, .iaload, []), (1526, .aload_n 3, []), (1530, .istore 5, []), (1532, .aload_n 2, []), (1533, .aload_n 0, []), (1534, .iload 4, []), (1536, .iconst 1, []), (1537, .iadd, []), (1538, .iaload, []), (1539, .invokevirtual 169, [155, 0, 1, 7, 817, 818, 19, 816, 0, 815]), (1542, .istore 6, []), (1544, .aload_n 2, []), (1545, .invokevirtual 91, [131, 0, 0, 7, 696, 697, 19, 695, 0, 694]), (1548, .iload 5, []), (1550, .if_icmp .eq 5, [1555]), (1553, .iconst 0, []), (1554, .ireturn, []), (1555, .iload 5, []), (1557, .ifCond .ne 15, [1572]), (1560, .aload_n 3, []), (1561, .iconst 0, []), (1562, .laload, []), (1563, .iload 6, []), (1565, .i2l, []), (1566, .lcmp, []), (1567, .ifCond .eq 5, [1572]), (1570, .iconst 0, []), (1571, .ireturn, []), (1572, .goto 17, [1589]), (1575, .aload_n 1, []), (1576, .invokevirtual 170, [129, 0, 0, 6, 821, 822, 118, 820, 0, 819]), (1579, .aload_n 2, []), (1580, .invokevirtual 174, [156, 0, 0, 7, 825, 826, 19, 824, 0, 823]), (1583, .lcmp, []), (1584, .ifCond .eq 5, [1589]), (1587, .iconst 0, []), (1588, .ireturn, []), (1589, .iinc 4 4, []), (1592, .goto (-1569), [23]), (1595, .iconst 1, []), (1596, .ireturn, [])]
def zms : List zM := [zm_0, zm_1, zm_2, zm_3, zm_4, zm_5, zm_6, zm_7, zm_8, zm_9, zm_10, zm_11, zm_12, zm_13, zm_14, zm_15, zm_16, zm_17, zm_18, zm_19, zm_20, zm_21, zm_22, zm_23, zm_24, zm_25, zm_26, zm_27, zm_28, zm_29, zm_30, zm_31, zm_32, zm_33, zm_34, zm_35, zm_36, zm_37, zm_38, zm_39, zm_40, zm_41, zm_42, zm_43, zm_44, zm_45, zm_46, zm_47, zm_48, zm_49, zm_50, zm_51, zm_52, zm_53, zm_54, zm_55, zm_56, zm_57, zm_58, zm_59, zm_60, zm_61, zm_62, zm_63, zm_64, zm_65, zm_66, zm_67, zm_68, zm_69, zm_70, zm_71, zm_72, zm_73, zm_74, zm_75, zm_76, zm_77, zm_78, zm_79, zm_80, zm_81, zm_82, zm_83, zm_84, zm_85, zm_86, zm_87, zm_88, zm_89, zm_90, zm_91, zm_92, zm_93, zm_94, zm_95, zm_96, zm_97, zm_98, zm_99, zm_100, zm_101, zm_102, zm_103, zm_104, zm_105, zm_106, zm_107, zm_108, zm_109, zm_110, zm_111, zm_112, zm_113, zm_114, zm_115, zm_116, zm_117, zm_118, zm_119, zm_120, zm_121, zm_122, zm_123, zm_124, zm_125, zm_126, zm_127, zm_128, zm_129, zm_130, zm_131, zm_132, zm_133, zm_134, zm_135, zm_136, zm_137, zm_138, zm_139, zm_140, zm_141, zm_142, zm_143, zm_144, zm_145, zm_146, zm_147, zm_148, zm_149, zm_150, zm_151, zm_152, zm_153, zm_154, zm_155, zm_156, zm_157, zm_158, zm_159, zm_160, zm_161, zm_162, zm_163, zm_164, zm_165, zm_166, zm_167, zm_168, zm_169, zm_170, zm_171, zm_172, zm_173, zm_174, zm_175, zm_176, zm_177, zm_178]
def zcs : List (List (Nat × Instr × List Nat)) := [zc_0, zc_1, zc_2, zc_3, zc_4, zc_5, zc_6, zc_7, zc_8, zc_9, zc_10, zc_11, zc_12, zc_13, zc_14, zc_15, zc_16, zc_17, zc_18, zc_19, zc_20, zc_21, zc_22, zc_23, zc_24, zc_25, zc_26, zc_27, zc_28, zc_29, zc_30, zc_31, zc_32, zc_33, zc_34, zc_35, zc_36, zc_37, zc_38, zc_39, zc_40, zc_41, zc_42, zc_43, zc_44, zc_45, zc_46, zc_47, zc_48, zc_49, zc_50, zc_51, zc_52, zc_53, zc_54, zc_55, zc_56, zc_57, zc_58, zc_59, zc_60, zc_61, zc_62, zc_63, zc_64, zc_65, zc_66, zc_67, zc_68, zc_69, zc_70, zc_71, zc_72, zc_73, zc_74, zc_75, zc_76, zc_77, zc_78, zc_79, zc_80, zc_81, zc_82, zc_83, zc_84, zc_85, zc_86, zc_87, zc_88, zc_89, zc_90, zc_91, zc_92, zc_93, zc_94, zc_95, zc_96, zc_97, zc_98, zc_99, zc_100, zc_101, zc_102, zc_103, zc_104, zc_105, zc_106, zc_107, zc_108, zc_109, zc_110, zc_111, zc_112, zc_113, zc_114, zc_115, zc_116, zc_117, zc_118, zc_119, zc_120, zc_121, zc_122, zc_123, zc_124, zc_125, zc_126, zc_127, zc_128, zc_129, zc_130, zc_131, zc_132, zc_133, zc_134, zc_135, zc_136, zc_137, zc_138, zc_139, zc_140, zc_141, zc_142, zc_143, zc_144, zc_145, zc_146, zc_147, zc_148, zc_149, zc_150, zc_151, zc_152, zc_153, zc_154, zc_155, zc_156, zc_157, zc_158, zc_159, zc_160, zc_161, zc_162, zc_163, zc_164, zc_165, zc_166, zc_167, zc_168, zc_169, zc_170, zc_171, zc_172, zc_173, zc_174, zc_175, zc_176, zc_177, zc_178]
def zMt (y : Nat) : zM := zms.getD y zm_0
def zI (y pc : Nat) : Option (Instr × List Nat) := ((zcs.getD y []).find? (fun e => e.1 == pc)).map (fun e => e.2)
def zTB : zT := (zI, zMt)
/-- where each method's own code word stands in zall -/
def zcw : List Nat := [9, 233, 563, 132, 17, 360, 441, 268, 142, 45, 381, 587, 165, 116, 182, 263, 136, 368, 579, 172, 280, 508, 468, 21, 191, 472, 259, 124, 328, 567, 201, 40, 89, 350, 304, 254, 272, 284, 485, 386, 237, 147, 151, 516, 408, 29, 186, 575, 571, 111, 611, 583, 591, 595, 218, 599, 603, 607, 615, 619, 481, 504, 512, 520, 50, 390, 394, 398, 404, 242, 498, 74, 78, 83, 276, 433, 288, 490, 58, 308, 312, 63, 319, 526, 416, 363, 530, 421, 494, 68, 346, 354, 155, 159, 538, 437, 448, 452, 456, 550, 554, 558, 460, 464, 444, 542, 546, 102, 106, 178, 197, 93, 209, 214, 324, 681, 625, 629, 633, 637, 714, 643, 650, 655, 772, 659, 667, 671, 675, 820, 686, 695, 691, 700, 705, 710, 718, 723, 728, 733, 738, 743, 748, 753, 758, 763, 768, 776, 781, 786, 791, 796, 801, 806, 811, 816, 824, 0, 0, 0, 0, 0, 0, 0, 0, 0, 0, 0, 0, 0, 0, 0, 0, 0, 0, 0, 0, 0, 0]
def znm : Nat := 179
/-! words that are not good: the tables alone decide them, but they are no words of a contract -/
def zdecl : List MethodName := [⟨"java/lang/RuntimeException", "<init>", "()V"⟩, ⟨"java/lang/RuntimeException", "<init>", "(Ljava/lang/String;)V"⟩, ⟨"java/lang/Exception", "<init>", "()V"⟩, ⟨"java/lang/Exception", "<init>", "(Ljava/lang/String;)V"⟩, ⟨"java/lang/Throwable", "<init>", "()V"⟩, ⟨"java/lang/Throwable", "<init>", "(Ljava/lang/String;)V"⟩]
theorem zdecl_in : ∀ q ∈ zdecl, (Cond.declares q) ∈ lw_tbl := by
  have h : zdecl.map (fun q => (Cond.declares q)) = [470, 471, 472, 473, 474, 475].filterMap (fun i => lw_tbl[i]?) := by decide +kernel
  intro q hq
  have h2 : (Cond.declares q) ∈ [470, 471, 472, 473, 474, 475].filterMap (fun i => lw_tbl[i]?) := by
    rw [← h]
    exact List.mem_map.mpr ⟨q, hq, rfl⟩
  obtain ⟨i, -, hi⟩ := List.mem_filterMap.mp h2
  exact List.mem_of_getElem? hi
def zcast : List (String × String) := [("java/lang/IllegalArgumentException", "java/lang/IllegalArgumentException"), ("java/lang/IndexOutOfBoundsException", "java/lang/IndexOutOfBoundsException"), ("java/lang/IllegalStateException", "java/lang/IllegalStateException")]
theorem zcast_in : ∀ q ∈ zcast, (Cond.castable q.1 q.2) ∈ lw_tbl := by
  have h : zcast.map (fun q => (Cond.castable q.1 q.2)) = [469, 557, 688].filterMap (fun i => lw_tbl[i]?) := by decide +kernel
  intro q hq
  have h2 : (Cond.castable q.1 q.2) ∈ [469, 557, 688].filterMap (fun i => lw_tbl[i]?) := by
    rw [← h]
    exact List.mem_map.mpr ⟨q, hq, rfl⟩
  obtain ⟨i, -, hi⟩ := List.mem_filterMap.mp h2
  exact List.mem_of_getElem? hi
def zstr : List (String × Nat × String) := [("Nightjar", 127, "what is not 0 to 5"), ("Nightjar", 141, "no such line"), ("Nightjar", 144, "what is not 0 to 8"), ("Nightjar", 170, "no such template"), ("Nightjar", 172, "what is not 0 to 4"), ("Nightjar", 187, "no such place in the template"), ("Nightjar", 195, "no such hole in the template"), ("Nightjar", 259, "no such cause of the template"), ("Nightjar", 261, "what is not 0 to 3"), ("Nightjar", 206, "no such session"), ("Nightjar", 208, "what is not 0 to 6"), ("Nightjar", 244, "no such spike"), ("Nightjar", 246, "what is not 0 to 2"), ("Nightjar", 66, "no such time, source or level"), ("Nightjar", 77, "there are all the lines that there can be"), ("Nightjar", 87, "the time is below that of the last line"), ("Nightjar", 96, "no such word"), ("Nightjar", 104, "no line takes a word now"), ("Nightjar", 110, "most is not 1 to 70"), ("Nightjar", 119, "no such setting"), ("Nightjar", 121, "the setting is out of its range"), ("Nightjar", 162, "no such place in the line"), ("Nightjar", 227, "no such place in the session"), ("Nightjar", 238, "the window is less than 0"), ("Nightjar", 278, "the share is not 0 to 100"), ("Nightjar", 280, "the gap is not 0 to 1000"), ("Nightjar", 285, "the line is learned")]
theorem zstr_in : ∀ q ∈ zstr, (Cond.stringRef q.1 q.2.1 q.2.2) ∈ lw_tbl := by
  have h : zstr.map (fun q => (Cond.stringRef q.1 q.2.1 q.2.2)) = [508, 564, 571, 596, 597, 618, 625, 642, 643, 656, 657, 674, 675, 685, 695, 702, 714, 715, 727, 757, 758, 775, 808, 820, 845, 853, 862].filterMap (fun i => lw_tbl[i]?) := by decide +kernel
  intro q hq
  have h2 : (Cond.stringRef q.1 q.2.1 q.2.2) ∈ [508, 564, 571, 596, 597, 618, 625, 642, 643, 656, 657, 674, 675, 685, 695, 702, 714, 715, 727, 757, 758, 775, 808, 820, 845, 853, 862].filterMap (fun i => lw_tbl[i]?) := by
    rw [← h]
    exact List.mem_map.mpr ⟨q, hq, rfl⟩
  obtain ⟨i, -, hi⟩ := List.mem_filterMap.mp h2
  exact List.mem_of_getElem? hi
def zncast : List (String × String) := [("java/lang/IllegalStateException", "java/lang/IllegalArgumentException"), ("java/lang/IndexOutOfBoundsException", "java/lang/IllegalArgumentException"), ("java/lang/IllegalArgumentException", "java/lang/IllegalStateException"), ("java/lang/IndexOutOfBoundsException", "java/lang/IllegalStateException"), ("java/lang/IllegalArgumentException", "java/lang/IndexOutOfBoundsException"), ("java/lang/IllegalStateException", "java/lang/IndexOutOfBoundsException")]
/-- the tables of the wrappers -/
def zhh_line : List (Nat × Nat × Nat × Nat) := [(0, 12, 15, 13), (0, 12, 19, 15)]
def zhh_word : List (Nat × Nat × Nat × Nat) := [(0, 9, 12, 13), (0, 9, 15, 15)]
def zhh_learn : List (Nat × Nat × Nat × Nat) := [(0, 9, 12, 13)]
def zhh_set : List (Nat × Nat × Nat × Nat) := [(0, 10, 13, 13)]
def zhh_many : List (Nat × Nat × Nat × Nat) := [(0, 9, 12, 13)]
def zhh_ofLine : List (Nat × Nat × Nat × Nat) := [(0, 10, 13, 34), (0, 10, 17, 13)]
def zhh_wordAt : List (Nat × Nat × Nat × Nat) := [(0, 10, 13, 34)]
def zhh_ofTemplate : List (Nat × Nat × Nat × Nat) := [(0, 10, 13, 34), (0, 10, 17, 13)]
def zhh_slot : List (Nat × Nat × Nat × Nat) := [(0, 10, 13, 34)]
def zhh_values : List (Nat × Nat × Nat × Nat) := [(0, 10, 13, 34)]
def zhh_alike : List (Nat × Nat × Nat × Nat) := [(0, 10, 13, 34)]
def zhh_ofSession : List (Nat × Nat × Nat × Nat) := [(0, 10, 13, 34), (0, 10, 17, 13)]
def zhh_inSession : List (Nat × Nat × Nat × Nat) := [(0, 10, 13, 34)]
def zhh_count : List (Nat × Nat × Nat × Nat) := [(0, 10, 13, 34), (0, 10, 17, 13)]
def zhh_spike : List (Nat × Nat × Nat × Nat) := [(0, 10, 13, 34), (0, 10, 17, 13)]
def zhh_causes : List (Nat × Nat × Nat × Nat) := [(0, 9, 12, 34)]
def zhh_cause : List (Nat × Nat × Nat × Nat) := [(0, 12, 15, 34), (0, 12, 19, 13)]
def zhh_because : List (Nat × Nat × Nat × Nat) := [(0, 9, 12, 34)]
def zhh_templatesWith : List (Nat × Nat × Nat × Nat) := [(0, 9, 12, 13)]
def zhh_sessionsWith : List (Nat × Nat × Nat × Nat) := [(0, 9, 12, 13)]
def zhh_wouldBe : List (Nat × Nat × Nat × Nat) := [(0, 9, 12, 34), (0, 9, 15, 15)]
end
section
/-- the kinds of rows that are made -/
def zkin : List Nat := [0, 1, 2, 3]
/-! every row of the table is as the machine has it -/
def zsw : Instr → Bool
  | .tableswitch .. => true
  | .lookupswitch .. => true
  | _ => false
def zlen : Instr → Nat
  | .bipush _ => 2
  | .sipush _ => 3
  | .ldc _ => 2
  | .ldc_w _ => 3
  | .ldc2_w _ => 3
  | .iload _ => 2
  | .lload _ => 2
  | .dload _ => 2
  | .aload _ => 2
  | .istore _ => 2
  | .lstore _ => 2
  | .dstore _ => 2
  | .astore _ => 2
  | .iinc _ _ => 3
  | .ifCond _ _ => 3
  | .if_icmp _ _ => 3
  | .goto _ => 3
  | .getfield _ => 3
  | .putfield _ => 3
  | .invokevirtual _ => 3
  | .invokestatic _ => 3
  | .invokespecial _ => 3
  | .new _ => 3
  | .newarray _ => 2
  | .anewarray _ => 3
  | _ => 1
def zdc (bytes : ByteArray) (pc : Nat) (i : Instr) : Bool := match decode bytes pc with
  | .ok q => decide (q.1 = i) && (zsw i || decide (q.2 = zlen i))
  | .error _ => false
def zw (p : Nat) (w : Jvm.Cond) : Bool := decide ((zchk.getD (p / 60) [])[p % 60]? = some w)
def zcN (c : Nat) : String := (zcl.getD c ("", fun _ => ("", "", "", false), 0)).1
def zcF (c : Nat) : u_T := (zcl.getD c ("", fun _ => ("", "", "", false), 0)).2.1
def zcK (c : Nat) : Nat := (zcl.getD c ("", fun _ => ("", "", "", false), 0)).2.2
def zkd : FieldType → Nat
  | .int => 0
  | .object _ => 1
  | .array _ => 1
  | _ => 2
def zat1 : ArrayType → Nat
  | .int => 0
  | .long => 1
  | .boolean => 2
  | _ => 9
def zlink (k p : Nat) (own : String) (ix : Nat) (t : MethodName) : Bool := match k with
  | 0 => zw p (.methodLink own ix t)
  | _ => match znest[p]? with
    | some q => decide (q.1 = own ∧ q.2.1 = ix ∧ q.2.2.1 = t)
    | none => false
def zcallOK (y : Nat) (ix : Nat) (kind : Nat) (ax : List Nat) : Bool :=
  let own := (zMt y).1.cls
  let fr := (zMt y).2.2.2.2.1
  let lo := (zMt y).2.2.2.2.2
  match ax with
  | [_, 5, p1, p2, p3] => decide (kind = 2) && zw p1 (.methodLink own ix Lib.objectInit) && zw p2 (.instanceMethod Lib.objectInit) && zw p3 (.code Lib.objectInit ⟨#[0xb1]⟩ 1 none) && decide (1 ≤ fr) && decide (20 ≤ lo)
  | [_, 3, p1, p2, p3, p4] => decide (kind = 1) && zw p1 (.methodLink own ix arraycopyName) && zw p2 (.native arraycopyName) && zw p3 (.static arraycopyName) && zw p4 (.initialized "java/lang/System") && decide (1 ≤ fr) && decide (8 + (nativeFrameWords "java/lang/System" "arraycopy" 5 + 11) ≤ lo)
  | [_, 4, p1, p2, p3, p4] => decide (kind = 1) && zw p1 (.methodLink own ix Lib.Math.max.name) && zw p2 (.static Lib.Math.max.name) && zw p3 (.initialized "java/lang/Math") && zw p4 (.code Lib.Math.max.name Lib.Math.max.code 2 (some .int)) && decide (1 ≤ fr) && decide (21 ≤ lo)
  | [y', mode, n, ci, p1, p2, p3, p4, lk, lp] =>
    let t := (zMt y').1
    decide (y' < znm) && zlink lk lp own ix t && zw p3 (.initialized t.cls) && zw p4 (.code t (zMt y').2.1 (zMt y').2.2.1 (zMt y').2.2.2.1) && decide (t.cls ≠ "java/lang/invoke/MethodHandle" ∧ t.cls ≠ "java/lang/invoke/VarHandle") && decide ((parseMethodDescriptor t.desc).map (fun d => d.parameters.length) = some n) && decide ((zMt y').2.2.2.2.1 + 1 ≤ fr) && decide (8 + ((zMt y').2.2.1 + 11) + (zMt y').2.2.2.2.2 ≤ lo) && decide (kind = mode) &&
    (match mode with
      | 0 => decide (lk = 0) && decide (ci < zcl.length) && decide (zcN ci = t.cls) && zw p1 (.instanceMethod t) && zw p2 (.selects t.cls t t)
      | 1 => zw p1 (.static t)
      | 2 => zw p1 (.instanceMethod t) && decide (t.name = "<init>") && decide ((zMt y').2.2.2.1 = none)
      | _ => false)
  | _ => false
def zOK (y pc : Nat) (i : Instr) (ax : List Nat) : Bool :=
  let own := (zMt y).1.cls
  zdc (zMt y).2.1 pc i && (match i, ax with
  | .ldc ix, v :: p :: _ => zw p (.constant own ix (Int32.ofNat v))
  | .ldc _, _ => false
  | .ldc_w ix, v :: p :: _ => zw p (.constant own ix (Int32.ofNat v))
  | .ldc_w _, _ => false
  | .ldc2_w ix, v :: p :: _ => zw p (.constantLong own ix (Int64.ofNat v))
  | .ldc2_w _, _ => false
  | .ifCond _ off, t :: _ => decide ((pc : Int) + off = (t : Int))
  | .ifCond _ _, _ => false
  | .if_icmp _ off, t :: _ => decide ((pc : Int) + off = (t : Int))
  | .if_icmp _ _, _ => false
  | .goto off, t :: _ => decide ((pc : Int) + off = (t : Int))
  | .goto _, _ => false
  | .tableswitch d lo hi offs, t :: ts => decide ((pc : Int) + d = (t : Int)) && decide (offs.toList.map (fun o => (pc : Int) + o) = ts.map Int.ofNat) && decide (lo ≤ hi) && decide ((ts.length : Int) = hi - lo + 1)
  | .tableswitch .., _ => false
  | .getfield ix, [ci, k, p] => decide (ci < zcl.length) && decide (k < zcK ci) && zw p (.fieldLink own ix (zcF ci k).1 (zcF ci k).2.1 (zcF ci k).2.2.1)
  | .getfield _, _ => false
  | .putfield ix, [ci, k, kd, p] => decide (ci < zcl.length) && decide (k < zcK ci) && zw p (.fieldLink own ix (zcF ci k).1 (zcF ci k).2.1 (zcF ci k).2.2.1) && decide (zkd (ztyp ci k) = kd) && decide (kd < 2) && ((zcF ci k).2.2.2 == false || (decide ((zMt y).1.name = "<init>") && decide ((zcF ci k).1 = own)))
  | .putfield _, _ => false
  | .new ix, ci :: p1 :: p2 :: p3 :: ds => decide (ci < zcl.length) && zw p1 (.classLink own ix (zcN ci)) && zw p2 (.instantiable (zcN ci) (zcK ci)) && zw p3 (.initialized (zcN ci)) && decide ((zdef ds).length = zcK ci) && (List.range (zcK ci)).all (fun k => decide (defaultValue (ztyp ci k) = (zdef ds).getD k .null))
  | .new _, _ => false
  | .newarray a, t :: p :: _ => decide (zat1 a = t) && decide (t < 3) && decide (t ∈ zkin) && zw p (.arrayClass (newarray.typeOf a))
  | .newarray _, _ => false
  | .anewarray ix, t :: p :: _ => decide (t = 3) && decide (t ∈ zkin) && zw p (.classLink own ix "[I")
  | .anewarray _, _ => false
  | .invokevirtual ix, ax => zcallOK y ix 0 ax
  | .invokestatic ix, ax => zcallOK y ix 1 ax
  | .invokespecial ix, ax => zcallOK y ix 2 ax
  | .lookupswitch d ps, t :: ts => decide ((pc : Int) + d = (t : Int)) && decide (ps.toList.map (fun o => (pc : Int) + o.2) = ts.map Int.ofNat) && (ps.toList.zip (ps.toList.drop 1)).all (fun (a, next) => a.1 < next.1)
  | .lookupswitch .., _ => false
  | _, _ => true)
/-- a method of the table -/
def zMok (y : Nat) : Bool := plainName (zMt y).1.cls && (y == 0 || y != 0) && (match zcw[y]? with
  | some p => zw p (.code (zMt y).1 (zMt y).2.1 (zMt y).2.2.1 (zMt y).2.2.2.1) || decide ((zMt y).1.cls = "NightjarLaw")
  | none => false)
theorem zck_cut {y : Nat} {l : List (Nat × Instr × List Nat)} (k : Nat) (h1 : (l.take k).all (fun e => zOK y e.1 e.2.1 e.2.2) = true) (h2 : (l.drop k).all (fun e => zOK y e.1 e.2.1 e.2.2) = true) : l.all (fun e => zOK y e.1 e.2.1 e.2.2) = true := by
  have h : (l.take k ++ l.drop k).all (fun e => zOK y e.1 e.2.1 e.2.2) = true := by rw [List.all_append, h1, h2]; rfl
  rwa [List.take_append_drop] at h
end
section
theorem zck_0 : (zcs.getD 0 []).all (fun e => zOK 0 e.1 e.2.1 e.2.2) = true := by decide +kernel
theorem zcm_0 : zMok 0 = true := by decide +kernel
theorem zck_1 : (zcs.getD 1 []).all (fun e => zOK 1 e.1 e.2.1 e.2.2) = true := by decide +kernel
theorem zcm_1 : zMok 1 = true := by decide +kernel
theorem zck_2 : (zcs.getD 2 []).all (fun e => zOK 2 e.1 e.2.1 e.2.2) = true := by decide +kernel
theorem zcm_2 : zMok 2 = true := by decide +kernel
theorem zck_3 : (zcs.getD 3 []).all (fun e => zOK 3 e.1 e.2.1 e.2.2) = true := by decide +kernel
theorem zcm_3 : zMok 3 = true := by decide +kernel
theorem zck_4 : (zcs.getD 4 []).all (fun e => zOK 4 e.1 e.2.1 e.2.2) = true := by decide +kernel
theorem zcm_4 : zMok 4 = true := by decide +kernel
theorem zck_5 : (zcs.getD 5 []).all (fun e => zOK 5 e.1 e.2.1 e.2.2) = true := by decide +kernel
theorem zcm_5 : zMok 5 = true := by decide +kernel
theorem zck_6 : (zcs.getD 6 []).all (fun e => zOK 6 e.1 e.2.1 e.2.2) = true := by decide +kernel
theorem zcm_6 : zMok 6 = true := by decide +kernel
theorem zck_7 : (zcs.getD 7 []).all (fun e => zOK 7 e.1 e.2.1 e.2.2) = true := by decide +kernel
theorem zcm_7 : zMok 7 = true := by decide +kernel
theorem zck_8 : (zcs.getD 8 []).all (fun e => zOK 8 e.1 e.2.1 e.2.2) = true := by decide +kernel
theorem zcm_8 : zMok 8 = true := by decide +kernel
theorem zck_9 : (zcs.getD 9 []).all (fun e => zOK 9 e.1 e.2.1 e.2.2) = true := by decide +kernel
theorem zcm_9 : zMok 9 = true := by decide +kernel
theorem zck_10 : (zcs.getD 10 []).all (fun e => zOK 10 e.1 e.2.1 e.2.2) = true := by decide +kernel
theorem zcm_10 : zMok 10 = true := by decide +kernel
theorem zck_11 : (zcs.getD 11 []).all (fun e => zOK 11 e.1 e.2.1 e.2.2) = true := by decide +kernel
theorem zcm_11 : zMok 11 = true := by decide +kernel
theorem zck_12 : (zcs.getD 12 []).all (fun e => zOK 12 e.1 e.2.1 e.2.2) = true := by decide +kernel
theorem zcm_12 : zMok 12 = true := by decide +kernel
theorem zck_13 : (zcs.getD 13 []).all (fun e => zOK 13 e.1 e.2.1 e.2.2) = true := by decide +kernel
theorem zcm_13 : zMok 13 = true := by decide +kernel
theorem zck_14 : (zcs.getD 14 []).all (fun e => zOK 14 e.1 e.2.1 e.2.2) = true := by decide +kernel
theorem zcm_14 : zMok 14 = true := by decide +kernel
theorem zck_15 : (zcs.getD 15 []).all (fun e => zOK 15 e.1 e.2.1 e.2.2) = true := by decide +kernel
theorem zcm_15 : zMok 15 = true := by decide +kernel
theorem zck_16 : (zcs.getD 16 []).all (fun e => zOK 16 e.1 e.2.1 e.2.2) = true := by decide +kernel
theorem zcm_16 : zMok 16 = true := by decide +kernel
theorem zck_17 : (zcs.getD 17 []).all (fun e => zOK 17 e.1 e.2.1 e.2.2) = true := by decide +kernel
theorem zcm_17 : zMok 17 = true := by decide +kernel
theorem zck_18 : (zcs.getD 18 []).all (fun e => zOK 18 e.1 e.2.1 e.2.2) = true := by decide +kernel
theorem zcm_18 : zMok 18 = true := by decide +kernel
theorem zck_19 : (zcs.getD 19 []).all (fun e => zOK 19 e.1 e.2.1 e.2.2) = true := by decide +kernel
theorem zcm_19 : zMok 19 = true := by decide +kernel
theorem zck_20 : (zcs.getD 20 []).all (fun e => zOK 20 e.1 e.2.1 e.2.2) = true := by decide +kernel
theorem zcm_20 : zMok 20 = true := by decide +kernel
theorem zck_21 : (zcs.getD 21 []).all (fun e => zOK 21 e.1 e.2.1 e.2.2) = true := by decide +kernel
theorem zcm_21 : zMok 21 = true := by decide +kernel
theorem zck_22 : (zcs.getD 22 []).all (fun e => zOK 22 e.1 e.2.1 e.2.2) = true := by decide +kernel
theorem zcm_22 : zMok 22 = true := by decide +kernel
theorem zck_23 : (zcs.getD 23 []).all (fun e => zOK 23 e.1 e.2.1 e.2.2) = true := by decide +kernel
theorem zcm_23 : zMok 23 = true := by decide +kernel
theorem zck_24_0 : ((zcs.getD 24 []).take 50).all (fun e => zOK 24 e.1 e.2.1 e.2.2) = true := by decide +kernel
theorem zck_24_1 : ((zcs.getD 24 []).drop 50).all (fun e => zOK 24 e.1 e.2.1 e.2.2) = true := by decide +kernel
theorem zck_24 : (zcs.getD 24 []).all (fun e => zOK 24 e.1 e.2.1 e.2.2) = true := (zck_cut 50 zck_24_0 zck_24_1)
theorem zcm_24 : zMok 24 = true := by decide +kernel
theorem zck_25 : (zcs.getD 25 []).all (fun e => zOK 25 e.1 e.2.1 e.2.2) = true := by decide +kernel
theorem zcm_25 : zMok 25 = true := by decide +kernel
theorem zck_26 : (zcs.getD 26 []).all (fun e => zOK 26 e.1 e.2.1 e.2.2) = true := by decide +kernel
theorem zcm_26 : zMok 26 = true := by decide +kernel
theorem zck_27 : (zcs.getD 27 []).all (fun e => zOK 27 e.1 e.2.1 e.2.2) = true := by decide +kernel
theorem zcm_27 : zMok 27 = true := by decide +kernel
theorem zck_28 : (zcs.getD 28 []).all (fun e => zOK 28 e.1 e.2.1 e.2.2) = true := by decide +kernel
theorem zcm_28 : zMok 28 = true := by decide +kernel
theorem zck_29 : (zcs.getD 29 []).all (fun e => zOK 29 e.1 e.2.1 e.2.2) = true := by decide +kernel
theorem zcm_29 : zMok 29 = true := by decide +kernel
theorem zck_30 : (zcs.getD 30 []).all (fun e => zOK 30 e.1 e.2.1 e.2.2) = true := by decide +kernel
theorem zcm_30 : zMok 30 = true := by decide +kernel
theorem zck_31 : (zcs.getD 31 []).all (fun e => zOK 31 e.1 e.2.1 e.2.2) = true := by decide +kernel
theorem zcm_31 : zMok 31 = true := by decide +kernel
theorem zck_32 : (zcs.getD 32 []).all (fun e => zOK 32 e.1 e.2.1 e.2.2) = true := by decide +kernel
theorem zcm_32 : zMok 32 = true := by decide +kernel
theorem zck_33 : (zcs.getD 33 []).all (fun e => zOK 33 e.1 e.2.1 e.2.2) = true := by decide +kernel
theorem zcm_33 : zMok 33 = true := by decide +kernel
theorem zck_34 : (zcs.getD 34 []).all (fun e => zOK 34 e.1 e.2.1 e.2.2) = true := by decide +kernel
theorem zcm_34 : zMok 34 = true := by decide +kernel
theorem zck_35 : (zcs.getD 35 []).all (fun e => zOK 35 e.1 e.2.1 e.2.2) = true := by decide +kernel
theorem zcm_35 : zMok 35 = true := by decide +kernel
theorem zck_36 : (zcs.getD 36 []).all (fun e => zOK 36 e.1 e.2.1 e.2.2) = true := by decide +kernel
theorem zcm_36 : zMok 36 = true := by decide +kernel
theorem zck_37 : (zcs.getD 37 []).all (fun e => zOK 37 e.1 e.2.1 e.2.2) = true := by decide +kernel
theorem zcm_37 : zMok 37 = true := by decide +kernel
theorem zck_38 : (zcs.getD 38 []).all (fun e => zOK 38 e.1 e.2.1 e.2.2) = true := by decide +kernel
theorem zcm_38 : zMok 38 = true := by decide +kernel
theorem zck_39 : (zcs.getD 39 []).all (fun e => zOK 39 e.1 e.2.1 e.2.2) = true := by decide +kernel
theorem zcm_39 : zMok 39 = true := by decide +kernel
theorem zck_40 : (zcs.getD 40 []).all (fun e => zOK 40 e.1 e.2.1 e.2.2) = true := by decide +kernel
theorem zcm_40 : zMok 40 = true := by decide +kernel
theorem zck_41 : (zcs.getD 41 []).all (fun e => zOK 41 e.1 e.2.1 e.2.2) = true := by decide +kernel
theorem zcm_41 : zMok 41 = true := by decide +kernel
end
section
theorem zck_42 : (zcs.getD 42 []).all (fun e => zOK 42 e.1 e.2.1 e.2.2) = true := by decide +kernel
theorem zcm_42 : zMok 42 = true := by decide +kernel
theorem zck_43 : (zcs.getD 43 []).all (fun e => zOK 43 e.1 e.2.1 e.2.2) = true := by decide +kernel
theorem zcm_43 : zMok 43 = true := by decide +kernel
theorem zck_44 : (zcs.getD 44 []).all (fun e => zOK 44 e.1 e.2.1 e.2.2) = true := by decide +kernel
theorem zcm_44 : zMok 44 = true := by decide +kernel
theorem zck_45_0 : ((zcs.getD 45 []).take 50).all (fun e => zOK 45 e.1 e.2.1 e.2.2) = true := by decide +kernel
theorem zck_45_1 : (((zcs.getD 45 []).drop 50).take 50).all (fun e => zOK 45 e.1 e.2.1 e.2.2) = true := by decide +kernel
theorem zck_45_2 : ((zcs.getD 45 []).drop 100).all (fun e => zOK 45 e.1 e.2.1 e.2.2) = true := by decide +kernel
theorem zck_45 : (zcs.getD 45 []).all (fun e => zOK 45 e.1 e.2.1 e.2.2) = true := (zck_cut 50 zck_45_0 (zck_cut 50 zck_45_1 (by rw [List.drop_drop]; exact zck_45_2)))
theorem zcm_45 : zMok 45 = true := by decide +kernel
theorem zck_46_0 : ((zcs.getD 46 []).take 50).all (fun e => zOK 46 e.1 e.2.1 e.2.2) = true := by decide +kernel
theorem zck_46_1 : ((zcs.getD 46 []).drop 50).all (fun e => zOK 46 e.1 e.2.1 e.2.2) = true := by decide +kernel
theorem zck_46 : (zcs.getD 46 []).all (fun e => zOK 46 e.1 e.2.1 e.2.2) = true := (zck_cut 50 zck_46_0 zck_46_1)
theorem zcm_46 : zMok 46 = true := by decide +kernel
theorem zck_47 : (zcs.getD 47 []).all (fun e => zOK 47 e.1 e.2.1 e.2.2) = true := by decide +kernel
theorem zcm_47 : zMok 47 = true := by decide +kernel
theorem zck_48 : (zcs.getD 48 []).all (fun e => zOK 48 e.1 e.2.1 e.2.2) = true := by decide +kernel
theorem zcm_48 : zMok 48 = true := by decide +kernel
theorem zck_49 : (zcs.getD 49 []).all (fun e => zOK 49 e.1 e.2.1 e.2.2) = true := by decide +kernel
theorem zcm_49 : zMok 49 = true := by decide +kernel
theorem zck_50 : (zcs.getD 50 []).all (fun e => zOK 50 e.1 e.2.1 e.2.2) = true := by decide +kernel
theorem zcm_50 : zMok 50 = true := by decide +kernel
theorem zck_51 : (zcs.getD 51 []).all (fun e => zOK 51 e.1 e.2.1 e.2.2) = true := by decide +kernel
theorem zcm_51 : zMok 51 = true := by decide +kernel
theorem zck_52 : (zcs.getD 52 []).all (fun e => zOK 52 e.1 e.2.1 e.2.2) = true := by decide +kernel
theorem zcm_52 : zMok 52 = true := by decide +kernel
theorem zck_53 : (zcs.getD 53 []).all (fun e => zOK 53 e.1 e.2.1 e.2.2) = true := by decide +kernel
theorem zcm_53 : zMok 53 = true := by decide +kernel
theorem zck_54 : (zcs.getD 54 []).all (fun e => zOK 54 e.1 e.2.1 e.2.2) = true := by decide +kernel
theorem zcm_54 : zMok 54 = true := by decide +kernel
theorem zck_55_0 : ((zcs.getD 55 []).take 50).all (fun e => zOK 55 e.1 e.2.1 e.2.2) = true := by decide +kernel
theorem zck_55_1 : (((zcs.getD 55 []).drop 50).take 50).all (fun e => zOK 55 e.1 e.2.1 e.2.2) = true := by decide +kernel
theorem zck_55_2 : ((zcs.getD 55 []).drop 100).all (fun e => zOK 55 e.1 e.2.1 e.2.2) = true := by decide +kernel
theorem zck_55 : (zcs.getD 55 []).all (fun e => zOK 55 e.1 e.2.1 e.2.2) = true := (zck_cut 50 zck_55_0 (zck_cut 50 zck_55_1 (by rw [List.drop_drop]; exact zck_55_2)))
theorem zcm_55 : zMok 55 = true := by decide +kernel
theorem zck_56 : (zcs.getD 56 []).all (fun e => zOK 56 e.1 e.2.1 e.2.2) = true := by decide +kernel
theorem zcm_56 : zMok 56 = true := by decide +kernel
theorem zck_57 : (zcs.getD 57 []).all (fun e => zOK 57 e.1 e.2.1 e.2.2) = true := by decide +kernel
theorem zcm_57 : zMok 57 = true := by decide +kernel
theorem zck_58_0 : ((zcs.getD 58 []).take 50).all (fun e => zOK 58 e.1 e.2.1 e.2.2) = true := by decide +kernel
theorem zck_58_1 : ((zcs.getD 58 []).drop 50).all (fun e => zOK 58 e.1 e.2.1 e.2.2) = true := by decide +kernel
theorem zck_58 : (zcs.getD 58 []).all (fun e => zOK 58 e.1 e.2.1 e.2.2) = true := (zck_cut 50 zck_58_0 zck_58_1)
theorem zcm_58 : zMok 58 = true := by decide +kernel
theorem zck_59 : (zcs.getD 59 []).all (fun e => zOK 59 e.1 e.2.1 e.2.2) = true := by decide +kernel
theorem zcm_59 : zMok 59 = true := by decide +kernel
end
section
theorem zck_60 : (zcs.getD 60 []).all (fun e => zOK 60 e.1 e.2.1 e.2.2) = true := by decide +kernel
theorem zcm_60 : zMok 60 = true := by decide +kernel
theorem zck_61 : (zcs.getD 61 []).all (fun e => zOK 61 e.1 e.2.1 e.2.2) = true := by decide +kernel
theorem zcm_61 : zMok 61 = true := by decide +kernel
theorem zck_62 : (zcs.getD 62 []).all (fun e => zOK 62 e.1 e.2.1 e.2.2) = true := by decide +kernel
theorem zcm_62 : zMok 62 = true := by decide +kernel
theorem zck_63 : (zcs.getD 63 []).all (fun e => zOK 63 e.1 e.2.1 e.2.2) = true := by decide +kernel
theorem zcm_63 : zMok 63 = true := by decide +kernel
theorem zck_64 : (zcs.getD 64 []).all (fun e => zOK 64 e.1 e.2.1 e.2.2) = true := by decide +kernel
theorem zcm_64 : zMok 64 = true := by decide +kernel
theorem zck_65 : (zcs.getD 65 []).all (fun e => zOK 65 e.1 e.2.1 e.2.2) = true := by decide +kernel
theorem zcm_65 : zMok 65 = true := by decide +kernel
theorem zck_66 : (zcs.getD 66 []).all (fun e => zOK 66 e.1 e.2.1 e.2.2) = true := by decide +kernel
theorem zcm_66 : zMok 66 = true := by decide +kernel
theorem zck_67 : (zcs.getD 67 []).all (fun e => zOK 67 e.1 e.2.1 e.2.2) = true := by decide +kernel
theorem zcm_67 : zMok 67 = true := by decide +kernel
theorem zck_68 : (zcs.getD 68 []).all (fun e => zOK 68 e.1 e.2.1 e.2.2) = true := by decide +kernel
theorem zcm_68 : zMok 68 = true := by decide +kernel
theorem zck_69 : (zcs.getD 69 []).all (fun e => zOK 69 e.1 e.2.1 e.2.2) = true := by decide +kernel
theorem zcm_69 : zMok 69 = true := by decide +kernel
theorem zck_70 : (zcs.getD 70 []).all (fun e => zOK 70 e.1 e.2.1 e.2.2) = true := by decide +kernel
theorem zcm_70 : zMok 70 = true := by decide +kernel
theorem zck_71 : (zcs.getD 71 []).all (fun e => zOK 71 e.1 e.2.1 e.2.2) = true := by decide +kernel
theorem zcm_71 : zMok 71 = true := by decide +kernel
theorem zck_72 : (zcs.getD 72 []).all (fun e => zOK 72 e.1 e.2.1 e.2.2) = true := by decide +kernel
theorem zcm_72 : zMok 72 = true := by decide +kernel
theorem zck_73 : (zcs.getD 73 []).all (fun e => zOK 73 e.1 e.2.1 e.2.2) = true := by decide +kernel
theorem zcm_73 : zMok 73 = true := by decide +kernel
theorem zck_74 : (zcs.getD 74 []).all (fun e => zOK 74 e.1 e.2.1 e.2.2) = true := by decide +kernel
theorem zcm_74 : zMok 74 = true := by decide +kernel
theorem zck_75 : (zcs.getD 75 []).all (fun e => zOK 75 e.1 e.2.1 e.2.2) = true := by decide +kernel
theorem zcm_75 : zMok 75 = true := by decide +kernel
theorem zck_76 : (zcs.getD 76 []).all (fun e => zOK 76 e.1 e.2.1 e.2.2) = true := by decide +kernel
theorem zcm_76 : zMok 76 = true := by decide +kernel
theorem zck_77 : (zcs.getD 77 []).all (fun e => zOK 77 e.1 e.2.1 e.2.2) = true := by decide +kernel
theorem zcm_77 : zMok 77 = true := by decide +kernel
theorem zck_78 : (zcs.getD 78 []).all (fun e => zOK 78 e.1 e.2.1 e.2.2) = true := by decide +kernel
theorem zcm_78 : zMok 78 = true := by decide +kernel
theorem zck_79 : (zcs.getD 79 []).all (fun e => zOK 79 e.1 e.2.1 e.2.2) = true := by decide +kernel
theorem zcm_79 : zMok 79 = true := by decide +kernel
theorem zck_80 : (zcs.getD 80 []).all (fun e => zOK 80 e.1 e.2.1 e.2.2) = true := by decide +kernel
theorem zcm_80 : zMok 80 = true := by decide +kernel
theorem zck_81 : (zcs.getD 81 []).all (fun e => zOK 81 e.1 e.2.1 e.2.2) = true := by decide +kernel
theorem zcm_81 : zMok 81 = true := by decide +kernel
theorem zck_82 : (zcs.getD 82 []).all (fun e => zOK 82 e.1 e.2.1 e.2.2) = true := by decide +kernel
theorem zcm_82 : zMok 82 = true := by decide +kernel
theorem zck_83 : (zcs.getD 83 []).all (fun e => zOK 83 e.1 e.2.1 e.2.2) = true := by decide +kernel
theorem zcm_83 : zMok 83 = true := by decide +kernel
theorem zck_84 : (zcs.getD 84 []).all (fun e => zOK 84 e.1 e.2.1 e.2.2) = true := by decide +kernel
theorem zcm_84 : zMok 84 = true := by decide +kernel
theorem zck_85 : (zcs.getD 85 []).all (fun e => zOK 85 e.1 e.2.1 e.2.2) = true := by decide +kernel
theorem zcm_85 : zMok 85 = true := by decide +kernel
end
section
theorem zck_86 : (zcs.getD 86 []).all (fun e => zOK 86 e.1 e.2.1 e.2.2) = true := by decide +kernel
theorem zcm_86 : zMok 86 = true := by decide +kernel
theorem zck_87 : (zcs.getD 87 []).all (fun e => zOK 87 e.1 e.2.1 e.2.2) = true := by decide +kernel
theorem zcm_87 : zMok 87 = true := by decide +kernel
theorem zck_88 : (zcs.getD 88 []).all (fun e => zOK 88 e.1 e.2.1 e.2.2) = true := by decide +kernel
theorem zcm_88 : zMok 88 = true := by decide +kernel
theorem zck_89 : (zcs.getD 89 []).all (fun e => zOK 89 e.1 e.2.1 e.2.2) = true := by decide +kernel
theorem zcm_89 : zMok 89 = true := by decide +kernel
theorem zck_90 : (zcs.getD 90 []).all (fun e => zOK 90 e.1 e.2.1 e.2.2) = true := by decide +kernel
theorem zcm_90 : zMok 90 = true := by decide +kernel
theorem zck_91 : (zcs.getD 91 []).all (fun e => zOK 91 e.1 e.2.1 e.2.2) = true := by decide +kernel
theorem zcm_91 : zMok 91 = true := by decide +kernel
theorem zck_92 : (zcs.getD 92 []).all (fun e => zOK 92 e.1 e.2.1 e.2.2) = true := by decide +kernel
theorem zcm_92 : zMok 92 = true := by decide +kernel
theorem zck_93 : (zcs.getD 93 []).all (fun e => zOK 93 e.1 e.2.1 e.2.2) = true := by decide +kernel
theorem zcm_93 : zMok 93 = true := by decide +kernel
theorem zck_94 : (zcs.getD 94 []).all (fun e => zOK 94 e.1 e.2.1 e.2.2) = true := by decide +kernel
theorem zcm_94 : zMok 94 = true := by decide +kernel
theorem zck_95_0 : ((zcs.getD 95 []).take 50).all (fun e => zOK 95 e.1 e.2.1 e.2.2) = true := by decide +kernel
theorem zck_95_1 : ((zcs.getD 95 []).drop 50).all (fun e => zOK 95 e.1 e.2.1 e.2.2) = true := by decide +kernel
theorem zck_95 : (zcs.getD 95 []).all (fun e => zOK 95 e.1 e.2.1 e.2.2) = true := (zck_cut 50 zck_95_0 zck_95_1)
theorem zcm_95 : zMok 95 = true := by decide +kernel
theorem zck_96 : (zcs.getD 96 []).all (fun e => zOK 96 e.1 e.2.1 e.2.2) = true := by decide +kernel
theorem zcm_96 : zMok 96 = true := by decide +kernel
theorem zck_97 : (zcs.getD 97 []).all (fun e => zOK 97 e.1 e.2.1 e.2.2) = true := by decide +kernel
theorem zcm_97 : zMok 97 = true := by decide +kernel
theorem zck_98 : (zcs.getD 98 []).all (fun e => zOK 98 e.1 e.2.1 e.2.2) = true := by decide +kernel
theorem zcm_98 : zMok 98 = true := by decide +kernel
theorem zck_99 : (zcs.getD 99 []).all (fun e => zOK 99 e.1 e.2.1 e.2.2) = true := by decide +kernel
theorem zcm_99 : zMok 99 = true := by decide +kernel
theorem zck_100 : (zcs.getD 100 []).all (fun e => zOK 100 e.1 e.2.1 e.2.2) = true := by decide +kernel
theorem zcm_100 : zMok 100 = true := by decide +kernel
theorem zck_101 : (zcs.getD 101 []).all (fun e => zOK 101 e.1 e.2.1 e.2.2) = true := by decide +kernel
theorem zcm_101 : zMok 101 = true := by decide +kernel
theorem zck_102 : (zcs.getD 102 []).all (fun e => zOK 102 e.1 e.2.1 e.2.2) = true := by decide +kernel
theorem zcm_102 : zMok 102 = true := by decide +kernel
theorem zck_103 : (zcs.getD 103 []).all (fun e => zOK 103 e.1 e.2.1 e.2.2) = true := by decide +kernel
theorem zcm_103 : zMok 103 = true := by decide +kernel
theorem zck_104 : (zcs.getD 104 []).all (fun e => zOK 104 e.1 e.2.1 e.2.2) = true := by decide +kernel
theorem zcm_104 : zMok 104 = true := by decide +kernel
theorem zck_105 : (zcs.getD 105 []).all (fun e => zOK 105 e.1 e.2.1 e.2.2) = true := by decide +kernel
theorem zcm_105 : zMok 105 = true := by decide +kernel
theorem zck_106_0 : ((zcs.getD 106 []).take 50).all (fun e => zOK 106 e.1 e.2.1 e.2.2) = true := by decide +kernel
theorem zck_106_1 : ((zcs.getD 106 []).drop 50).all (fun e => zOK 106 e.1 e.2.1 e.2.2) = true := by decide +kernel
theorem zck_106 : (zcs.getD 106 []).all (fun e => zOK 106 e.1 e.2.1 e.2.2) = true := (zck_cut 50 zck_106_0 zck_106_1)
theorem zcm_106 : zMok 106 = true := by decide +kernel
theorem zck_107 : (zcs.getD 107 []).all (fun e => zOK 107 e.1 e.2.1 e.2.2) = true := by decide +kernel
theorem zcm_107 : zMok 107 = true := by decide +kernel
theorem zck_108 : (zcs.getD 108 []).all (fun e => zOK 108 e.1 e.2.1 e.2.2) = true := by decide +kernel
theorem zcm_108 : zMok 108 = true := by decide +kernel
theorem zck_109 : (zcs.getD 109 []).all (fun e => zOK 109 e.1 e.2.1 e.2.2) = true := by decide +kernel
theorem zcm_109 : zMok 109 = true := by decide +kernel
theorem zck_110 : (zcs.getD 110 []).all (fun e => zOK 110 e.1 e.2.1 e.2.2) = true := by decide +kernel
theorem zcm_110 : zMok 110 = true := by decide +kernel
end
section
theorem zck_111 : (zcs.getD 111 []).all (fun e => zOK 111 e.1 e.2.1 e.2.2) = true := by decide +kernel
theorem zcm_111 : zMok 111 = true := by decide +kernel
theorem zck_112 : (zcs.getD 112 []).all (fun e => zOK 112 e.1 e.2.1 e.2.2) = true := by decide +kernel
theorem zcm_112 : zMok 112 = true := by decide +kernel
theorem zck_113 : (zcs.getD 113 []).all (fun e => zOK 113 e.1 e.2.1 e.2.2) = true := by decide +kernel
theorem zcm_113 : zMok 113 = true := by decide +kernel
theorem zck_114 : (zcs.getD 114 []).all (fun e => zOK 114 e.1 e.2.1 e.2.2) = true := by decide +kernel
theorem zcm_114 : zMok 114 = true := by decide +kernel
theorem zck_115 : (zcs.getD 115 []).all (fun e => zOK 115 e.1 e.2.1 e.2.2) = true := by decide +kernel
theorem zcm_115 : zMok 115 = true := by decide +kernel
theorem zck_116 : (zcs.getD 116 []).all (fun e => zOK 116 e.1 e.2.1 e.2.2) = true := by decide +kernel
theorem zcm_116 : zMok 116 = true := by decide +kernel
theorem zck_117 : (zcs.getD 117 []).all (fun e => zOK 117 e.1 e.2.1 e.2.2) = true := by decide +kernel
theorem zcm_117 : zMok 117 = true := by decide +kernel
theorem zck_118 : (zcs.getD 118 []).all (fun e => zOK 118 e.1 e.2.1 e.2.2) = true := by decide +kernel
theorem zcm_118 : zMok 118 = true := by decide +kernel
theorem zck_119 : (zcs.getD 119 []).all (fun e => zOK 119 e.1 e.2.1 e.2.2) = true := by decide +kernel
theorem zcm_119 : zMok 119 = true := by decide +kernel
theorem zck_120 : (zcs.getD 120 []).all (fun e => zOK 120 e.1 e.2.1 e.2.2) = true := by decide +kernel
theorem zcm_120 : zMok 120 = true := by decide +kernel
theorem zck_121 : (zcs.getD 121 []).all (fun e => zOK 121 e.1 e.2.1 e.2.2) = true := by decide +kernel
theorem zcm_121 : zMok 121 = true := by decide +kernel
theorem zck_122 : (zcs.getD 122 []).all (fun e => zOK 122 e.1 e.2.1 e.2.2) = true := by decide +kernel
theorem zcm_122 : zMok 122 = true := by decide +kernel
theorem zck_123 : (zcs.getD 123 []).all (fun e => zOK 123 e.1 e.2.1 e.2.2) = true := by decide +kernel
theorem zcm_123 : zMok 123 = true := by decide +kernel
theorem zck_124 : (zcs.getD 124 []).all (fun e => zOK 124 e.1 e.2.1 e.2.2) = true := by decide +kernel
theorem zcm_124 : zMok 124 = true := by decide +kernel
theorem zck_125 : (zcs.getD 125 []).all (fun e => zOK 125 e.1 e.2.1 e.2.2) = true := by decide +kernel
theorem zcm_125 : zMok 125 = true := by decide +kernel
theorem zck_126 : (zcs.getD 126 []).all (fun e => zOK 126 e.1 e.2.1 e.2.2) = true := by decide +kernel
theorem zcm_126 : zMok 126 = true := by decide +kernel
theorem zck_127 : (zcs.getD 127 []).all (fun e => zOK 127 e.1 e.2.1 e.2.2) = true := by decide +kernel
theorem zcm_127 : zMok 127 = true := by decide +kernel
theorem zck_128 : (zcs.getD 128 []).all (fun e => zOK 128 e.1 e.2.1 e.2.2) = true := by decide +kernel
theorem zcm_128 : zMok 128 = true := by decide +kernel
theorem zck_129_0 : ((zcs.getD 129 []).take 50).all (fun e => zOK 129 e.1 e.2.1 e.2.2) = true := by decide +kernel
theorem zck_129_1 : ((zcs.getD 129 []).drop 50).all (fun e => zOK 129 e.1 e.2.1 e.2.2) = true := by decide +kernel
theorem zck_129 : (zcs.getD 129 []).all (fun e => zOK 129 e.1 e.2.1 e.2.2) = true := (zck_cut 50 zck_129_0 zck_129_1)
theorem zcm_129 : zMok 129 = true := by decide +kernel
theorem zck_130_0 : ((zcs.getD 130 []).take 50).all (fun e => zOK 130 e.1 e.2.1 e.2.2) = true := by decide +kernel
theorem zck_130_1 : ((zcs.getD 130 []).drop 50).all (fun e => zOK 130 e.1 e.2.1 e.2.2) = true := by decide +kernel
theorem zck_130 : (zcs.getD 130 []).all (fun e => zOK 130 e.1 e.2.1 e.2.2) = true := (zck_cut 50 zck_130_0 zck_130_1)
theorem zcm_130 : zMok 130 = true := by decide +kernel
theorem zck_131 : (zcs.getD 131 []).all (fun e => zOK 131 e.1 e.2.1 e.2.2) = true := by decide +kernel
theorem zcm_131 : zMok 131 = true := by decide +kernel
theorem zck_132 : (zcs.getD 132 []).all (fun e => zOK 132 e.1 e.2.1 e.2.2) = true := by decide +kernel
theorem zcm_132 : zMok 132 = true := by decide +kernel
end
section
theorem zck_133 : (zcs.getD 133 []).all (fun e => zOK 133 e.1 e.2.1 e.2.2) = true := by decide +kernel
theorem zcm_133 : zMok 133 = true := by decide +kernel
theorem zck_134 : (zcs.getD 134 []).all (fun e => zOK 134 e.1 e.2.1 e.2.2) = true := by decide +kernel
theorem zcm_134 : zMok 134 = true := by decide +kernel
theorem zck_135 : (zcs.getD 135 []).all (fun e => zOK 135 e.1 e.2.1 e.2.2) = true := by decide +kernel
theorem zcm_135 : zMok 135 = true := by decide +kernel
theorem zck_136 : (zcs.getD 136 []).all (fun e => zOK 136 e.1 e.2.1 e.2.2) = true := by decide +kernel
theorem zcm_136 : zMok 136 = true := by decide +kernel
theorem zck_137 : (zcs.getD 137 []).all (fun e => zOK 137 e.1 e.2.1 e.2.2) = true := by decide +kernel
theorem zcm_137 : zMok 137 = true := by decide +kernel
theorem zck_138 : (zcs.getD 138 []).all (fun e => zOK 138 e.1 e.2.1 e.2.2) = true := by decide +kernel
theorem zcm_138 : zMok 138 = true := by decide +kernel
theorem zck_139 : (zcs.getD 139 []).all (fun e => zOK 139 e.1 e.2.1 e.2.2) = true := by decide +kernel
theorem zcm_139 : zMok 139 = true := by decide +kernel
theorem zck_140 : (zcs.getD 140 []).all (fun e => zOK 140 e.1 e.2.1 e.2.2) = true := by decide +kernel
theorem zcm_140 : zMok 140 = true := by decide +kernel
theorem zck_141 : (zcs.getD 141 []).all (fun e => zOK 141 e.1 e.2.1 e.2.2) = true := by decide +kernel
theorem zcm_141 : zMok 141 = true := by decide +kernel
theorem zck_142 : (zcs.getD 142 []).all (fun e => zOK 142 e.1 e.2.1 e.2.2) = true := by decide +kernel
theorem zcm_142 : zMok 142 = true := by decide +kernel
theorem zck_143 : (zcs.getD 143 []).all (fun e => zOK 143 e.1 e.2.1 e.2.2) = true := by decide +kernel
theorem zcm_143 : zMok 143 = true := by decide +kernel
theorem zck_144 : (zcs.getD 144 []).all (fun e => zOK 144 e.1 e.2.1 e.2.2) = true := by decide +kernel
theorem zcm_144 : zMok 144 = true := by decide +kernel
theorem zck_145 : (zcs.getD 145 []).all (fun e => zOK 145 e.1 e.2.1 e.2.2) = true := by decide +kernel
theorem zcm_145 : zMok 145 = true := by decide +kernel
theorem zck_146 : (zcs.getD 146 []).all (fun e => zOK 146 e.1 e.2.1 e.2.2) = true := by decide +kernel
theorem zcm_146 : zMok 146 = true := by decide +kernel
theorem zck_147 : (zcs.getD 147 []).all (fun e => zOK 147 e.1 e.2.1 e.2.2) = true := by decide +kernel
theorem zcm_147 : zMok 147 = true := by decide +kernel
theorem zck_148 : (zcs.getD 148 []).all (fun e => zOK 148 e.1 e.2.1 e.2.2) = true := by decide +kernel
theorem zcm_148 : zMok 148 = true := by decide +kernel
theorem zck_149 : (zcs.getD 149 []).all (fun e => zOK 149 e.1 e.2.1 e.2.2) = true := by decide +kernel
theorem zcm_149 : zMok 149 = true := by decide +kernel
theorem zck_150 : (zcs.getD 150 []).all (fun e => zOK 150 e.1 e.2.1 e.2.2) = true := by decide +kernel
theorem zcm_150 : zMok 150 = true := by decide +kernel
theorem zck_151 : (zcs.getD 151 []).all (fun e => zOK 151 e.1 e.2.1 e.2.2) = true := by decide +kernel
theorem zcm_151 : zMok 151 = true := by decide +kernel
theorem zck_152 : (zcs.getD 152 []).all (fun e => zOK 152 e.1 e.2.1 e.2.2) = true := by decide +kernel
theorem zcm_152 : zMok 152 = true := by decide +kernel
theorem zck_153 : (zcs.getD 153 []).all (fun e => zOK 153 e.1 e.2.1 e.2.2) = true := by decide +kernel
theorem zcm_153 : zMok 153 = true := by decide +kernel
theorem zck_154 : (zcs.getD 154 []).all (fun e => zOK 154 e.1 e.2.1 e.2.2) = true := by decide +kernel
theorem zcm_154 : zMok 154 = true := by decide +kernel
theorem zck_155 : (zcs.getD 155 []).all (fun e => zOK 155 e.1 e.2.1 e.2.2) = true := by decide +kernel
theorem zcm_155 : zMok 155 = true := by decide +kernel
end
section
theorem zck_156_0 : ((zcs.getD 156 []).take 50).all (fun e => zOK 156 e.1 e.2.1 e.2.2) = true := by decide +kernel
theorem zck_156_1 : (((zcs.getD 156 []).drop 50).take 50).all (fun e => zOK 156 e.1 e.2.1 e.2.2) = true := by decide +kernel
theorem zck_156_2 : (((zcs.getD 156 []).drop 100).take 50).all (fun e => zOK 156 e.1 e.2.1 e.2.2) = true := by decide +kernel
theorem zck_156_3 : (((zcs.getD 156 []).drop 150).take 50).all (fun e => zOK 156 e.1 e.2.1 e.2.2) = true := by decide +kernel
theorem zck_156_4 : ((zcs.getD 156 []).drop 200).all (fun e => zOK 156 e.1 e.2.1 e.2.2) = true := by decide +kernel
theorem zck_156 : (zcs.getD 156 []).all (fun e => zOK 156 e.1 e.2.1 e.2.2) = true := (zck_cut 50 zck_156_0 (zck_cut 50 zck_156_1 (by rw [List.drop_drop]; exact (zck_cut 50 zck_156_2 (by rw [List.drop_drop]; exact (zck_cut 50 zck_156_3 (by rw [List.drop_drop]; exact zck_156_4)))))))
theorem zcm_156 : zMok 156 = true := by decide +kernel
theorem zck_157 : (zcs.getD 157 []).all (fun e => zOK 157 e.1 e.2.1 e.2.2) = true := by decide +kernel
theorem zcm_157 : zMok 157 = true := by decide +kernel
theorem zck_158 : (zcs.getD 158 []).all (fun e => zOK 158 e.1 e.2.1 e.2.2) = true := by decide +kernel
theorem zcm_158 : zMok 158 = true := by decide +kernel
theorem zck_159 : (zcs.getD 159 []).all (fun e => zOK 159 e.1 e.2.1 e.2.2) = true := by decide +kernel
theorem zcm_159 : zMok 159 = true := by decide +kernel
theorem zck_160 : (zcs.getD 160 []).all (fun e => zOK 160 e.1 e.2.1 e.2.2) = true := by decide +kernel
theorem zcm_160 : zMok 160 = true := by decide +kernel
theorem zck_161 : (zcs.getD 161 []).all (fun e => zOK 161 e.1 e.2.1 e.2.2) = true := by decide +kernel
theorem zcm_161 : zMok 161 = true := by decide +kernel
theorem zck_162 : (zcs.getD 162 []).all (fun e => zOK 162 e.1 e.2.1 e.2.2) = true := by decide +kernel
theorem zcm_162 : zMok 162 = true := by decide +kernel
theorem zck_163 : (zcs.getD 163 []).all (fun e => zOK 163 e.1 e.2.1 e.2.2) = true := by decide +kernel
theorem zcm_163 : zMok 163 = true := by decide +kernel
theorem zck_164 : (zcs.getD 164 []).all (fun e => zOK 164 e.1 e.2.1 e.2.2) = true := by decide +kernel
theorem zcm_164 : zMok 164 = true := by decide +kernel
theorem zck_165 : (zcs.getD 165 []).all (fun e => zOK 165 e.1 e.2.1 e.2.2) = true := by decide +kernel
theorem zcm_165 : zMok 165 = true := by decide +kernel
theorem zck_166 : (zcs.getD 166 []).all (fun e => zOK 166 e.1 e.2.1 e.2.2) = true := by decide +kernel
theorem zcm_166 : zMok 166 = true := by decide +kernel
theorem zck_167 : (zcs.getD 167 []).all (fun e => zOK 167 e.1 e.2.1 e.2.2) = true := by decide +kernel
theorem zcm_167 : zMok 167 = true := by decide +kernel
theorem zck_168 : (zcs.getD 168 []).all (fun e => zOK 168 e.1 e.2.1 e.2.2) = true := by decide +kernel
theorem zcm_168 : zMok 168 = true := by decide +kernel
theorem zck_169 : (zcs.getD 169 []).all (fun e => zOK 169 e.1 e.2.1 e.2.2) = true := by decide +kernel
theorem zcm_169 : zMok 169 = true := by decide +kernel
theorem zck_170 : (zcs.getD 170 []).all (fun e => zOK 170 e.1 e.2.1 e.2.2) = true := by decide +kernel
theorem zcm_170 : zMok 170 = true := by decide +kernel
theorem zck_171 : (zcs.getD 171 []).all (fun e => zOK 171 e.1 e.2.1 e.2.2) = true := by decide +kernel
theorem zcm_171 : zMok 171 = true := by decide +kernel
theorem zck_172 : (zcs.getD 172 []).all (fun e => zOK 172 e.1 e.2.1 e.2.2) = true := by decide +kernel
theorem zcm_172 : zMok 172 = true := by decide +kernel
theorem zck_173 : (zcs.getD 173 []).all (fun e => zOK 173 e.1 e.2.1 e.2.2) = true := by decide +kernel
theorem zcm_173 : zMok 173 = true := by decide +kernel
theorem zck_174 : (zcs.getD 174 []).all (fun e => zOK 174 e.1 e.2.1 e.2.2) = true := by decide +kernel
theorem zcm_174 : zMok 174 = true := by decide +kernel
theorem zck_175 : (zcs.getD 175 []).all (fun e => zOK 175 e.1 e.2.1 e.2.2) = true := by decide +kernel
theorem zcm_175 : zMok 175 = true := by decide +kernel
theorem zck_176 : (zcs.getD 176 []).all (fun e => zOK 176 e.1 e.2.1 e.2.2) = true := by decide +kernel
theorem zcm_176 : zMok 176 = true := by decide +kernel
theorem zck_177 : (zcs.getD 177 []).all (fun e => zOK 177 e.1 e.2.1 e.2.2) = true := by decide +kernel
theorem zcm_177 : zMok 177 = true := by decide +kernel
end
section
theorem zck_178_0 : ((zcs.getD 178 []).take 50).all (fun e => zOK 178 e.1 e.2.1 e.2.2) = true := by decide +kernel
theorem zck_178_1 : (((zcs.getD 178 []).drop 50).take 50).all (fun e => zOK 178 e.1 e.2.1 e.2.2) = true := by decide +kernel
theorem zck_178_2 : (((zcs.getD 178 []).drop 100).take 50).all (fun e => zOK 178 e.1 e.2.1 e.2.2) = true := by decide +kernel
theorem zck_178_3 : (((zcs.getD 178 []).drop 150).take 50).all (fun e => zOK 178 e.1 e.2.1 e.2.2) = true := by decide +kernel
theorem zck_178_4 : (((zcs.getD 178 []).drop 200).take 50).all (fun e => zOK 178 e.1 e.2.1 e.2.2) = true := by decide +kernel
theorem zck_178_5 : (((zcs.getD 178 []).drop 250).take 50).all (fun e => zOK 178 e.1 e.2.1 e.2.2) = true := by decide +kernel
theorem zck_178_6 : (((zcs.getD 178 []).drop 300).take 50).all (fun e => zOK 178 e.1 e.2.1 e.2.2) = true := by decide +kernel
theorem zck_178_7 : (((zcs.getD 178 []).drop 350).take 50).all (fun e => zOK 178 e.1 e.2.1 e.2.2) = true := by decide +kernel
theorem zck_178_8 : (((zcs.getD 178 []).drop 400).take 50).all (fun e => zOK 178 e.1 e.2.1 e.2.2) = true := by decide +kernel
theorem zck_178_9 : (((zcs.getD 178 []).drop 450).take 50).all (fun e => zOK 178 e.1 e.2.1 e.2.2) = true := by decide +kernel
theorem zck_178_10 : (((zcs.getD 178 []).drop 500).take 50).all (fun e => zOK 178 e.1 e.2.1 e.2.2) = true := by decide +kernel
theorem zck_178_11 : (((zcs.getD 178 []).drop 550).take 50).all (fun e => zOK 178 e.1 e.2.1 e.2.2) = true := by decide +kernel
theorem zck_178_12 : (((zcs.getD 178 []).drop 600).take 50).all (fun e => zOK 178 e.1 e.2.1 e.2.2) = true := by decide +kernel
theorem zck_178_13 : (((zcs.getD 178 []).drop 650).take 50).all (fun e => zOK 178 e.1 e.2.1 e.2.2) = true := by decide +kernel
theorem zck_178_14 : (((zcs.getD 178 []).drop 700).take 50).all (fun e => zOK 178 e.1 e.2.1 e.2.2) = true := by decide +kernel
theorem zck_178_15 : (((zcs.getD 178 []).drop 750).take 50).all (fun e => zOK 178 e.1 e.2.1 e.2.2) = true := by decide +kernel
theorem zck_178_16 : (((zcs.getD 178 []).drop 800).take 50).all (fun e => zOK 178 e.1 e.2.1 e.2.2) = true := by decide +kernel
theorem zck_178_17 : (((zcs.getD 178 []).drop 850).take 50).all (fun e => zOK 178 e.1 e.2.1 e.2.2) = true := by decide +kernel
theorem zck_178_18 : ((zcs.getD 178 []).drop 900).all (fun e => zOK 178 e.1 e.2.1 e.2.2) = true := by decide +kernel
theorem zck_178 : (zcs.getD 178 []).all (fun e => zOK 178 e.1 e.2.1 e.2.2) = true := (zck_cut 50 zck_178_0 (zck_cut 50 zck_178_1 (by rw [List.drop_drop]; exact (zck_cut 50 zck_178_2 (by rw [List.drop_drop]; exact (zck_cut 50 zck_178_3 (by rw [List.drop_drop]; exact (zck_cut 50 zck_178_4 (by rw [List.drop_drop]; exact (zck_cut 50 zck_178_5 (by rw [List.drop_drop]; exact (zck_cut 50 zck_178_6 (by rw [List.drop_drop]; exact (zck_cut 50 zck_178_7 (by rw [List.drop_drop]; exact (zck_cut 50 zck_178_8 (by rw [List.drop_drop]; exact (zck_cut 50 zck_178_9 (by rw [List.drop_drop]; exact (zck_cut 50 zck_178_10 (by rw [List.drop_drop]; exact (zck_cut 50 zck_178_11 (by rw [List.drop_drop]; exact (zck_cut 50 zck_178_12 (by rw [List.drop_drop]; exact (zck_cut 50 zck_178_13 (by rw [List.drop_drop]; exact (zck_cut 50 zck_178_14 (by rw [List.drop_drop]; exact (zck_cut 50 zck_178_15 (by rw [List.drop_drop]; exact (zck_cut 50 zck_178_16 (by rw [List.drop_drop]; exact (zck_cut 50 zck_178_17 (by rw [List.drop_drop]; exact zck_178_18)))))))))))))))))))))))))))))))))))
theorem zcm_178 : zMok 178 = true := by decide +kernel
end
section
theorem zck_all : ∀ y, y < znm → (zcs.getD y []).all (fun e => zOK y e.1 e.2.1 e.2.2) = true := by
  intro y hy
  match y, hy with
  | 0, _ => exact zck_0
  | 1, _ => exact zck_1
  | 2, _ => exact zck_2
  | 3, _ => exact zck_3
  | 4, _ => exact zck_4
  | 5, _ => exact zck_5
  | 6, _ => exact zck_6
  | 7, _ => exact zck_7
  | 8, _ => exact zck_8
  | 9, _ => exact zck_9
  | 10, _ => exact zck_10
  | 11, _ => exact zck_11
  | 12, _ => exact zck_12
  | 13, _ => exact zck_13
  | 14, _ => exact zck_14
  | 15, _ => exact zck_15
  | 16, _ => exact zck_16
  | 17, _ => exact zck_17
  | 18, _ => exact zck_18
  | 19, _ => exact zck_19
  | 20, _ => exact zck_20
  | 21, _ => exact zck_21
  | 22, _ => exact zck_22
  | 23, _ => exact zck_23
  | 24, _ => exact zck_24
  | 25, _ => exact zck_25
  | 26, _ => exact zck_26
  | 27, _ => exact zck_27
  | 28, _ => exact zck_28
  | 29, _ => exact zck_29
  | 30, _ => exact zck_30
  | 31, _ => exact zck_31
  | 32, _ => exact zck_32
  | 33, _ => exact zck_33
  | 34, _ => exact zck_34
  | 35, _ => exact zck_35
  | 36, _ => exact zck_36
  | 37, _ => exact zck_37
  | 38, _ => exact zck_38
  | 39, _ => exact zck_39
  | 40, _ => exact zck_40
  | 41, _ => exact zck_41
  | 42, _ => exact zck_42
  | 43, _ => exact zck_43
  | 44, _ => exact zck_44
  | 45, _ => exact zck_45
  | 46, _ => exact zck_46
  | 47, _ => exact zck_47
  | 48, _ => exact zck_48
  | 49, _ => exact zck_49
  | 50, _ => exact zck_50
  | 51, _ => exact zck_51
  | 52, _ => exact zck_52
  | 53, _ => exact zck_53
  | 54, _ => exact zck_54
  | 55, _ => exact zck_55
  | 56, _ => exact zck_56
  | 57, _ => exact zck_57
  | 58, _ => exact zck_58
  | 59, _ => exact zck_59
  | 60, _ => exact zck_60
  | 61, _ => exact zck_61
  | 62, _ => exact zck_62
  | 63, _ => exact zck_63
  | 64, _ => exact zck_64
  | 65, _ => exact zck_65
  | 66, _ => exact zck_66
  | 67, _ => exact zck_67
  | 68, _ => exact zck_68
  | 69, _ => exact zck_69
  | 70, _ => exact zck_70
  | 71, _ => exact zck_71
  | 72, _ => exact zck_72
  | 73, _ => exact zck_73
  | 74, _ => exact zck_74
  | 75, _ => exact zck_75
  | 76, _ => exact zck_76
  | 77, _ => exact zck_77
  | 78, _ => exact zck_78
  | 79, _ => exact zck_79
  | 80, _ => exact zck_80
  | 81, _ => exact zck_81
  | 82, _ => exact zck_82
  | 83, _ => exact zck_83
  | 84, _ => exact zck_84
  | 85, _ => exact zck_85
  | 86, _ => exact zck_86
  | 87, _ => exact zck_87
  | 88, _ => exact zck_88
  | 89, _ => exact zck_89
  | 90, _ => exact zck_90
  | 91, _ => exact zck_91
  | 92, _ => exact zck_92
  | 93, _ => exact zck_93
  | 94, _ => exact zck_94
  | 95, _ => exact zck_95
  | 96, _ => exact zck_96
  | 97, _ => exact zck_97
  | 98, _ => exact zck_98
  | 99, _ => exact zck_99
  | 100, _ => exact zck_100
  | 101, _ => exact zck_101
  | 102, _ => exact zck_102
  | 103, _ => exact zck_103
  | 104, _ => exact zck_104
  | 105, _ => exact zck_105
  | 106, _ => exact zck_106
  | 107, _ => exact zck_107
  | 108, _ => exact zck_108
  | 109, _ => exact zck_109
  | 110, _ => exact zck_110
  | 111, _ => exact zck_111
  | 112, _ => exact zck_112
  | 113, _ => exact zck_113
  | 114, _ => exact zck_114
  | 115, _ => exact zck_115
  | 116, _ => exact zck_116
  | 117, _ => exact zck_117
  | 118, _ => exact zck_118
  | 119, _ => exact zck_119
  | 120, _ => exact zck_120
  | 121, _ => exact zck_121
  | 122, _ => exact zck_122
  | 123, _ => exact zck_123
  | 124, _ => exact zck_124
  | 125, _ => exact zck_125
  | 126, _ => exact zck_126
  | 127, _ => exact zck_127
  | 128, _ => exact zck_128
  | 129, _ => exact zck_129
  | 130, _ => exact zck_130
  | 131, _ => exact zck_131
  | 132, _ => exact zck_132
  | 133, _ => exact zck_133
  | 134, _ => exact zck_134
  | 135, _ => exact zck_135
  | 136, _ => exact zck_136
  | 137, _ => exact zck_137
  | 138, _ => exact zck_138
  | 139, _ => exact zck_139
  | 140, _ => exact zck_140
  | 141, _ => exact zck_141
  | 142, _ => exact zck_142
  | 143, _ => exact zck_143
  | 144, _ => exact zck_144
  | 145, _ => exact zck_145
  | 146, _ => exact zck_146
  | 147, _ => exact zck_147
  | 148, _ => exact zck_148
  | 149, _ => exact zck_149
  | 150, _ => exact zck_150
  | 151, _ => exact zck_151
  | 152, _ => exact zck_152
  | 153, _ => exact zck_153
  | 154, _ => exact zck_154
  | 155, _ => exact zck_155
  | 156, _ => exact zck_156
  | 157, _ => exact zck_157
  | 158, _ => exact zck_158
  | 159, _ => exact zck_159
  | 160, _ => exact zck_160
  | 161, _ => exact zck_161
  | 162, _ => exact zck_162
  | 163, _ => exact zck_163
  | 164, _ => exact zck_164
  | 165, _ => exact zck_165
  | 166, _ => exact zck_166
  | 167, _ => exact zck_167
  | 168, _ => exact zck_168
  | 169, _ => exact zck_169
  | 170, _ => exact zck_170
  | 171, _ => exact zck_171
  | 172, _ => exact zck_172
  | 173, _ => exact zck_173
  | 174, _ => exact zck_174
  | 175, _ => exact zck_175
  | 176, _ => exact zck_176
  | 177, _ => exact zck_177
  | 178, _ => exact zck_178
  | k + 179, hy => exact absurd hy (by unfold znm; omega)
theorem zcm_all : ∀ y, y < znm → zMok y = true := by
  intro y hy
  match y, hy with
  | 0, _ => exact zcm_0
  | 1, _ => exact zcm_1
  | 2, _ => exact zcm_2
  | 3, _ => exact zcm_3
  | 4, _ => exact zcm_4
  | 5, _ => exact zcm_5
  | 6, _ => exact zcm_6
  | 7, _ => exact zcm_7
  | 8, _ => exact zcm_8
  | 9, _ => exact zcm_9
  | 10, _ => exact zcm_10
  | 11, _ => exact zcm_11
  | 12, _ => exact zcm_12
  | 13, _ => exact zcm_13
  | 14, _ => exact zcm_14
  | 15, _ => exact zcm_15
  | 16, _ => exact zcm_16
  | 17, _ => exact zcm_17
  | 18, _ => exact zcm_18
  | 19, _ => exact zcm_19
  | 20, _ => exact zcm_20
  | 21, _ => exact zcm_21
  | 22, _ => exact zcm_22
  | 23, _ => exact zcm_23
  | 24, _ => exact zcm_24
  | 25, _ => exact zcm_25
  | 26, _ => exact zcm_26
  | 27, _ => exact zcm_27
  | 28, _ => exact zcm_28
  | 29, _ => exact zcm_29
  | 30, _ => exact zcm_30
  | 31, _ => exact zcm_31
  | 32, _ => exact zcm_32
  | 33, _ => exact zcm_33
  | 34, _ => exact zcm_34
  | 35, _ => exact zcm_35
  | 36, _ => exact zcm_36
  | 37, _ => exact zcm_37
  | 38, _ => exact zcm_38
  | 39, _ => exact zcm_39
  | 40, _ => exact zcm_40
  | 41, _ => exact zcm_41
  | 42, _ => exact zcm_42
  | 43, _ => exact zcm_43
  | 44, _ => exact zcm_44
  | 45, _ => exact zcm_45
  | 46, _ => exact zcm_46
  | 47, _ => exact zcm_47
  | 48, _ => exact zcm_48
  | 49, _ => exact zcm_49
  | 50, _ => exact zcm_50
  | 51, _ => exact zcm_51
  | 52, _ => exact zcm_52
  | 53, _ => exact zcm_53
  | 54, _ => exact zcm_54
  | 55, _ => exact zcm_55
  | 56, _ => exact zcm_56
  | 57, _ => exact zcm_57
  | 58, _ => exact zcm_58
  | 59, _ => exact zcm_59
  | 60, _ => exact zcm_60
  | 61, _ => exact zcm_61
  | 62, _ => exact zcm_62
  | 63, _ => exact zcm_63
  | 64, _ => exact zcm_64
  | 65, _ => exact zcm_65
  | 66, _ => exact zcm_66
  | 67, _ => exact zcm_67
  | 68, _ => exact zcm_68
  | 69, _ => exact zcm_69
  | 70, _ => exact zcm_70
  | 71, _ => exact zcm_71
  | 72, _ => exact zcm_72
  | 73, _ => exact zcm_73
  | 74, _ => exact zcm_74
  | 75, _ => exact zcm_75
  | 76, _ => exact zcm_76
  | 77, _ => exact zcm_77
  | 78, _ => exact zcm_78
  | 79, _ => exact zcm_79
  | 80, _ => exact zcm_80
  | 81, _ => exact zcm_81
  | 82, _ => exact zcm_82
  | 83, _ => exact zcm_83
  | 84, _ => exact zcm_84
  | 85, _ => exact zcm_85
  | 86, _ => exact zcm_86
  | 87, _ => exact zcm_87
  | 88, _ => exact zcm_88
  | 89, _ => exact zcm_89
  | 90, _ => exact zcm_90
  | 91, _ => exact zcm_91
  | 92, _ => exact zcm_92
  | 93, _ => exact zcm_93
  | 94, _ => exact zcm_94
  | 95, _ => exact zcm_95
  | 96, _ => exact zcm_96
  | 97, _ => exact zcm_97
  | 98, _ => exact zcm_98
  | 99, _ => exact zcm_99
  | 100, _ => exact zcm_100
  | 101, _ => exact zcm_101
  | 102, _ => exact zcm_102
  | 103, _ => exact zcm_103
  | 104, _ => exact zcm_104
  | 105, _ => exact zcm_105
  | 106, _ => exact zcm_106
  | 107, _ => exact zcm_107
  | 108, _ => exact zcm_108
  | 109, _ => exact zcm_109
  | 110, _ => exact zcm_110
  | 111, _ => exact zcm_111
  | 112, _ => exact zcm_112
  | 113, _ => exact zcm_113
  | 114, _ => exact zcm_114
  | 115, _ => exact zcm_115
  | 116, _ => exact zcm_116
  | 117, _ => exact zcm_117
  | 118, _ => exact zcm_118
  | 119, _ => exact zcm_119
  | 120, _ => exact zcm_120
  | 121, _ => exact zcm_121
  | 122, _ => exact zcm_122
  | 123, _ => exact zcm_123
  | 124, _ => exact zcm_124
  | 125, _ => exact zcm_125
  | 126, _ => exact zcm_126
  | 127, _ => exact zcm_127
  | 128, _ => exact zcm_128
  | 129, _ => exact zcm_129
  | 130, _ => exact zcm_130
  | 131, _ => exact zcm_131
  | 132, _ => exact zcm_132
  | 133, _ => exact zcm_133
  | 134, _ => exact zcm_134
  | 135, _ => exact zcm_135
  | 136, _ => exact zcm_136
  | 137, _ => exact zcm_137
  | 138, _ => exact zcm_138
  | 139, _ => exact zcm_139
  | 140, _ => exact zcm_140
  | 141, _ => exact zcm_141
  | 142, _ => exact zcm_142
  | 143, _ => exact zcm_143
  | 144, _ => exact zcm_144
  | 145, _ => exact zcm_145
  | 146, _ => exact zcm_146
  | 147, _ => exact zcm_147
  | 148, _ => exact zcm_148
  | 149, _ => exact zcm_149
  | 150, _ => exact zcm_150
  | 151, _ => exact zcm_151
  | 152, _ => exact zcm_152
  | 153, _ => exact zcm_153
  | 154, _ => exact zcm_154
  | 155, _ => exact zcm_155
  | 156, _ => exact zcm_156
  | 157, _ => exact zcm_157
  | 158, _ => exact zcm_158
  | 159, _ => exact zcm_159
  | 160, _ => exact zcm_160
  | 161, _ => exact zcm_161
  | 162, _ => exact zcm_162
  | 163, _ => exact zcm_163
  | 164, _ => exact zcm_164
  | 165, _ => exact zcm_165
  | 166, _ => exact zcm_166
  | 167, _ => exact zcm_167
  | 168, _ => exact zcm_168
  | 169, _ => exact zcm_169
  | 170, _ => exact zcm_170
  | 171, _ => exact zcm_171
  | 172, _ => exact zcm_172
  | 173, _ => exact zcm_173
  | 174, _ => exact zcm_174
  | 175, _ => exact zcm_175
  | 176, _ => exact zcm_176
  | 177, _ => exact zcm_177
  | 178, _ => exact zcm_178
  | k + 179, hy => exact absurd hy (by unfold znm; omega)
theorem zcs_len : zcs.length = znm := by decide +kernel
theorem zms_len : zms.length = znm := by decide +kernel
/-- a class of the table: its fields are as the tables lay them -/
def zlayOK (ci : Nat) : Bool := (List.range (zcK ci)).all (fun k => zw ((zlay.getD ci []).getD k 0) (u_lay (zcN ci) (zcF ci) k) && decide (parseFieldDescriptor (zcF ci k).2.2.1 = some (ztyp ci k)) && (List.range (zcK ci)).all (fun j => decide (j = k ∨ (zcF ci j).2.1 ≠ (zcF ci k).2.1)))
theorem zcl_ok_0 : zlayOK 0 = true := by decide +kernel
theorem zcl_ok_1 : zlayOK 1 = true := by decide +kernel
theorem zcl_ok_2 : zlayOK 2 = true := by decide +kernel
theorem zcl_ok_3 : zlayOK 3 = true := by decide +kernel
theorem zcl_ok_4 : zlayOK 4 = true := by decide +kernel
theorem zcl_ok_5 : zlayOK 5 = true := by decide +kernel
theorem zcl_ok_6 : zlayOK 6 = true := by decide +kernel
theorem zcl_ok_7 : zlayOK 7 = true := by decide +kernel
theorem zcl_all : ∀ ci, ci < zcl.length → zlayOK ci = true := by
  intro ci h
  match ci, h with
  | 0, _ => exact zcl_ok_0
  | 1, _ => exact zcl_ok_1
  | 2, _ => exact zcl_ok_2
  | 3, _ => exact zcl_ok_3
  | 4, _ => exact zcl_ok_4
  | 5, _ => exact zcl_ok_5
  | 6, _ => exact zcl_ok_6
  | 7, _ => exact zcl_ok_7
  | k + 8, h => exact absurd h (by simp [zcl])
end
section
/-! THE MACHINE'S HEAP AND THE PURE CELLS: cell i stands at the address al i; the script is cell 0, and is never written -/
def zv (al : Nat → Nat) : Value → Value
  | .ref i => .ref (al i)
  | v => v
theorem zv_cat (al : Nat → Nat) (v : Value) : (zv al v).category = v.category := by cases v <;> rfl
theorem zv_cats (al : Nat → Nat) (st : List Value) : ((st.map (zv al)).map fun v => v.category).sum = (st.map fun v => v.category).sum := by
  rw [List.map_map]
  congr 1
  exact List.map_congr_left fun v _ => zv_cat al v
def zca (al : Nat → Nat) (a : vp_A) : vp_A := (a.1, match a.2 with
  | .inr (.inr (.inr (.inr f))) => .inr (.inr (.inr (.inr (fun j => (f j).map al))))
  | x => x)
def zmc (al : Nat → Nat) (CA : Nat → ClassId) : zE → va_E
  | .inl a => .inl (CA a.1, zca al a.2)
  | .inr o => .inr (o.1, o.2.map (zv al))
def zkty : Nat → FieldType
  | 0 => .int
  | 1 => .long
  | 2 => .boolean
  | _ => .array .int
def zAt (al : Nat → Nat) (CA : Nat → ClassId) (D : va_G) (i : Nat) (e : zE) (H : Heap) : Prop := (∀ a, e = .inl a → a.1 ∈ zkin) ∧ va_at D zcl (al i, zmc al CA e) H
def zHH (al : Nat → Nat) (CA : Nat → ClassId) (D : va_G) (h : zH) (H : Heap) : Prop := (1 ≤ h.length ∧ ∀ i, h.length ≤ i → al (i + 1) = al i + 1) ∧ H.size = al h.length ∧ ∀ (i : Nat) (e : zE), h[i]? = some e → zAt al CA D i e H
/-- the numbering: no two cells at one address (new cells stand behind each other: zHH) -/
def zal (al : Nat → Nat) : Prop := (∀ i j, al i = al j → i = j) ∧ True
/-- the cells that may be written -/
def zA (al : Nat → Nat) : Addr → Prop := fun q => ∃ i, 1 ≤ i ∧ al i ≤ q
def zK3 (CA : Nat → ClassId) (U : State) : Prop := (∃ (k kc : Class), U.vm.classes[CA 3]? = some k ∧ k.kind = .array (CA 0) (.array .int) ∧ U.vm.classes[CA 0]? = some kc) ∧ (Jvm.Cond.arrayOver (.array .int)).before #[] U = true
/-- what the tables say, at any state of the run -/
def zK (D : va_G) (CA : Nat → ClassId) (U : State) : Prop := va_K D zcl [] U ∧ (∀ t ∈ zkin, ArrOfT U (CA t) (zkty t) ∧ U.vm.findClass ("[" ++ (zkty t).toString) = some (CA t)) ∧ (3 ∈ zkin → zK3 CA U) ∧ ∀ q ∈ znest, va_Nw (.methodLinkNest q.1 q.2.1 q.2.2.1 q.2.2.2) U
theorem zAO_moved {u U : State} (hvm : u.vm.Alike U.vm) (h : (Jvm.Cond.arrayOver (.array .int)).before #[] u = true) : (Jvm.Cond.arrayOver (.array .int)).before #[] U = true := by
  obtain ⟨comp, c, k, h1, h2, h3, h4, h5⟩ := arrayOverA_spec h
  obtain ⟨k', hk', he⟩ := hvm.2.2 _ _ h3
  have key := va_idx_bare U.vm comp
  have key2 := va_idx_bare u.vm comp
  have hb : U.vm.bare = u.vm.bare := by first | exact hvm.bare_eq.symm | exact hvm.bare_eq
  rw [hb] at key
  have hi := key.symm.trans (key2.trans h2)
  have hkind : k'.kind = .array comp (.array .int) := by rw [he]; exact h4
  have f1 : U.vm.findClass (FieldType.array .int).toString = some comp := by rw [hvm.findClass]; exact h1
  have f2 : U.vm.findClass ("[" ++ (FieldType.array .int).toString) = some c := by rw [hvm.findClass]; exact h5
  unfold Jvm.Cond.before Jvm.Cond.holds
  simp only [Jvm.Cond.value]
  rw [f1, Option.bind_some]
  refine (congrArg (fun o : Option Nat => (o.bind (fun c => (U.vm.classes[c]?).map fun (k : Class) => match k.kind with | .array _ ty => decide (ty = FieldType.array .int) && decide (U.vm.findClass ("[" ++ (FieldType.array .int).toString) = some c) | _ => false) == some true)) hi).trans ?_
  simp [hk', hkind, f2]
theorem zK3_moved {CA : Nat → ClassId} {u U : State} (hvm : u.vm.Alike U.vm) (h : zK3 CA u) : zK3 CA U := by
  obtain ⟨⟨k, kc, h1, h2, h3⟩, h4⟩ := h
  obtain ⟨k', hk', he⟩ := hvm.2.2 _ _ h1
  obtain ⟨kc', hkc', -⟩ := hvm.2.2 _ _ h3
  exact ⟨⟨k', kc', hk', by rw [he]; exact h2, hkc'⟩, zAO_moved hvm h4⟩
theorem zK_warm {D : va_G} {CA : Nat → ClassId} {s U : State} (hW : s.WarmedH U.vm) (h : zK D CA s) : zK D CA U := by
  obtain ⟨h1, h2, h3, h4⟩ := h
  have hvm : s.vm.Alike U.vm := hW.alike
  refine ⟨va_K.moved hvm h1, fun t ht => ⟨arrOfT_moved hvm (h2 t ht).1, ?_⟩, fun h => zK3_moved hvm (h3 h), fun q hq => va_Nw.warmM hW (h4 q hq)⟩
  rw [hvm.findClass]
  exact (h2 t ht).2
theorem zK_same {D : va_G} {CA : Nat → ClassId} {u U : State} (hvm : u.vm = U.vm) (h : zK D CA u) : zK D CA U := by
  obtain ⟨h1, h2, h3, h4⟩ := h
  have ha : u.vm.Alike U.vm := hvm ▸ Vm.Alike.refl _
  refine ⟨va_K.moved ha h1, fun t ht => ⟨arrOfT_moved ha (h2 t ht).1, ?_⟩, fun h => zK3_moved ha (h3 h), fun q hq => va_Nw.same rfl hvm (h4 q hq)⟩
  rw [← hvm]
  exact (h2 t ht).2
theorem zAt_lt {al : Nat → Nat} {CA : Nat → ClassId} {D : va_G} {i : Nat} {e : zE} {H : Heap} (h : zAt al CA D i e H) : al i < H.size := h.2.lt
theorem zAt_kept {al : Nat → Nat} {CA : Nat → ClassId} {D : va_G} {i : Nat} {e : zE} {H H1 : Heap} (h : zAt al CA D i e H) (hq : H1[al i]? = H[al i]?) : zAt al CA D i e H1 := ⟨h.1, h.2.kept hq⟩
theorem zHH_set {al : Nat → Nat} {CA : Nat → ClassId} {D : va_G} {h : zH} {H H1 : Heap} {i : Nat} {e' : zE} (ha : zal al) (hH : zHH al CA D h H) (hi : i < h.length) (z : H1.size = H.size) (oq : ∀ q, q ≠ al i → H1[q]? = H[q]?) (he : zAt al CA D i e' H1) : zHH al CA D (h.set i e') H1 := by
  refine ⟨by rw [List.length_set]; exact hH.1, by rw [List.length_set, z]; exact hH.2.1, fun j e hj => ?_⟩
  by_cases hij : i = j
  · subst hij
    rw [List.getElem?_set_self hi] at hj
    cases hj
    exact he
  · rw [List.getElem?_set_ne hij] at hj
    exact zAt_kept (hH.2.2 j e hj) (oq _ fun q => hij (ha.1 _ _ q).symm)
theorem zHH_app {al : Nat → Nat} {CA : Nat → ClassId} {D : va_G} {h : zH} {H H1 : Heap} {e' : zE} (ha : zal al) (hH : zHH al CA D h H) (z : H1.size = H.size + 1) (oq : ∀ q, q < H.size → H1[q]? = H[q]?) (he : zAt al CA D h.length e' H1) : zHH al CA D (h ++ [e']) H1 := by
  refine ⟨⟨by simp, fun i hi => hH.1.2 i (by rw [List.length_append] at hi; omega)⟩, by rw [List.length_append, z, hH.2.1]; exact (hH.1.2 _ (Nat.le_refl _)).symm, fun j e hj => ?_⟩
  by_cases hl : j < h.length
  · rw [List.getElem?_append_left hl] at hj
    exact zAt_kept (hH.2.2 j e hj) (oq _ (zAt_lt (hH.2.2 j e hj)))
  · rw [List.getElem?_append_right (by omega)] at hj
    have hz : j - h.length < 1 := (List.getElem?_eq_some_iff.mp hj).1
    have hj2 : j = h.length := by omega
    subst hj2
    rw [Nat.sub_self] at hj
    cases hj
    exact he
/-- the locals -/
def zLl (al : Nat → Nat) (L : zL) : List (Nat × Value) := (List.range L.length).filterMap fun i => (zget L i).map fun v => (i, zv al v)
def zLh (al : Nat → Nat) (ls : Array Slot) (n : Nat) (L : zL) : Prop := L.length = n ∧ lv_has ls n (zLl al L)
theorem zget_some {L : zL} {i : Nat} {v : Value} : zget L i = some v ↔ L[i]? = some (some v) := by
  unfold zget
  cases h : L[i]? with
  | none => simp
  | some o => cases o <;> simp
theorem zLl_mem {al : Nat → Nat} {L : zL} {i : Nat} {w : Value} : (i, w) ∈ zLl al L ↔ ∃ v, L[i]? = some (some v) ∧ w = zv al v := by
  unfold zLl
  rw [List.mem_filterMap]
  constructor
  · rintro ⟨j, -, hj⟩
    cases hg : zget L j with
    | none => rw [hg] at hj; simp at hj
    | some v =>
      rw [hg] at hj
      simp only [Option.map_some, Option.some.injEq, Prod.mk.injEq] at hj
      obtain ⟨rfl, rfl⟩ := hj
      exact ⟨v, zget_some.mp hg, rfl⟩
  · rintro ⟨v, hv, rfl⟩
    exact ⟨i, List.mem_range.mpr (List.getElem?_eq_some_iff.mp hv).1, by rw [zget_some.mpr hv]; rfl⟩
theorem zLh_at {al : Nat → Nat} {ls : Array Slot} {n : Nat} {L : zL} (h : zLh al ls n L) {i : Nat} {v : Value} (hv : L[i]? = some (some v)) : ls[i]? = some (.val (zv al v)) := h.2.2.2 (i, zv al v) (zLl_mem.mpr ⟨v, hv, rfl⟩)
theorem zkill_len (L : zL) (i : Nat) : (zkill L i).length = L.length := by
  unfold zkill
  split
  · rfl
  · split <;> simp
theorem zkill_get {L : zL} {i j : Nat} {v : Value} (h : (zkill L i)[j]? = some (some v)) : L[j]? = some (some v) ∧ (j + 1 = i → v.category ≠ 2) := by
  unfold zkill at h
  split at h
  · exact ⟨h, fun q => by omega⟩
  · rename_i k
    split at h
    · by_cases hj : k = j
      · subst hj
        rw [List.getElem?_set_self (by rename_i q; exact (List.getElem?_eq_some_iff.mp q).1)] at h
        simp at h
      · rw [List.getElem?_set_ne hj] at h
        exact ⟨h, fun q => by omega⟩
    · by_cases hj : k = j
      · subst hj
        rw [List.getElem?_set_self (by rename_i q; exact (List.getElem?_eq_some_iff.mp q).1)] at h
        simp at h
      · rw [List.getElem?_set_ne hj] at h
        exact ⟨h, fun q => by omega⟩
    · rename_i n1 n2
      refine ⟨h, fun q hc => ?_⟩
      have hk : j = k := by omega
      subst hk
      cases v <;> simp [Value.category] at hc
      · exact n1 _ h
      · exact n2 _ h
theorem zst1_has {al : Nat → Nat} {ls' : Array Slot} {n : Nat} {L : zL} {i : Nat} {v : Value} (hL : L.length = n) (hi : i < n) (h : lv_has ls' n ((i, zv al v) :: (zLl al L).filter (fun q => !(q.1 == i) && !(q.1 + 1 == i && q.2.category == 2)))) : zLh al ls' n (zst1 L i v) := by
  refine ⟨by unfold zst1; rw [List.length_set, zkill_len]; exact hL, h.1, h.2.1, ?_⟩
  rintro ⟨j, w⟩ hw
  obtain ⟨x, hx, rfl⟩ := zLl_mem.mp hw
  refine h.2.2 (j, zv al x) ?_
  unfold zst1 at hx
  by_cases hij : i = j
  · subst hij
    rw [List.getElem?_set_self (by rw [zkill_len]; omega)] at hx
    cases hx
    exact List.mem_cons_self
  · rw [List.getElem?_set_ne hij] at hx
    obtain ⟨h1, h2⟩ := zkill_get hx
    refine List.mem_cons_of_mem _ (List.mem_filter.mpr ⟨zLl_mem.mpr ⟨x, h1, rfl⟩, ?_⟩)
    simp only [zv_cat, Bool.and_eq_true, Bool.not_eq_true', beq_eq_false_iff_ne, ne_eq, Bool.and_eq_false_iff]
    refine ⟨fun q => hij q.symm, ?_⟩
    by_cases hji : j + 1 = i
    · exact Or.inr (h2 hji)
    · exact Or.inl hji
theorem zst2_has {al : Nat → Nat} {ls' : Array Slot} {n : Nat} {L : zL} {i : Nat} {v : Value} (hL : L.length = n) (hi : i + 1 < n) (h : lv_has ls' n ((i, zv al v) :: (zLl al L).filter (fun q => !(q.1 == i) && (!(q.1 == i + 1) && !(q.1 + 1 == i && q.2.category == 2))))) : zLh al ls' n (zst2 L i v) := by
  refine ⟨by unfold zst2; rw [List.length_set, List.length_set, zkill_len]; exact hL, h.1, h.2.1, ?_⟩
  rintro ⟨j, w⟩ hw
  obtain ⟨x, hx, rfl⟩ := zLl_mem.mp hw
  refine h.2.2 (j, zv al x) ?_
  unfold zst2 at hx
  by_cases hi1 : i + 1 = j
  · subst hi1
    rw [List.getElem?_set_self (by rw [List.length_set, zkill_len]; omega)] at hx
    cases hx
  · rw [List.getElem?_set_ne hi1] at hx
    by_cases hij : i = j
    · subst hij
      rw [List.getElem?_set_self (by rw [zkill_len]; omega)] at hx
      cases hx
      exact List.mem_cons_self
    · rw [List.getElem?_set_ne hij] at hx
      obtain ⟨h1, h2⟩ := zkill_get hx
      refine List.mem_cons_of_mem _ (List.mem_filter.mpr ⟨zLl_mem.mpr ⟨x, h1, rfl⟩, ?_⟩)
      simp only [zv_cat, Bool.and_eq_true, Bool.not_eq_true', beq_eq_false_iff_ne, ne_eq, Bool.and_eq_false_iff]
      refine ⟨fun q => hij q.symm, fun q => hi1 q.symm, ?_⟩
      by_cases hji : j + 1 = i
      · exact Or.inr (h2 hji)
      · exact Or.inl hji
/-- a method's locals at its entry -/
theorem zent_sl (al : Nat → Nat) : ∀ (vs : List Value), (lg_sl (vs.map (zv al))).length = (zent vs).length
  | [] => rfl
  | v :: vs => by
    have ih := zent_sl al vs
    cases v <;> simp [lg_sl, zent, zv, Value.category] at ih ⊢ <;> omega
theorem zent_get : ∀ (vs : List Value) (i : Nat) (v : Value) (k : Nat), (zent vs)[i]? = some (some v) → (k + i, v) ∈ lv_args k vs
  | [], i, v, k, h => by simp [zent] at h
  | w :: vs, i, v, k, h => by
    have ih := zent_get vs
    have one : zent (w :: vs) = some w :: zent vs → lv_args k (w :: vs) = (k, w) :: lv_args (k + 1) vs → (k + i, v) ∈ lv_args k (w :: vs) := fun e1 e2 => by
      rw [e1] at h
      rw [e2]
      rcases i with _ | i
      · simp at h
        subst h
        simp
      · refine List.mem_cons_of_mem _ ?_
        have := ih i v (k + 1) (by simpa using h)
        rwa [show k + (i + 1) = k + 1 + i by omega]
    have two : zent (w :: vs) = some w :: none :: zent vs → lv_args k (w :: vs) = (k, w) :: lv_args (k + 2) vs → (k + i, v) ∈ lv_args k (w :: vs) := fun e1 e2 => by
      rw [e1] at h
      rw [e2]
      rcases i with _ | _ | i
      · simp at h
        subst h
        simp
      · simp at h
      · refine List.mem_cons_of_mem _ ?_
        have := ih i v (k + 2) (by simpa using h)
        rwa [show k + (i + 1 + 1) = k + 2 + i by omega]
    cases w
    case long => exact two rfl rfl
    case double => exact two rfl rfl
    all_goals exact one rfl rfl
theorem zargs_map (al : Nat → Nat) : ∀ (vs : List Value) (k : Nat) (i : Nat) (v : Value), (i, v) ∈ lv_args k vs → (i, zv al v) ∈ lv_args k (vs.map (zv al))
  | [], k, i, v, h => by simp [lv_args] at h
  | w :: vs, k, i, v, h => by
    simp only [lv_args, List.map_cons, zv_cat] at h ⊢
    rcases List.mem_cons.mp h with h | h
    · cases h
      exact List.mem_cons_self
    · exact List.mem_cons_of_mem _ (zargs_map al vs _ i v h)
theorem zentry_has (al : Nat → Nat) (vs : List Value) {n : Nat} (h : (zent vs).length ≤ n) : zLh al ((lg_sl (vs.map (zv al)) ++ List.replicate (n - (lg_sl (vs.map (zv al))).length) Slot.unset).toArray) n (zentry n vs) := by
  have hl := lv_entry (vs.map (zv al)) (n := n) (by rw [zent_sl]; exact h)
  refine ⟨by unfold zentry; rw [List.length_append, List.length_replicate]; omega, hl.1, hl.2.1, ?_⟩
  rintro ⟨j, w⟩ hw
  obtain ⟨x, hx, rfl⟩ := zLl_mem.mp hw
  refine hl.2.2 (j, zv al x) (zargs_map al vs 0 j x ?_)
  unfold zentry at hx
  by_cases hj : j < (zent vs).length
  · rw [List.getElem?_append_left hj] at hx
    have := zent_get vs j x 0 hx
    rwa [Nat.zero_add] at this
  · rw [List.getElem?_append_right (by omega)] at hx
    have := List.eq_of_mem_replicate (List.mem_of_getElem? hx)
    cases this
end
section
/-! one instruction of the pure machine, on the machine -/
theorem zdc_of {y pc : Nat} {i : Instr} {ax : List Nat} (h : zOK y pc i ax = true) (hw : zsw i = false) : decode (zMt y).2.1 pc = .ok (i, zlen i) := by
  simp only [zOK, Bool.and_eq_true] at h
  have h1 := h.1
  unfold zdc at h1
  split at h1
  · rename_i q hq
    simp only [Bool.and_eq_true, decide_eq_true_eq, Bool.or_eq_true, hw, Bool.false_eq_true, false_or] at h1
    exact hq.trans (congrArg Except.ok (Prod.ext h1.1 h1.2))
  · simp at h1
theorem zdc_sw {y pc : Nat} {i : Instr} {ax : List Nat} (h : zOK y pc i ax = true) : ∃ n, decode (zMt y).2.1 pc = .ok (i, n) := by
  simp only [zOK, Bool.and_eq_true] at h
  have h1 := h.1
  unfold zdc at h1
  split at h1
  · rename_i q hq
    simp only [Bool.and_eq_true, decide_eq_true_eq] at h1
    exact ⟨q.2, by rw [hq, ← h1.1]⟩
  · simp at h1
theorem zw_mem {p : Nat} {w : Jvm.Cond} (h : zw p w = true) : w ∈ zall := by
  unfold zw at h
  simp only [decide_eq_true_eq] at h
  exact zchk_in _ w (List.mem_of_getElem? h)
theorem zcl_at {c : Nat} (h : c < zcl.length) : zcl[c]? = some (zcN c, zcF c, zcK c) := by
  unfold zcN zcF zcK
  rw [List.getD_eq_getElem?_getD, List.getElem?_eq_getElem h]
  rfl
/-- what holds all along a method's run -/
def zCtx (p : Program) (R : Room) (s : State) (m : MethodId) (args : Array Value) (meth : Method) (c : Code) (al : Nat → Nat) (CA : Nat → ClassId) (D : va_G) (y : Nat) : Prop :=
  p.tables.exec = Jvm.exec ∧ c.code = (zMt y).2.1 ∧ c.maxLocals = (zMt y).2.2.1 ∧ s.vm.findClass (zMt y).1.cls = some m.cls ∧ (∀ w ∈ zall, w.before args s = true) ∧ zK D CA s ∧ zal al ∧ (zMt y).2.2.2.2.1 ≤ R.frames ∧ (zMt y).2.2.2.2.2 ≤ R.locals ∧ ((zMt y).1.name = "<init>" → meth.name = "<init>")
section ZST
variable {p : Program} {l : Launch} {e : Env} {R : Room} {s : State} {m : MethodId} {args : Array Value} {below : List Frame} {meth : Method} {c : Code} {H : Heap} {locs : List Loc} {cells slots : Nat} {Q : State → Prop}
variable {al : Nat → Nat} {CA : Nat → ClassId} {D : va_G} {y pc : Nat} {ls : Array Slot} {ax : List Nat} {L : zL} {st : List Value} {h : zH} {x : zR ⊕ zS} {kr : Nat}
/-- how it goes on -/
def zGo (p : Program) (l : Launch) (e : Env) (R : Room) (s : State) (m : MethodId) (args : Array Value) (below : List Frame) (meth : Method) (c : Code) (cells slots : Nat) (Q : State → Prop) (al : Nat → Nat) (CA : Nat → ClassId) (D : va_G) (y : Nat) (h : zH) (x : zR ⊕ zS) : Prop :=
  ∀ (pc' : Nat) (L' : zL) (st' : List Value) (h' : zH), x = .inr (pc', L', st', h') → ∀ (H' : Heap) (ls' : Array Slot) (locs' : List Loc), zHH al CA D h' H' → zLh al ls' (zMt y).2.2.1 L' → (∀ q ∈ locs', zA al q.base) → W p l e R s m args below meth c H' locs' (cells + (h'.length - h.length)) (slots + (zss h' - zss h)) Q (F0 m pc' ls' (st'.map (zv al)))
theorem zGo.same (k : zGo p l e R s m args below meth c cells slots Q al CA D y h x) (hH : zHH al CA D h H) (hlo : ∀ q ∈ locs, zA al q.base) {pc' : Nat} {L' : zL} {st' : List Value} (hx : some (Sum.inr (pc', L', st', h) : zR ⊕ zS) = some x) {ls' : Array Slot} (hL : zLh al ls' (zMt y).2.2.1 L') : W p l e R s m args below meth c H locs cells slots Q (F0 m pc' ls' (st'.map (zv al))) := by
  have := k pc' L' st' h (Option.some.inj hx).symm H ls' locs hH hL hlo
  rwa [Nat.sub_self, Nat.sub_self, Nat.add_zero, Nat.add_zero] at this
theorem zGo.put (k : zGo p l e R s m args below meth c cells slots Q al CA D y h x) {H' : Heap} {locs' : List Loc} {i : Nat} {e0 e' : zE} (he : h[i]? = some e0) (hz : zsz e' = zsz e0) (hH : zHH al CA D (h.set i e') H') (hlo : ∀ q ∈ locs', zA al q.base) {pc' : Nat} {L' : zL} {st' : List Value} (hx : some (Sum.inr (pc', L', st', h.set i e') : zR ⊕ zS) = some x) {ls' : Array Slot} (hL : zLh al ls' (zMt y).2.2.1 L') : W p l e R s m args below meth c H' locs' cells slots Q (F0 m pc' ls' (st'.map (zv al))) := by
  have := k pc' L' st' _ (Option.some.inj hx).symm H' ls' locs' hH hL hlo
  rwa [List.length_set, zss_set h i e0 e' he hz, Nat.sub_self, Nat.sub_self, Nat.add_zero, Nat.add_zero] at this
theorem zGo.app (k : zGo p l e R s m args below meth c cells slots Q al CA D y h x) {H' : Heap} {e' : zE} (hH : zHH al CA D (h ++ [e']) H') (hlo : ∀ q ∈ locs, zA al q.base) {pc' : Nat} {L' : zL} {st' : List Value} (hx : some (Sum.inr (pc', L', st', h ++ [e']) : zR ⊕ zS) = some x) {ls' : Array Slot} (hL : zLh al ls' (zMt y).2.2.1 L') : W p l e R s m args below meth c H' locs (cells + 1) (slots + zsz e') Q (F0 m pc' ls' (st'.map (zv al))) := by
  have := k pc' L' st' _ (Option.some.inj hx).symm H' ls' locs hH hL hlo
  rwa [List.length_append, zss_app, Nat.add_sub_cancel_left, Nat.add_sub_cancel_left] at this

theorem zs_iconst {n : Int} (X : zCtx p R s m args meth c al CA D y) (hok : zOK y pc (.iconst n) ax = true) (hs : zbase kr pc (.iconst n) ax L st h = some x) (hH : zHH al CA D h H) (hL : zLh al ls (zMt y).2.2.1 L) (hlo : ∀ q ∈ locs, zA al q.base) (k : zGo p l e R s m args below meth c cells slots Q al CA D y h x) : W p l e R s m args below meth c H locs cells slots Q (F0 m pc ls (st.map (zv al))) := by
  have hd := zdc_of hok rfl
  obtain ⟨hx, hb, -⟩ := X
  simp only [zbase, zgo] at hs
  exact lv_iconst hx hb hd rfl (k.same hH hlo hs hL)
theorem zs_bipush {n : Int} (X : zCtx p R s m args meth c al CA D y) (hok : zOK y pc (.bipush n) ax = true) (hs : zbase kr pc (.bipush n) ax L st h = some x) (hH : zHH al CA D h H) (hL : zLh al ls (zMt y).2.2.1 L) (hlo : ∀ q ∈ locs, zA al q.base) (k : zGo p l e R s m args below meth c cells slots Q al CA D y h x) : W p l e R s m args below meth c H locs cells slots Q (F0 m pc ls (st.map (zv al))) := by
  have hd := zdc_of hok rfl
  obtain ⟨hx, hb, -⟩ := X
  simp only [zbase, zgo] at hs
  exact lv_bipush hx hb hd rfl (k.same hH hlo hs hL)
theorem zs_sipush {n : Int} (X : zCtx p R s m args meth c al CA D y) (hok : zOK y pc (.sipush n) ax = true) (hs : zbase kr pc (.sipush n) ax L st h = some x) (hH : zHH al CA D h H) (hL : zLh al ls (zMt y).2.2.1 L) (hlo : ∀ q ∈ locs, zA al q.base) (k : zGo p l e R s m args below meth c cells slots Q al CA D y h x) : W p l e R s m args below meth c H locs cells slots Q (F0 m pc ls (st.map (zv al))) := by
  have hd := zdc_of hok rfl
  obtain ⟨hx, hb, -⟩ := X
  simp only [zbase, zgo] at hs
  exact lv_sipush hx hb hd rfl (k.same hH hlo hs hL)
theorem zs_lconst {n : Fin 2} (X : zCtx p R s m args meth c al CA D y) (hok : zOK y pc (.lconst n) ax = true) (hs : zbase kr pc (.lconst n) ax L st h = some x) (hH : zHH al CA D h H) (hL : zLh al ls (zMt y).2.2.1 L) (hlo : ∀ q ∈ locs, zA al q.base) (k : zGo p l e R s m args below meth c cells slots Q al CA D y h x) : W p l e R s m args below meth c H locs cells slots Q (F0 m pc ls (st.map (zv al))) := by
  have hd := zdc_of hok rfl
  obtain ⟨hx, hb, -⟩ := X
  simp only [zbase, zgo] at hs
  exact lv_lconst hx hb hd rfl (k.same hH hlo hs hL)
theorem zs_dconst {n : Fin 2} (X : zCtx p R s m args meth c al CA D y) (hok : zOK y pc (.dconst n) ax = true) (hs : zbase kr pc (.dconst n) ax L st h = some x) (hH : zHH al CA D h H) (hL : zLh al ls (zMt y).2.2.1 L) (hlo : ∀ q ∈ locs, zA al q.base) (k : zGo p l e R s m args below meth c cells slots Q al CA D y h x) : W p l e R s m args below meth c H locs cells slots Q (F0 m pc ls (st.map (zv al))) := by
  have hd := zdc_of hok rfl
  obtain ⟨hx, hb, -⟩ := X
  simp only [zbase, zgo] at hs
  split at hs
  · rename_i q
    subst q
    exact lv_dconst0 hx hb hd (k.same hH hlo hs hL)
  · simp at hs
theorem zs_ldc {n : Nat} (X : zCtx p R s m args meth c al CA D y) (hok : zOK y pc (.ldc n) ax = true) (hs : zbase kr pc (.ldc n) ax L st h = some x) (hH : zHH al CA D h H) (hL : zLh al ls (zMt y).2.2.1 L) (hlo : ∀ q ∈ locs, zA al q.base) (k : zGo p l e R s m args below meth c cells slots Q al CA D y h x) : W p l e R s m args below meth c H locs cells slots Q (F0 m pc ls (st.map (zv al))) := by
  have hd := zdc_of hok rfl
  obtain ⟨hx, hb, -, hown, hts, -⟩ := X
  simp only [zbase, zgo] at hs
  split at hs
  · rename_i v r
    simp only [zOK, Bool.and_eq_true] at hok
    have h2 := hok.2
    cases r with
    | nil => simp at h2
    | cons q r => exact lv_ldc hx hb hown (hts _ (zw_mem h2)) hd (k.same hH hlo hs hL)
  · simp at hs
theorem zs_ldc_w {n : Nat} (X : zCtx p R s m args meth c al CA D y) (hok : zOK y pc (.ldc_w n) ax = true) (hs : zbase kr pc (.ldc_w n) ax L st h = some x) (hH : zHH al CA D h H) (hL : zLh al ls (zMt y).2.2.1 L) (hlo : ∀ q ∈ locs, zA al q.base) (k : zGo p l e R s m args below meth c cells slots Q al CA D y h x) : W p l e R s m args below meth c H locs cells slots Q (F0 m pc ls (st.map (zv al))) := by
  have hd := zdc_of hok rfl
  obtain ⟨hx, hb, -, hown, hts, -⟩ := X
  simp only [zbase, zgo] at hs
  split at hs
  · rename_i v r
    simp only [zOK, Bool.and_eq_true] at hok
    have h2 := hok.2
    cases r with
    | nil => simp at h2
    | cons q r => exact lv_ldcw hx hb hown (hts _ (zw_mem h2)) hd (k.same hH hlo hs hL)
  · simp at hs
theorem zs_ldc2_w {n : Nat} (X : zCtx p R s m args meth c al CA D y) (hok : zOK y pc (.ldc2_w n) ax = true) (hs : zbase kr pc (.ldc2_w n) ax L st h = some x) (hH : zHH al CA D h H) (hL : zLh al ls (zMt y).2.2.1 L) (hlo : ∀ q ∈ locs, zA al q.base) (k : zGo p l e R s m args below meth c cells slots Q al CA D y h x) : W p l e R s m args below meth c H locs cells slots Q (F0 m pc ls (st.map (zv al))) := by
  have hd := zdc_of hok rfl
  obtain ⟨hx, hb, -, hown, hts, -⟩ := X
  simp only [zbase, zgo] at hs
  split at hs
  · rename_i v r
    simp only [zOK, Bool.and_eq_true] at hok
    have h2 := hok.2
    cases r with
    | nil => simp at h2
    | cons q r => exact lv_ldc2 hx hb hown (hts _ (zw_mem h2)) hd (k.same hH hlo hs hL)
  · simp at hs
theorem zs_iload {n : Nat} (X : zCtx p R s m args meth c al CA D y) (hok : zOK y pc (.iload n) ax = true) (hs : zbase kr pc (.iload n) ax L st h = some x) (hH : zHH al CA D h H) (hL : zLh al ls (zMt y).2.2.1 L) (hlo : ∀ q ∈ locs, zA al q.base) (k : zGo p l e R s m args below meth c cells slots Q al CA D y h x) : W p l e R s m args below meth c H locs cells slots Q (F0 m pc ls (st.map (zv al))) := by
  have hd := zdc_of hok rfl
  obtain ⟨hx, hb, -⟩ := X
  simp only [zbase, zloadI, zgo] at hs
  split at hs
  · rename_i v hv
    exact lv_iload hx hb hd (zLh_at hL hv) (k.same hH hlo hs hL)
  · simp at hs
theorem zs_iload_n {n : Fin 4} (X : zCtx p R s m args meth c al CA D y) (hok : zOK y pc (.iload_n n) ax = true) (hs : zbase kr pc (.iload_n n) ax L st h = some x) (hH : zHH al CA D h H) (hL : zLh al ls (zMt y).2.2.1 L) (hlo : ∀ q ∈ locs, zA al q.base) (k : zGo p l e R s m args below meth c cells slots Q al CA D y h x) : W p l e R s m args below meth c H locs cells slots Q (F0 m pc ls (st.map (zv al))) := by
  have hd := zdc_of hok rfl
  obtain ⟨hx, hb, -⟩ := X
  simp only [zbase, zloadI, zgo] at hs
  split at hs
  · rename_i v hv
    exact lv_iload_n hx hb hd rfl (zLh_at hL hv) (k.same hH hlo hs hL)
  · simp at hs
theorem zs_lload {n : Nat} (X : zCtx p R s m args meth c al CA D y) (hok : zOK y pc (.lload n) ax = true) (hs : zbase kr pc (.lload n) ax L st h = some x) (hH : zHH al CA D h H) (hL : zLh al ls (zMt y).2.2.1 L) (hlo : ∀ q ∈ locs, zA al q.base) (k : zGo p l e R s m args below meth c cells slots Q al CA D y h x) : W p l e R s m args below meth c H locs cells slots Q (F0 m pc ls (st.map (zv al))) := by
  have hd := zdc_of hok rfl
  obtain ⟨hx, hb, -⟩ := X
  simp only [zbase, zloadL, zgo] at hs
  split at hs
  · rename_i v hv
    exact lv_lload hx hb hd (zLh_at hL hv) (k.same hH hlo hs hL)
  · simp at hs
theorem zs_lload_n {n : Fin 4} (X : zCtx p R s m args meth c al CA D y) (hok : zOK y pc (.lload_n n) ax = true) (hs : zbase kr pc (.lload_n n) ax L st h = some x) (hH : zHH al CA D h H) (hL : zLh al ls (zMt y).2.2.1 L) (hlo : ∀ q ∈ locs, zA al q.base) (k : zGo p l e R s m args below meth c cells slots Q al CA D y h x) : W p l e R s m args below meth c H locs cells slots Q (F0 m pc ls (st.map (zv al))) := by
  have hd := zdc_of hok rfl
  obtain ⟨hx, hb, -⟩ := X
  simp only [zbase, zloadL, zgo] at hs
  split at hs
  · rename_i v hv
    exact lv_lload_n hx hb hd rfl (zLh_at hL hv) (k.same hH hlo hs hL)
  · simp at hs
theorem zs_dload {n : Nat} (X : zCtx p R s m args meth c al CA D y) (hok : zOK y pc (.dload n) ax = true) (hs : zbase kr pc (.dload n) ax L st h = some x) (hH : zHH al CA D h H) (hL : zLh al ls (zMt y).2.2.1 L) (hlo : ∀ q ∈ locs, zA al q.base) (k : zGo p l e R s m args below meth c cells slots Q al CA D y h x) : W p l e R s m args below meth c H locs cells slots Q (F0 m pc ls (st.map (zv al))) := by
  have hd := zdc_of hok rfl
  obtain ⟨hx, hb, -⟩ := X
  simp only [zbase, zloadD, zgo] at hs
  split at hs
  · rename_i v hv
    exact lv_dload hx hb hd (zLh_at hL hv) (k.same hH hlo hs hL)
  · simp at hs
theorem zs_dload_n {n : Fin 4} (X : zCtx p R s m args meth c al CA D y) (hok : zOK y pc (.dload_n n) ax = true) (hs : zbase kr pc (.dload_n n) ax L st h = some x) (hH : zHH al CA D h H) (hL : zLh al ls (zMt y).2.2.1 L) (hlo : ∀ q ∈ locs, zA al q.base) (k : zGo p l e R s m args below meth c cells slots Q al CA D y h x) : W p l e R s m args below meth c H locs cells slots Q (F0 m pc ls (st.map (zv al))) := by
  have hd := zdc_of hok rfl
  obtain ⟨hx, hb, -⟩ := X
  simp only [zbase, zloadD, zgo] at hs
  split at hs
  · rename_i v hv
    exact lv_dload_n hx hb hd rfl (zLh_at hL hv) (k.same hH hlo hs hL)
  · simp at hs
theorem zs_aload {n : Nat} (X : zCtx p R s m args meth c al CA D y) (hok : zOK y pc (.aload n) ax = true) (hs : zbase kr pc (.aload n) ax L st h = some x) (hH : zHH al CA D h H) (hL : zLh al ls (zMt y).2.2.1 L) (hlo : ∀ q ∈ locs, zA al q.base) (k : zGo p l e R s m args below meth c cells slots Q al CA D y h x) : W p l e R s m args below meth c H locs cells slots Q (F0 m pc ls (st.map (zv al))) := by
  have hd := zdc_of hok rfl
  obtain ⟨hx, hb, -⟩ := X
  simp only [zbase, zloadA, zgo] at hs
  split at hs
  · rename_i v hv
    exact lv_aload hx hb hd (zLh_at hL hv) (k.same hH hlo hs hL)
  · simp at hs
theorem zs_aload_n {n : Fin 4} (X : zCtx p R s m args meth c al CA D y) (hok : zOK y pc (.aload_n n) ax = true) (hs : zbase kr pc (.aload_n n) ax L st h = some x) (hH : zHH al CA D h H) (hL : zLh al ls (zMt y).2.2.1 L) (hlo : ∀ q ∈ locs, zA al q.base) (k : zGo p l e R s m args below meth c cells slots Q al CA D y h x) : W p l e R s m args below meth c H locs cells slots Q (F0 m pc ls (st.map (zv al))) := by
  have hd := zdc_of hok rfl
  obtain ⟨hx, hb, -⟩ := X
  simp only [zbase, zloadA, zgo] at hs
  split at hs
  · rename_i v hv
    exact lv_aload_n hx hb hd rfl (zLh_at hL hv) (k.same hH hlo hs hL)
  · simp at hs
theorem zs_istore {n : Nat} (X : zCtx p R s m args meth c al CA D y) (hok : zOK y pc (.istore n) ax = true) (hs : zbase kr pc (.istore n) ax L st h = some x) (hH : zHH al CA D h H) (hL : zLh al ls (zMt y).2.2.1 L) (hlo : ∀ q ∈ locs, zA al q.base) (k : zGo p l e R s m args below meth c cells slots Q al CA D y h x) : W p l e R s m args below meth c H locs cells slots Q (F0 m pc ls (st.map (zv al))) := by
  have hd := zdc_of hok rfl
  obtain ⟨hx, hb, -⟩ := X
  simp only [zbase, zstoreI, zgo] at hs
  split at hs
  · split at hs
    · rename_i v _ hn
      rw [hL.1] at hn
      exact lv_istore hx hb hd hL.2 hn rfl (fun ls2 h2 => k.same hH hlo hs (zst1_has hL.1 hn h2))
    · simp at hs
  · simp at hs
theorem zs_istore_n {n : Fin 4} (X : zCtx p R s m args meth c al CA D y) (hok : zOK y pc (.istore_n n) ax = true) (hs : zbase kr pc (.istore_n n) ax L st h = some x) (hH : zHH al CA D h H) (hL : zLh al ls (zMt y).2.2.1 L) (hlo : ∀ q ∈ locs, zA al q.base) (k : zGo p l e R s m args below meth c cells slots Q al CA D y h x) : W p l e R s m args below meth c H locs cells slots Q (F0 m pc ls (st.map (zv al))) := by
  have hd := zdc_of hok rfl
  obtain ⟨hx, hb, -⟩ := X
  simp only [zbase, zstoreI, zgo] at hs
  split at hs
  · split at hs
    · rename_i v _ hn
      rw [hL.1] at hn
      exact lv_istore_n hx hb hd rfl hL.2 hn rfl (fun ls2 h2 => k.same hH hlo hs (zst1_has hL.1 hn h2))
    · simp at hs
  · simp at hs
theorem zs_astore {n : Nat} (X : zCtx p R s m args meth c al CA D y) (hok : zOK y pc (.astore n) ax = true) (hs : zbase kr pc (.astore n) ax L st h = some x) (hH : zHH al CA D h H) (hL : zLh al ls (zMt y).2.2.1 L) (hlo : ∀ q ∈ locs, zA al q.base) (k : zGo p l e R s m args below meth c cells slots Q al CA D y h x) : W p l e R s m args below meth c H locs cells slots Q (F0 m pc ls (st.map (zv al))) := by
  have hd := zdc_of hok rfl
  obtain ⟨hx, hb, -⟩ := X
  simp only [zbase, zstoreA, zgo] at hs
  split at hs
  · split at hs
    · rename_i v _ hn
      rw [hL.1] at hn
      exact lv_astore hx hb hd hL.2 hn rfl (fun ls2 h2 => k.same hH hlo hs (zst1_has hL.1 hn h2))
    · simp at hs
  · simp at hs
theorem zs_astore_n {n : Fin 4} (X : zCtx p R s m args meth c al CA D y) (hok : zOK y pc (.astore_n n) ax = true) (hs : zbase kr pc (.astore_n n) ax L st h = some x) (hH : zHH al CA D h H) (hL : zLh al ls (zMt y).2.2.1 L) (hlo : ∀ q ∈ locs, zA al q.base) (k : zGo p l e R s m args below meth c cells slots Q al CA D y h x) : W p l e R s m args below meth c H locs cells slots Q (F0 m pc ls (st.map (zv al))) := by
  have hd := zdc_of hok rfl
  obtain ⟨hx, hb, -⟩ := X
  simp only [zbase, zstoreA, zgo] at hs
  split at hs
  · split at hs
    · rename_i v _ hn
      rw [hL.1] at hn
      exact lv_astore_n hx hb hd rfl hL.2 hn rfl (fun ls2 h2 => k.same hH hlo hs (zst1_has hL.1 hn h2))
    · simp at hs
  · simp at hs
theorem zs_lstore {n : Nat} (X : zCtx p R s m args meth c al CA D y) (hok : zOK y pc (.lstore n) ax = true) (hs : zbase kr pc (.lstore n) ax L st h = some x) (hH : zHH al CA D h H) (hL : zLh al ls (zMt y).2.2.1 L) (hlo : ∀ q ∈ locs, zA al q.base) (k : zGo p l e R s m args below meth c cells slots Q al CA D y h x) : W p l e R s m args below meth c H locs cells slots Q (F0 m pc ls (st.map (zv al))) := by
  have hd := zdc_of hok rfl
  obtain ⟨hx, hb, -⟩ := X
  simp only [zbase, zstoreL, zgo] at hs
  split at hs
  · split at hs
    · rename_i v _ hn
      rw [hL.1] at hn
      exact lv_lstore hx hb hd hL.2 hn rfl (fun ls2 h2 => k.same hH hlo hs (zst2_has hL.1 hn h2))
    · simp at hs
  · simp at hs
theorem zs_lstore_n {n : Fin 4} (X : zCtx p R s m args meth c al CA D y) (hok : zOK y pc (.lstore_n n) ax = true) (hs : zbase kr pc (.lstore_n n) ax L st h = some x) (hH : zHH al CA D h H) (hL : zLh al ls (zMt y).2.2.1 L) (hlo : ∀ q ∈ locs, zA al q.base) (k : zGo p l e R s m args below meth c cells slots Q al CA D y h x) : W p l e R s m args below meth c H locs cells slots Q (F0 m pc ls (st.map (zv al))) := by
  have hd := zdc_of hok rfl
  obtain ⟨hx, hb, -⟩ := X
  simp only [zbase, zstoreL, zgo] at hs
  split at hs
  · split at hs
    · rename_i v _ hn
      rw [hL.1] at hn
      exact lv_lstore_n hx hb hd rfl hL.2 hn rfl (fun ls2 h2 => k.same hH hlo hs (zst2_has hL.1 hn h2))
    · simp at hs
  · simp at hs
theorem zs_dstore {n : Nat} (X : zCtx p R s m args meth c al CA D y) (hok : zOK y pc (.dstore n) ax = true) (hs : zbase kr pc (.dstore n) ax L st h = some x) (hH : zHH al CA D h H) (hL : zLh al ls (zMt y).2.2.1 L) (hlo : ∀ q ∈ locs, zA al q.base) (k : zGo p l e R s m args below meth c cells slots Q al CA D y h x) : W p l e R s m args below meth c H locs cells slots Q (F0 m pc ls (st.map (zv al))) := by
  have hd := zdc_of hok rfl
  obtain ⟨hx, hb, -⟩ := X
  simp only [zbase, zstoreD, zgo] at hs
  split at hs
  · split at hs
    · rename_i v _ hn
      rw [hL.1] at hn
      exact lv_dstore hx hb hd hL.2 hn rfl (fun ls2 h2 => k.same hH hlo hs (zst2_has hL.1 hn h2))
    · simp at hs
  · simp at hs
theorem zs_dstore_n {n : Fin 4} (X : zCtx p R s m args meth c al CA D y) (hok : zOK y pc (.dstore_n n) ax = true) (hs : zbase kr pc (.dstore_n n) ax L st h = some x) (hH : zHH al CA D h H) (hL : zLh al ls (zMt y).2.2.1 L) (hlo : ∀ q ∈ locs, zA al q.base) (k : zGo p l e R s m args below meth c cells slots Q al CA D y h x) : W p l e R s m args below meth c H locs cells slots Q (F0 m pc ls (st.map (zv al))) := by
  have hd := zdc_of hok rfl
  obtain ⟨hx, hb, -⟩ := X
  simp only [zbase, zstoreD, zgo] at hs
  split at hs
  · split at hs
    · rename_i v _ hn
      rw [hL.1] at hn
      exact lv_dstore_n hx hb hd rfl hL.2 hn rfl (fun ls2 h2 => k.same hH hlo hs (zst2_has hL.1 hn h2))
    · simp at hs
  · simp at hs
theorem zs_iinc {n : Nat} {z : Int} (X : zCtx p R s m args meth c al CA D y) (hok : zOK y pc (.iinc n z) ax = true) (hs : zbase kr pc (.iinc n z) ax L st h = some x) (hH : zHH al CA D h H) (hL : zLh al ls (zMt y).2.2.1 L) (hlo : ∀ q ∈ locs, zA al q.base) (k : zGo p l e R s m args below meth c cells slots Q al CA D y h x) : W p l e R s m args below meth c H locs cells slots Q (F0 m pc ls (st.map (zv al))) := by
  have hd := zdc_of hok rfl
  obtain ⟨hx, hb, -⟩ := X
  simp only [zbase, zgo] at hs
  split at hs
  · rename_i v hv
    split at hs
    · rename_i hn
      rw [hL.1] at hn
      obtain ⟨j, hj⟩ := List.getElem?_of_mem (zLl_mem (al := al).mpr ⟨_, hv, rfl⟩)
      exact lv_iinc hx hb hd hL.2 hj rfl hn rfl (fun ls2 h2 => k.same hH hlo hs (zst1_has (v := .int _) hL.1 hn h2))
    · simp at hs
  · simp at hs
theorem zs_iadd  (X : zCtx p R s m args meth c al CA D y) (hok : zOK y pc .iadd ax = true) (hs : zbase kr pc .iadd ax L st h = some x) (hH : zHH al CA D h H) (hL : zLh al ls (zMt y).2.2.1 L) (hlo : ∀ q ∈ locs, zA al q.base) (k : zGo p l e R s m args below meth c cells slots Q al CA D y h x) : W p l e R s m args below meth c H locs cells slots Q (F0 m pc ls (st.map (zv al))) := by
  have hd := zdc_of hok rfl
  obtain ⟨hx, hb, -⟩ := X
  simp only [zbase, zii, zgo] at hs
  split at hs
  · exact lv_iadd hx hb hd (k.same hH hlo hs hL)
  · simp at hs
theorem zs_isub  (X : zCtx p R s m args meth c al CA D y) (hok : zOK y pc .isub ax = true) (hs : zbase kr pc .isub ax L st h = some x) (hH : zHH al CA D h H) (hL : zLh al ls (zMt y).2.2.1 L) (hlo : ∀ q ∈ locs, zA al q.base) (k : zGo p l e R s m args below meth c cells slots Q al CA D y h x) : W p l e R s m args below meth c H locs cells slots Q (F0 m pc ls (st.map (zv al))) := by
  have hd := zdc_of hok rfl
  obtain ⟨hx, hb, -⟩ := X
  simp only [zbase, zii, zgo] at hs
  split at hs
  · exact lv_isub hx hb hd (k.same hH hlo hs hL)
  · simp at hs
theorem zs_imul  (X : zCtx p R s m args meth c al CA D y) (hok : zOK y pc .imul ax = true) (hs : zbase kr pc .imul ax L st h = some x) (hH : zHH al CA D h H) (hL : zLh al ls (zMt y).2.2.1 L) (hlo : ∀ q ∈ locs, zA al q.base) (k : zGo p l e R s m args below meth c cells slots Q al CA D y h x) : W p l e R s m args below meth c H locs cells slots Q (F0 m pc ls (st.map (zv al))) := by
  have hd := zdc_of hok rfl
  obtain ⟨hx, hb, -⟩ := X
  simp only [zbase, zii, zgo] at hs
  split at hs
  · exact lv_imul hx hb hd (k.same hH hlo hs hL)
  · simp at hs
theorem zs_iand  (X : zCtx p R s m args meth c al CA D y) (hok : zOK y pc .iand ax = true) (hs : zbase kr pc .iand ax L st h = some x) (hH : zHH al CA D h H) (hL : zLh al ls (zMt y).2.2.1 L) (hlo : ∀ q ∈ locs, zA al q.base) (k : zGo p l e R s m args below meth c cells slots Q al CA D y h x) : W p l e R s m args below meth c H locs cells slots Q (F0 m pc ls (st.map (zv al))) := by
  have hd := zdc_of hok rfl
  obtain ⟨hx, hb, -⟩ := X
  simp only [zbase, zii, zgo] at hs
  split at hs
  · exact lv_iand hx hb hd (k.same hH hlo hs hL)
  · simp at hs
theorem zs_ior  (X : zCtx p R s m args meth c al CA D y) (hok : zOK y pc .ior ax = true) (hs : zbase kr pc .ior ax L st h = some x) (hH : zHH al CA D h H) (hL : zLh al ls (zMt y).2.2.1 L) (hlo : ∀ q ∈ locs, zA al q.base) (k : zGo p l e R s m args below meth c cells slots Q al CA D y h x) : W p l e R s m args below meth c H locs cells slots Q (F0 m pc ls (st.map (zv al))) := by
  have hd := zdc_of hok rfl
  obtain ⟨hx, hb, -⟩ := X
  simp only [zbase, zii, zgo] at hs
  split at hs
  · exact lv_ior hx hb hd (k.same hH hlo hs hL)
  · simp at hs
theorem zs_ishl  (X : zCtx p R s m args meth c al CA D y) (hok : zOK y pc .ishl ax = true) (hs : zbase kr pc .ishl ax L st h = some x) (hH : zHH al CA D h H) (hL : zLh al ls (zMt y).2.2.1 L) (hlo : ∀ q ∈ locs, zA al q.base) (k : zGo p l e R s m args below meth c cells slots Q al CA D y h x) : W p l e R s m args below meth c H locs cells slots Q (F0 m pc ls (st.map (zv al))) := by
  have hd := zdc_of hok rfl
  obtain ⟨hx, hb, -⟩ := X
  simp only [zbase, zii, zgo] at hs
  split at hs
  · exact lv_ishl hx hb hd (k.same hH hlo hs hL)
  · simp at hs
theorem zs_ishr  (X : zCtx p R s m args meth c al CA D y) (hok : zOK y pc .ishr ax = true) (hs : zbase kr pc .ishr ax L st h = some x) (hH : zHH al CA D h H) (hL : zLh al ls (zMt y).2.2.1 L) (hlo : ∀ q ∈ locs, zA al q.base) (k : zGo p l e R s m args below meth c cells slots Q al CA D y h x) : W p l e R s m args below meth c H locs cells slots Q (F0 m pc ls (st.map (zv al))) := by
  have hd := zdc_of hok rfl
  obtain ⟨hx, hb, -⟩ := X
  simp only [zbase, zii, zgo] at hs
  split at hs
  · exact lv_ishr hx hb hd (k.same hH hlo hs hL)
  · simp at hs
theorem zs_iushr  (X : zCtx p R s m args meth c al CA D y) (hok : zOK y pc .iushr ax = true) (hs : zbase kr pc .iushr ax L st h = some x) (hH : zHH al CA D h H) (hL : zLh al ls (zMt y).2.2.1 L) (hlo : ∀ q ∈ locs, zA al q.base) (k : zGo p l e R s m args below meth c cells slots Q al CA D y h x) : W p l e R s m args below meth c H locs cells slots Q (F0 m pc ls (st.map (zv al))) := by
  have hd := zdc_of hok rfl
  obtain ⟨hx, hb, -⟩ := X
  simp only [zbase, zii, zgo] at hs
  split at hs
  · exact lv_iushr hx hb hd rfl (k.same hH hlo hs hL)
  · simp at hs
theorem zs_idiv  (X : zCtx p R s m args meth c al CA D y) (hok : zOK y pc .idiv ax = true) (hs : zbase kr pc .idiv ax L st h = some x) (hH : zHH al CA D h H) (hL : zLh al ls (zMt y).2.2.1 L) (hlo : ∀ q ∈ locs, zA al q.base) (k : zGo p l e R s m args below meth c cells slots Q al CA D y h x) : W p l e R s m args below meth c H locs cells slots Q (F0 m pc ls (st.map (zv al))) := by
  have hd := zdc_of hok rfl
  obtain ⟨hx, hb, -⟩ := X
  simp only [zbase, zgo] at hs
  split at hs
  · split at hs
    · simp at hs
    · rename_i hne
      exact lv_idiv hx hb hd hne (k.same hH hlo hs hL)
  · simp at hs
theorem zs_irem  (X : zCtx p R s m args meth c al CA D y) (hok : zOK y pc .irem ax = true) (hs : zbase kr pc .irem ax L st h = some x) (hH : zHH al CA D h H) (hL : zLh al ls (zMt y).2.2.1 L) (hlo : ∀ q ∈ locs, zA al q.base) (k : zGo p l e R s m args below meth c cells slots Q al CA D y h x) : W p l e R s m args below meth c H locs cells slots Q (F0 m pc ls (st.map (zv al))) := by
  have hd := zdc_of hok rfl
  obtain ⟨hx, hb, -⟩ := X
  simp only [zbase, zgo] at hs
  split at hs
  · split at hs
    · simp at hs
    · rename_i hne
      exact lv_irem hx hb hd hne (k.same hH hlo hs hL)
  · simp at hs
theorem zs_ladd  (X : zCtx p R s m args meth c al CA D y) (hok : zOK y pc .ladd ax = true) (hs : zbase kr pc .ladd ax L st h = some x) (hH : zHH al CA D h H) (hL : zLh al ls (zMt y).2.2.1 L) (hlo : ∀ q ∈ locs, zA al q.base) (k : zGo p l e R s m args below meth c cells slots Q al CA D y h x) : W p l e R s m args below meth c H locs cells slots Q (F0 m pc ls (st.map (zv al))) := by
  have hd := zdc_of hok rfl
  obtain ⟨hx, hb, -⟩ := X
  simp only [zbase, zll, zgo] at hs
  split at hs
  · exact lv_ladd hx hb hd (k.same hH hlo hs hL)
  · simp at hs
theorem zs_lmul  (X : zCtx p R s m args meth c al CA D y) (hok : zOK y pc .lmul ax = true) (hs : zbase kr pc .lmul ax L st h = some x) (hH : zHH al CA D h H) (hL : zLh al ls (zMt y).2.2.1 L) (hlo : ∀ q ∈ locs, zA al q.base) (k : zGo p l e R s m args below meth c cells slots Q al CA D y h x) : W p l e R s m args below meth c H locs cells slots Q (F0 m pc ls (st.map (zv al))) := by
  have hd := zdc_of hok rfl
  obtain ⟨hx, hb, -⟩ := X
  simp only [zbase, zll, zgo] at hs
  split at hs
  · exact lv_lmul hx hb hd (k.same hH hlo hs hL)
  · simp at hs
theorem zs_lcmp  (X : zCtx p R s m args meth c al CA D y) (hok : zOK y pc .lcmp ax = true) (hs : zbase kr pc .lcmp ax L st h = some x) (hH : zHH al CA D h H) (hL : zLh al ls (zMt y).2.2.1 L) (hlo : ∀ q ∈ locs, zA al q.base) (k : zGo p l e R s m args below meth c cells slots Q al CA D y h x) : W p l e R s m args below meth c H locs cells slots Q (F0 m pc ls (st.map (zv al))) := by
  have hd := zdc_of hok rfl
  obtain ⟨hx, hb, -⟩ := X
  simp only [zbase, zgo] at hs
  split at hs
  · exact W.lcmp hx hb hd (k.same hH hlo hs hL)
  · simp at hs
theorem zs_i2l  (X : zCtx p R s m args meth c al CA D y) (hok : zOK y pc .i2l ax = true) (hs : zbase kr pc .i2l ax L st h = some x) (hH : zHH al CA D h H) (hL : zLh al ls (zMt y).2.2.1 L) (hlo : ∀ q ∈ locs, zA al q.base) (k : zGo p l e R s m args below meth c cells slots Q al CA D y h x) : W p l e R s m args below meth c H locs cells slots Q (F0 m pc ls (st.map (zv al))) := by
  have hd := zdc_of hok rfl
  obtain ⟨hx, hb, -⟩ := X
  simp only [zbase, zgo] at hs
  split at hs
  · exact lv_i2l hx hb hd rfl (k.same hH hlo hs hL)
  · simp at hs
theorem zs_i2d  (X : zCtx p R s m args meth c al CA D y) (hok : zOK y pc .i2d ax = true) (hs : zbase kr pc .i2d ax L st h = some x) (hH : zHH al CA D h H) (hL : zLh al ls (zMt y).2.2.1 L) (hlo : ∀ q ∈ locs, zA al q.base) (k : zGo p l e R s m args below meth c cells slots Q al CA D y h x) : W p l e R s m args below meth c H locs cells slots Q (F0 m pc ls (st.map (zv al))) := by
  have hd := zdc_of hok rfl
  obtain ⟨hx, hb, -⟩ := X
  simp only [zbase, zgo] at hs
  split at hs
  · exact lv_i2d hx hb hd (k.same hH hlo hs hL)
  · simp at hs
theorem zs_ddiv  (X : zCtx p R s m args meth c al CA D y) (hok : zOK y pc .ddiv ax = true) (hs : zbase kr pc .ddiv ax L st h = some x) (hH : zHH al CA D h H) (hL : zLh al ls (zMt y).2.2.1 L) (hlo : ∀ q ∈ locs, zA al q.base) (k : zGo p l e R s m args below meth c cells slots Q al CA D y h x) : W p l e R s m args below meth c H locs cells slots Q (F0 m pc ls (st.map (zv al))) := by
  have hd := zdc_of hok rfl
  obtain ⟨hx, hb, -⟩ := X
  simp only [zbase, zgo] at hs
  split at hs
  · split at hs
    · rename_i hne
      exact lv_ddiv hx hb hd hne (k.same hH hlo hs hL)
    · simp at hs
  · simp at hs
theorem zs_dcmp {n : CmpOp} (X : zCtx p R s m args meth c al CA D y) (hok : zOK y pc (.dcmp n) ax = true) (hs : zbase kr pc (.dcmp n) ax L st h = some x) (hH : zHH al CA D h H) (hL : zLh al ls (zMt y).2.2.1 L) (hlo : ∀ q ∈ locs, zA al q.base) (k : zGo p l e R s m args below meth c cells slots Q al CA D y h x) : W p l e R s m args below meth c H locs cells slots Q (F0 m pc ls (st.map (zv al))) := by
  have hd := zdc_of hok rfl
  obtain ⟨hx, hb, -⟩ := X
  simp only [zbase, zgo] at hs
  split at hs
  · exact lv_dcmp hx hb hd (k.same hH hlo hs hL)
  · simp at hs
theorem zs_dup  (X : zCtx p R s m args meth c al CA D y) (hok : zOK y pc .dup ax = true) (hs : zbase kr pc .dup ax L st h = some x) (hH : zHH al CA D h H) (hL : zLh al ls (zMt y).2.2.1 L) (hlo : ∀ q ∈ locs, zA al q.base) (k : zGo p l e R s m args below meth c cells slots Q al CA D y h x) : W p l e R s m args below meth c H locs cells slots Q (F0 m pc ls (st.map (zv al))) := by
  have hd := zdc_of hok rfl
  obtain ⟨hx, hb, -⟩ := X
  simp only [zbase, zgo] at hs
  split at hs
  · split at hs
    · rename_i hc
      exact lv_dup hx hb hd (by rw [zv_cat]; exact hc) (k.same hH hlo hs hL)
    · simp at hs
  · simp at hs
theorem zs_pop  (X : zCtx p R s m args meth c al CA D y) (hok : zOK y pc .pop ax = true) (hs : zbase kr pc .pop ax L st h = some x) (hH : zHH al CA D h H) (hL : zLh al ls (zMt y).2.2.1 L) (hlo : ∀ q ∈ locs, zA al q.base) (k : zGo p l e R s m args below meth c cells slots Q al CA D y h x) : W p l e R s m args below meth c H locs cells slots Q (F0 m pc ls (st.map (zv al))) := by
  have hd := zdc_of hok rfl
  obtain ⟨hx, hb, -⟩ := X
  simp only [zbase, zgo] at hs
  split at hs
  · split at hs
    · rename_i hc
      exact lv_pop hx hb hd (by rw [zv_cat]; exact hc) (k.same hH hlo hs hL)
    · simp at hs
  · simp at hs
theorem zs_dup_x1  (X : zCtx p R s m args meth c al CA D y) (hok : zOK y pc .dup_x1 ax = true) (hs : zbase kr pc .dup_x1 ax L st h = some x) (hH : zHH al CA D h H) (hL : zLh al ls (zMt y).2.2.1 L) (hlo : ∀ q ∈ locs, zA al q.base) (k : zGo p l e R s m args below meth c cells slots Q al CA D y h x) : W p l e R s m args below meth c H locs cells slots Q (F0 m pc ls (st.map (zv al))) := by
  have hd := zdc_of hok rfl
  obtain ⟨hx, hb, -⟩ := X
  simp only [zbase, zgo] at hs
  split at hs
  · split at hs
    · rename_i hc
      exact lv_dup_x1 hx hb hd (by rw [zv_cat]; exact hc.1) (by rw [zv_cat]; exact hc.2) (k.same hH hlo hs hL)
    · simp at hs
  · simp at hs
theorem zs_dup2  (X : zCtx p R s m args meth c al CA D y) (hok : zOK y pc .dup2 ax = true) (hs : zbase kr pc .dup2 ax L st h = some x) (hH : zHH al CA D h H) (hL : zLh al ls (zMt y).2.2.1 L) (hlo : ∀ q ∈ locs, zA al q.base) (k : zGo p l e R s m args below meth c cells slots Q al CA D y h x) : W p l e R s m args below meth c H locs cells slots Q (F0 m pc ls (st.map (zv al))) := by
  have hd := zdc_of hok rfl
  obtain ⟨hx, hb, -⟩ := X
  simp only [zbase, zgo] at hs
  split at hs
  · split at hs
    · rename_i hc
      exact lv_dup2_11 hx hb hd (by rw [zv_cat]; exact hc.1) (by rw [zv_cat]; exact hc.2) (k.same hH hlo hs hL)
    · simp at hs
  · simp at hs
theorem zs_dup_x2  (X : zCtx p R s m args meth c al CA D y) (hok : zOK y pc .dup_x2 ax = true) (hs : zbase kr pc .dup_x2 ax L st h = some x) (hH : zHH al CA D h H) (hL : zLh al ls (zMt y).2.2.1 L) (hlo : ∀ q ∈ locs, zA al q.base) (k : zGo p l e R s m args below meth c cells slots Q al CA D y h x) : W p l e R s m args below meth c H locs cells slots Q (F0 m pc ls (st.map (zv al))) := by
  have hd := zdc_of hok rfl
  obtain ⟨hx, hb, -⟩ := X
  simp only [zbase, zgo] at hs
  split at hs
  · split at hs
    · rename_i hc
      exact lv_dup_x2 hx hb hd (by rw [zv_cat]; exact hc.1) (by rw [zv_cat]; exact hc.2.1) (by rw [zv_cat]; exact hc.2.2) (k.same hH hlo hs hL)
    · simp at hs
  · simp at hs
theorem zs_ifCond {cd : Jvm.ClassFile.Cond} {off : Int} (X : zCtx p R s m args meth c al CA D y) (hok : zOK y pc (.ifCond cd off) ax = true) (hs : zbase kr pc (.ifCond cd off) ax L st h = some x) (hH : zHH al CA D h H) (hL : zLh al ls (zMt y).2.2.1 L) (hlo : ∀ q ∈ locs, zA al q.base) (k : zGo p l e R s m args below meth c cells slots Q al CA D y h x) : W p l e R s m args below meth c H locs cells slots Q (F0 m pc ls (st.map (zv al))) := by
  have hd := zdc_of hok rfl
  obtain ⟨hx, hb, -⟩ := X
  simp only [zbase] at hs
  split at hs
  · simp only [zif] at hs
    split at hs
    · rename_i t r
      simp only [zOK, Bool.and_eq_true, decide_eq_true_eq] at hok
      have ht := hok.2
      cases cd
      · exact lv_if_eq hx hb hd ht (fun q => k.same hH hlo (by simpa [zcnd, q] using hs) hL) (fun q => k.same hH hlo (by simpa [zcnd, q] using hs) hL)
      · exact lv_if_ne hx hb hd ht (fun q => k.same hH hlo (by simpa [zcnd, q] using hs) hL) (fun q => k.same hH hlo (by simpa [zcnd, q] using hs) hL)
      · exact lv_if_lt hx hb hd ht (fun q => k.same hH hlo (by simpa [zcnd, q] using hs) hL) (fun q => k.same hH hlo (by simpa [zcnd, q] using hs) hL)
      · exact lv_if_ge hx hb hd ht (fun q => k.same hH hlo (by simpa [zcnd, q] using hs) hL) (fun q => k.same hH hlo (by simpa [zcnd, q] using hs) hL)
      · exact lv_if_gt hx hb hd ht (fun q => k.same hH hlo (by simpa [zcnd, q] using hs) hL) (fun q => k.same hH hlo (by simpa [zcnd, q] using hs) hL)
      · exact lv_if_le hx hb hd ht (fun q => k.same hH hlo (by simpa [zcnd, q] using hs) hL) (fun q => k.same hH hlo (by simpa [zcnd, q] using hs) hL)
    · simp at hs
  · simp at hs
theorem zs_if_icmp {cd : Jvm.ClassFile.Cond} {off : Int} (X : zCtx p R s m args meth c al CA D y) (hok : zOK y pc (.if_icmp cd off) ax = true) (hs : zbase kr pc (.if_icmp cd off) ax L st h = some x) (hH : zHH al CA D h H) (hL : zLh al ls (zMt y).2.2.1 L) (hlo : ∀ q ∈ locs, zA al q.base) (k : zGo p l e R s m args below meth c cells slots Q al CA D y h x) : W p l e R s m args below meth c H locs cells slots Q (F0 m pc ls (st.map (zv al))) := by
  have hd := zdc_of hok rfl
  obtain ⟨hx, hb, -⟩ := X
  simp only [zbase] at hs
  split at hs
  · simp only [zif] at hs
    split at hs
    · rename_i t r
      simp only [zOK, Bool.and_eq_true, decide_eq_true_eq] at hok
      have ht := hok.2
      cases cd
      · exact lv_icmp_eq hx hb hd ht (fun q => k.same hH hlo (by simpa [zcnd, q] using hs) hL) (fun q => k.same hH hlo (by simpa [zcnd, q] using hs) hL)
      · exact lv_icmp_ne hx hb hd ht (fun q => k.same hH hlo (by simpa [zcnd, q] using hs) hL) (fun q => k.same hH hlo (by simpa [zcnd, q] using hs) hL)
      · exact lv_icmp_lt hx hb hd ht (fun q => k.same hH hlo (by simpa [zcnd, q] using hs) hL) (fun q => k.same hH hlo (by simpa [zcnd, q] using hs) hL)
      · exact lv_icmp_ge hx hb hd ht (fun q => k.same hH hlo (by simpa [zcnd, q] using hs) hL) (fun q => k.same hH hlo (by simpa [zcnd, q] using hs) hL)
      · exact lv_icmp_gt hx hb hd ht (fun q => k.same hH hlo (by simpa [zcnd, q] using hs) hL) (fun q => k.same hH hlo (by simpa [zcnd, q] using hs) hL)
      · exact lv_icmp_le hx hb hd ht (fun q => k.same hH hlo (by simpa [zcnd, q] using hs) hL) (fun q => k.same hH hlo (by simpa [zcnd, q] using hs) hL)
    · simp at hs
  · simp at hs
theorem zs_goto {off : Int} (X : zCtx p R s m args meth c al CA D y) (hok : zOK y pc (.goto off) ax = true) (hs : zbase kr pc (.goto off) ax L st h = some x) (hH : zHH al CA D h H) (hL : zLh al ls (zMt y).2.2.1 L) (hlo : ∀ q ∈ locs, zA al q.base) (k : zGo p l e R s m args below meth c cells slots Q al CA D y h x) : W p l e R s m args below meth c H locs cells slots Q (F0 m pc ls (st.map (zv al))) := by
  have hd := zdc_of hok rfl
  obtain ⟨hx, hb, -⟩ := X
  simp only [zbase, zjump] at hs
  split at hs
  · rename_i t ht
    cases ax with
    | nil => simp at ht
    | cons t2 r =>
      simp only [List.getElem?_cons_zero, Option.some.injEq] at ht
      subst ht
      simp only [zOK, Bool.and_eq_true, decide_eq_true_eq] at hok
      exact lv_goto hx hb hd hok.2 (k.same hH hlo hs hL)
  · simp at hs
end ZST
end
section
/-! switches, fields, new cells, rows -/
theorem zcl_ok {ci : Nat} (h : ci < zcl.length) : (∀ w ∈ u_ws (zcN ci) (zcF ci) (zcK ci), w ∈ zall) ∧ (∀ k, k < zcK ci → parseFieldDescriptor (zcF ci k).2.2.1 = some (ztyp ci k)) ∧ (∀ a, a < zcK ci → ∀ b, b < zcK ci → a ≠ b → (zcF ci a).2.1 ≠ (zcF ci b).2.1) := by
  have hk := zcl_all ci h
  simp only [zlayOK, List.all_eq_true, List.mem_range, Bool.and_eq_true, decide_eq_true_eq] at hk
  refine ⟨fun w hw => ?_, fun k hk2 => (hk k hk2).1.2, fun a ha b hb hab => ?_⟩
  · obtain ⟨k, hk2, rfl⟩ := List.mem_map.mp hw
    exact zw_mem (hk k (List.mem_range.mp hk2)).1.1
  · rcases (hk b hb).2 a ha with q | q
    · exact absurd q hab
    · exact q
theorem zP1 {al : Nat → Nat} {CA : Nat → ClassId} {D : va_G} {i : Nat} {e : zE} {H : Heap} (h : zAt al CA D i e H) : va_P D zcl [(al i, zmc al CA e)] H := by
  intro k q hk
  rcases k with _ | k
  · simp only [List.getElem?_cons_zero, Option.some.injEq] at hk
    subst hk
    exact h.2
  · simp at hk
theorem zoff : ∀ (l : List Int) (ts : List Nat) (pc k t : Nat), l.map (fun o => (pc : Int) + o) = ts.map Int.ofNat → ts[k]? = some t → ∃ o, l[k]? = some o ∧ (pc : Int) + o = (t : Int) := by
  intro l ts pc k t h ht
  have h1 : (l.map (fun o => (pc : Int) + o))[k]? = some (t : Int) := by
    rw [h, List.getElem?_map, ht]
    rfl
  rw [List.getElem?_map] at h1
  cases ho : l[k]? with
  | none => rw [ho] at h1; simp at h1
  | some o =>
    rw [ho] at h1
    exact ⟨o, rfl, Option.some.inj h1⟩
theorem zlk_ge : ∀ (ps : List (Int × Int)) (x : Int) (k : Nat), zlk ps x k = 0 ∨ k ≤ zlk ps x k
  | [], _, _ => Or.inl rfl
  | (a, o) :: r, x, k => by
    unfold zlk
    split
    · exact Or.inr (Nat.le_refl _)
    · rcases zlk_ge r x (k + 1) with h | h
      · exact Or.inl h
      · exact Or.inr (by omega)
theorem zlk_off : ∀ (ps : List (Int × Int)) (x d : Int) (k pc t0 t : Nat) (ts : List Nat), ps.map (fun o => (pc : Int) + o.2) = ts.map Int.ofNat → (pc : Int) + d = (t0 : Int) → (if zlk ps x (k + 1) = 0 then some t0 else ts[zlk ps x (k + 1) - (k + 1)]?) = some t → (pc : Int) + Op.lookupswitch.offset ps d x = (t : Int)
  | [], x, d, k, pc, t0, t, ts, _, h2, h3 => by
    simp only [zlk, if_true, Option.some.injEq] at h3
    subst h3
    exact h2
  | (a, o) :: r, x, d, k, pc, t0, t, ts, h1, h2, h3 => by
    cases ts with
    | nil => simp at h1
    | cons u ts =>
      simp only [List.map_cons, List.cons.injEq] at h1
      unfold zlk at h3
      rw [Op.lookupswitch.offset_cons]
      by_cases hx : x = a
      · rw [if_pos hx] at h3
        rw [if_pos hx.symm]
        rw [if_neg (by omega), Nat.sub_self] at h3
        simp only [List.getElem?_cons_zero, Option.some.injEq] at h3
        subst h3
        exact h1.1
      · rw [if_neg hx] at h3
        rw [if_neg (Ne.symm hx)]
        refine zlk_off r x d (k + 1) pc t0 t ts h1.2 h2 ?_
        by_cases hz : zlk r x (k + 1 + 1) = 0
        · rw [if_pos hz] at h3 ⊢
          exact h3
        · rw [if_neg hz] at h3 ⊢
          rcases zlk_ge r x (k + 1 + 1) with q | q
          · exact absurd q hz
          · rw [show zlk r x (k + 1 + 1) - (k + 1) = (zlk r x (k + 1 + 1) - (k + 1 + 1)) + 1 by omega, List.getElem?_cons_succ] at h3
            exact h3
section ZST2
variable {p : Program} {l : Launch} {e : Env} {R : Room} {s : State} {m : MethodId} {args : Array Value} {below : List Frame} {meth : Method} {c : Code} {H : Heap} {locs : List Loc} {cells slots : Nat} {Q : State → Prop}
variable {al : Nat → Nat} {CA : Nat → ClassId} {D : va_G} {y pc : Nat} {ls : Array Slot} {ax : List Nat} {L : zL} {st : List Value} {h : zH} {x : zR ⊕ zS} {kr : Nat}
theorem zs_tableswitch {d lo hi : Int} {offs : Array Int} (X : zCtx p R s m args meth c al CA D y) (hok : zOK y pc (.tableswitch d lo hi offs) ax = true) (hs : zbase kr pc (.tableswitch d lo hi offs) ax L st h = some x) (hH : zHH al CA D h H) (hL : zLh al ls (zMt y).2.2.1 L) (hlo : ∀ q ∈ locs, zA al q.base) (k : zGo p l e R s m args below meth c cells slots Q al CA D y h x) : W p l e R s m args below meth c H locs cells slots Q (F0 m pc ls (st.map (zv al))) := by
  obtain ⟨nn, hd⟩ := zdc_sw hok
  obtain ⟨hx, hb, -⟩ := X
  simp only [zbase] at hs
  cases ax with
  | nil => simp [zOK] at hok
  | cons t0 ts =>
    simp only [zOK, Bool.and_eq_true, decide_eq_true_eq] at hok
    obtain ⟨-, ⟨⟨h1, h2⟩, -⟩, -⟩ := hok
    split at hs
    · rename_i v st2
      simp only [zjump] at hs
      split at hs
      · rename_i hout
        simp only [List.getElem?_cons_zero] at hs
        exact lv_tableOut hx hb hd hout h1 (k.same hH hlo hs hL)
      · rename_i hin
        simp only [List.getElem?_cons_succ] at hs
        split at hs
        · rename_i t ht
          obtain ⟨o, ho, hp⟩ := zoff _ _ _ _ _ h2 ht
          exact lv_tableIn hx hb hd (fun q => hin (Or.inl q)) (fun q => hin (Or.inr q)) (by rw [← Array.getElem?_toList]; exact ho) hp (k.same hH hlo hs hL)
        · simp at hs
    · simp at hs
theorem zs_lookupswitch {d : Int} {ps : Array (Int × Int)} (X : zCtx p R s m args meth c al CA D y) (hok : zOK y pc (.lookupswitch d ps) ax = true) (hs : zbase kr pc (.lookupswitch d ps) ax L st h = some x) (hH : zHH al CA D h H) (hL : zLh al ls (zMt y).2.2.1 L) (hlo : ∀ q ∈ locs, zA al q.base) (k : zGo p l e R s m args below meth c cells slots Q al CA D y h x) : W p l e R s m args below meth c H locs cells slots Q (F0 m pc ls (st.map (zv al))) := by
  obtain ⟨nn, hd⟩ := zdc_sw hok
  obtain ⟨hx, hb, -⟩ := X
  simp only [zbase] at hs
  cases ax with
  | nil => simp [zOK] at hok
  | cons t0 ts =>
    simp only [zOK, Bool.and_eq_true, decide_eq_true_eq] at hok
    obtain ⟨-, ⟨h1, h2⟩, h3⟩ := hok
    split at hs
    · rename_i v st2
      simp only [zjump] at hs
      split at hs
      · rename_i t ht
        refine lv_lookup hx hb hd h3 rfl (zlk_off ps.toList v.toInt d 0 pc t0 t ts h2 h1 ?_) (k.same hH hlo hs hL)
        by_cases hz : zlk ps.toList v.toInt (0 + 1) = 0
        · rw [if_pos hz]
          rw [show zlk ps.toList v.toInt 1 = 0 from hz] at ht
          exact ht
        · rw [if_neg hz]
          rcases zlk_ge ps.toList v.toInt (0 + 1) with q | q
          · exact absurd q hz
          · rw [show zlk ps.toList v.toInt 1 = (zlk ps.toList v.toInt (0 + 1) - (0 + 1)) + 1 by show zlk ps.toList v.toInt (0 + 1) = _; omega] at ht
            exact ht
      · simp at hs
    · simp at hs
theorem zs_getfield {ix : Nat} (X : zCtx p R s m args meth c al CA D y) (hok : zOK y pc (.getfield ix) ax = true) (hs : zbase kr pc (.getfield ix) ax L st h = some x) (hH : zHH al CA D h H) (hL : zLh al ls (zMt y).2.2.1 L) (hlo : ∀ q ∈ locs, zA al q.base) (k : zGo p l e R s m args below meth c cells slots Q al CA D y h x) : W p l e R s m args below meth c H locs cells slots Q (F0 m pc ls (st.map (zv al))) := by
  have hd := zdc_of hok rfl
  obtain ⟨hx, hb, -, hown, hts, hK, -⟩ := X
  simp only [zbase, zget1, zgo] at hs
  split at hs
  · rename_i i st2 ci fk r
    split at hs
    · rename_i cc fs hc
      split at hs
      · rename_i hci
        subst hci
        split at hs
        · rename_i v hv
          rcases r with _ | ⟨q1, _ | ⟨q2, r⟩⟩
          · simp [zOK] at hok
          · simp only [zOK, Bool.and_eq_true, decide_eq_true_eq] at hok
            obtain ⟨-, ⟨h1, h2⟩, h3⟩ := hok
            have hP := zP1 (hH.2.2 _ _ hc)
            exact va_get hx hb hts (zcl_ok h1).1 hown hK.1 hP 0 (fs := fs.map (zv al)) rfl (zcl_at h1) fk h2 (hts _ (zw_mem h3)) (fun _ q => q) (by rw [List.getElem?_map, hv]; rfl) hd (k.same hH hlo hs hL)
          · simp [zOK] at hok
        · simp at hs
      · simp at hs
    · simp at hs
  · simp at hs
theorem zfit_ok {al : Nat → Nat} {ty : FieldType} {kd : Nat} {v : Value} (h1 : zkd ty = kd) (h2 : kd < 2) (h3 : zfits kd v = true) : narrow ty (zv al v) = zv al v ∧ fits ty (zv al v) = true := by
  subst h1
  cases ty <;> simp [zkd] at h2 h3 ⊢ <;> cases v <;> simp [zfits] at h3 <;> exact ⟨rfl, rfl⟩
theorem zs_putfield {ix : Nat} (X : zCtx p R s m args meth c al CA D y) (hok : zOK y pc (.putfield ix) ax = true) (hs : zbase kr pc (.putfield ix) ax L st h = some x) (hH : zHH al CA D h H) (hL : zLh al ls (zMt y).2.2.1 L) (hlo : ∀ q ∈ locs, zA al q.base) (k : zGo p l e R s m args below meth c cells slots Q al CA D y h x) : W p l e R s m args below meth c H locs cells slots Q (F0 m pc ls (st.map (zv al))) := by
  have hd := zdc_of hok rfl
  obtain ⟨hx, hb, -, hown, hts, hK, hal, -, -, hini⟩ := X
  simp only [zbase, zput1, zgo] at hs
  split at hs
  · rename_i v i st2 ci fk kd r
    split at hs
    · rename_i cc fs hc
      split at hs
      · rename_i hci
        obtain ⟨hci, hlen, hfit⟩ := hci
        subst hci
        rcases r with _ | ⟨q1, _ | ⟨q2, r⟩⟩
        · simp [zOK] at hok
        · simp only [zOK, Bool.and_eq_true, decide_eq_true_eq, Bool.or_eq_true, beq_iff_eq] at hok
          obtain ⟨-, ⟨⟨⟨⟨h1, h2⟩, h3⟩, h4⟩, h5⟩, h6⟩ := hok
          obtain ⟨hin, hty, hnm⟩ := zcl_ok h1
          have hz := zfit_ok (al := al) h4 h5 hfit
          have hat := hH.2.2 _ _ hc
          have hap := va_apart (own := (zMt y).1.cls) hts hin (ztyp cc) hty hnm hK.1 (zcl_at h1)
          obtain ⟨r, g1, cell, p1, p2, p3, p4⟩ := hat.2
          cases (zcl_at h1).symm.trans g1
          obtain ⟨hS, hfc, kC, hkC, hkind⟩ := hK.1.1 cc _ (zcl_at h1)
          obtain ⟨cf, kf, fi, f, hi, hsl⟩ := hS fk h2
          have hlay := hts _ (hin _ (u_in_lay h2))
          unfold u_lay at hlay
          have hst := (u_facts hfc hkC (u_lays hts hin h2) hi).1
          have hlink := hts _ (zw_mem h3)
          have fin : ∀ H' : Heap, H'[al (i + 1)]? = some (cell.setSlot f.slot (zv al v)) → H'.size = H.size → (∀ q, q ≠ al (i + 1) → H'[q]? = H[q]?) → W p l e R s m args below meth c H' (locs ++ [⟨al (i + 1), f.slot⟩]) cells slots Q (F0 m (pc + 3) ls (st2.map (zv al))) := fun H' e1 e2 e3 => by
            rw [hsl] at e1
            refine k.put hc (by simp [zsz]) (zHH_set hal hH (List.getElem?_eq_some_iff.mp hc).1 e2 e3 ⟨fun a ha => (by cases ha), ?_⟩) (fun q hq => ?_) hs hL
            · refine ⟨_, zcl_at h1, t_OB.to (V := updV (vp_V (fs.map (zv al))) fk (zv al v)) ⟨_, e1, p2, p3, t_set p4 hap h2 _⟩ (fun j _ => ?_)⟩
              rw [vp_updV_set (by rw [List.length_map]; exact hlen) _ j]
              show vp_V ((fs.map (zv al)).set fk (zv al v)) j = vp_V ((fs.set fk v).map (zv al)) j
              rw [List.map_set]
            · rcases List.mem_append.mp hq with q | q
              · exact hlo _ q
              · simp only [List.mem_singleton] at q
                subst q
                exact ⟨i + 1, by omega, Nat.le_refl _⟩
          rcases h6 with h6 | h6
          · rw [if_neg (by rw [h6]; decide)] at hlay
            have h7 := u_store hfc hkC hkind hlay hi (hty fk h2) hz.1 hz.2
            exact W.putK hx hb (f := f) ⟨hown, hlink, ⟨_, _, _, hi⟩, hst⟩ (by rw [p2]; exact h7) p1 p3 (by rw [hsl]; exact k2_hasslot (p4 fk h2)) rfl rfl hd fin
          · by_cases hf : (zcF cc fk).2.2.2 = true
            · rw [if_pos hf] at hlay
              have hcf : m.cls = cf := by
                obtain ⟨_, _, c', _, _, _, -, -, hf', -, -, -, hown2, -⟩ := Cond.laysFinal_spec hlay
                have e1 : c' = cf := by have := hi.symm.trans hf'; simp at this; exact this.1.symm
                rw [h6.2] at hown2
                rw [← e1]; exact Option.some.inj (hown.symm.trans hown2)
              have h7 := u_fits hfc hkC hkind (Or.inr hlay) hi (hty fk h2) hz.1 hz.2
              exact W.putFinK hx hb hown hlink hi hst hcf (hini h6.1) (by rw [p2]; exact h7) p1 p3 (by rw [hsl]; exact k2_hasslot (p4 fk h2)) rfl rfl hd fin
            · rw [if_neg hf] at hlay
              have h7 := u_store hfc hkC hkind hlay hi (hty fk h2) hz.1 hz.2
              exact W.putK hx hb (f := f) ⟨hown, hlink, ⟨_, _, _, hi⟩, hst⟩ (by rw [p2]; exact h7) p1 p3 (by rw [hsl]; exact k2_hasslot (p4 fk h2)) rfl rfl hd fin
        · simp [zOK] at hok
      · simp at hs
    · simp at hs
  · simp at hs
end ZST2
end
section
/-! new cells, rows -/
section ZST3
variable {p : Program} {l : Launch} {e : Env} {R : Room} {s : State} {m : MethodId} {args : Array Value} {below : List Frame} {meth : Method} {c : Code} {H : Heap} {locs : List Loc} {cells slots : Nat} {Q : State → Prop}
variable {al : Nat → Nat} {CA : Nat → ClassId} {D : va_G} {y pc : Nat} {ls : Array Slot} {ax : List Nat} {L : zL} {st : List Value} {h : zH} {x : zR ⊕ zS} {kr : Nat}
theorem zs_new {ix : Nat} (X : zCtx p R s m args meth c al CA D y) (hok : zOK y pc (.new ix) ax = true) (hs : zbase kr pc (.new ix) ax L st h = some x) (hH : zHH al CA D h H) (hL : zLh al ls (zMt y).2.2.1 L) (hlo : ∀ q ∈ locs, zA al q.base) (hr : cells + ((zhp x).length - h.length) ≤ R.cells ∧ slots + (zss (zhp x) - zss h) ≤ R.slots) (k : zGo p l e R s m args below meth c cells slots Q al CA D y h x) : W p l e R s m args below meth c H locs cells slots Q (F0 m pc ls (st.map (zv al))) := by
  have hd := zdc_of hok rfl
  obtain ⟨hx, hb, -, hown, hts, hK, hal, -⟩ := X
  simp only [zbase, znew, zgo] at hs
  split at hs
  · rename_i ci q1 q2 q3 ds
    simp only [zOK, Bool.and_eq_true, decide_eq_true_eq, List.all_eq_true, List.mem_range] at hok
    obtain ⟨-, ⟨⟨⟨⟨h1, h2⟩, h3⟩, h4⟩, h5⟩, h6⟩ := hok
    obtain ⟨hin, hty, hnm⟩ := zcl_ok h1
    have hxe := Option.some.inj hs
    rw [← hxe] at hr
    simp only [zhp, List.length_append, List.length_singleton, zss_app, zsz, Nat.add_sub_cancel_left, h5] at hr
    have hKn := hK.1.1 ci _ (zcl_at h1)
    refine W.newcK hx hb hown (hts _ (zw_mem h2)) (hts _ (zw_mem h3)) (hts _ (zw_mem h4)) rfl hd hr.1 hr.2 hKn.2.1 rfl fun H1 kC hkC e1 z1 o1 => ?_
    have hnew := hH.2.1
    have hHH : zHH al CA D (h ++ [.inr (ci, zdef ds)]) H1 := by
      refine zHH_app hal hH z1 o1 ⟨fun a ha => (by cases ha), _, zcl_at h1, ?_⟩
      show t_OB (al h.length) (D.1 ci) (zcK ci) (D.2 ci) H1 (vp_V ((zdef ds).map (zv al)))
      rw [← hnew]
      refine (u_born (ztyp ci) hts hin hKn hkC e1 hty).to fun j hj => ?_
      rw [h6 j hj]
      unfold vp_V
      rw [List.getD_eq_getElem?_getD, List.getD_eq_getElem?_getD, List.getElem?_map]
      cases hg : (zdef ds)[j]? with
      | none => rfl
      | some v =>
        have : v = .int 0 ∨ v = .null := by
          have hm := List.mem_of_getElem? hg
          clear hg h6 h5 hs hr hxe
          induction ds with
          | nil => simp [zdef] at hm
          | cons a r ih =>
            cases a with
            | zero =>
              simp only [zdef] at hm
              rcases List.mem_cons.mp hm with q | q
              · exact Or.inl q
              · exact ih q
            | succ a =>
              simp only [zdef] at hm
              rcases List.mem_cons.mp hm with q | q
              · exact Or.inr q
              · exact ih q
        rcases this with rfl | rfl <;> rfl
    have := k.app (H' := H1) hHH hlo hs hL
    rw [show zsz (.inr (ci, zdef ds)) = zcK ci from h5] at this
    rw [hnew]
    exact this
  · simp at hs
theorem zs_newarray {a : ArrayType} (X : zCtx p R s m args meth c al CA D y) (hok : zOK y pc (.newarray a) ax = true) (hs : zbase kr pc (.newarray a) ax L st h = some x) (hH : zHH al CA D h H) (hL : zLh al ls (zMt y).2.2.1 L) (hlo : ∀ q ∈ locs, zA al q.base) (hr : cells + ((zhp x).length - h.length) ≤ R.cells ∧ slots + (zss (zhp x) - zss h) ≤ R.slots) (k : zGo p l e R s m args below meth c cells slots Q al CA D y h x) : W p l e R s m args below meth c H locs cells slots Q (F0 m pc ls (st.map (zv al))) := by
  have hd := zdc_of hok rfl
  obtain ⟨hx, hb, -, hown, hts, hK, hal, -⟩ := X
  simp only [zbase, znewa, zgo] at hs
  split at hs
  · rename_i n st2 t r
    cases r with
    | nil => simp [zOK] at hok
    | cons q1 r =>
      simp only [zOK, Bool.and_eq_true, decide_eq_true_eq] at hok
      obtain ⟨-, ⟨⟨h1, h2⟩, h3⟩, h4⟩ := hok
      split at hs
      · simp at hs
      · rename_i hn
        have hn1 : ¬ n < 0 := fun q => hn (Or.inl q)
        have hn2 : n.toNatClampNeg ≤ 10000 := Nat.not_lt.mp fun q => hn (Or.inr q)
        have hxe := Option.some.inj hs
        rw [← hxe] at hr
        have hz : zsz (.inl (t, zdefA t n.toNatClampNeg)) = n.toNatClampNeg := by
          show (zdefA t n.toNatClampNeg).1 = _
          unfold zdefA
          split <;> rfl
        simp only [zhp, List.length_append, List.length_singleton, zss_app, hz, Nat.add_sub_cancel_left] at hr
        have hkt : newarray.typeOf a = zkty t := by
          subst h1
          cases a <;> first | rfl | simp [zat1] at h2
        refine va_newaK hx hb (hts _ (zw_mem h4)) rfl hd rfl hn1 rfl (by
          have : componentBytes (newarray.typeOf a) ≤ 8 := by cases a <;> decide
          calc n.toNatClampNeg * componentBytes (newarray.typeOf a) ≤ 10000 * 8 := Nat.mul_le_mul hn2 this
            _ ≤ 536870912 := by decide) hr.1 hr.2 rfl fun H1 cA e1 z1 o1 hAr hNm => ?_
        have hnew := hH.2.1
        have hcA : cA = CA t := by
          have h9 := (hK.2.1 t h3).2
          rw [← hkt] at h9
          rw [hNm] at h9
          exact Option.some.inj h9
        have hHH : zHH al CA D (h ++ [.inl (t, zdefA t n.toNatClampNeg)]) H1 := by
          refine zHH_app hal hH z1 o1 ⟨fun b hb2 => (by cases hb2; exact h3), ?_⟩
          show H1[al h.length]? = some (vp_cell (CA t) (zca al (zdefA t n.toNatClampNeg)))
          rw [← hnew, e1, hcA, hkt]
          rcases (show t = 0 ∨ t = 1 ∨ t = 2 by omega) with rfl | rfl | rfl <;> rfl
        have := k.app (H' := H1) hHH hlo hs hL
        rw [hz] at this
        rw [hnew]
        exact this
  · simp at hs
theorem zs_anewarray {ix : Nat} (X : zCtx p R s m args meth c al CA D y) (hok : zOK y pc (.anewarray ix) ax = true) (hs : zbase kr pc (.anewarray ix) ax L st h = some x) (hH : zHH al CA D h H) (hL : zLh al ls (zMt y).2.2.1 L) (hlo : ∀ q ∈ locs, zA al q.base) (hr : cells + ((zhp x).length - h.length) ≤ R.cells ∧ slots + (zss (zhp x) - zss h) ≤ R.slots) (k : zGo p l e R s m args below meth c cells slots Q al CA D y h x) : W p l e R s m args below meth c H locs cells slots Q (F0 m pc ls (st.map (zv al))) := by
  have hd := zdc_of hok rfl
  obtain ⟨hx, hb, -, hown, hts, hK, hal, -⟩ := X
  simp only [zbase, znewa, zgo] at hs
  split at hs
  · rename_i n st2 t r
    cases r with
    | nil => simp [zOK] at hok
    | cons q1 r =>
      simp only [zOK, Bool.and_eq_true, decide_eq_true_eq] at hok
      obtain ⟨-, ⟨h1, h3⟩, h4⟩ := hok
      subst h1
      split at hs
      · simp at hs
      · rename_i hn
        have hn1 : ¬ n < 0 := fun q => hn (Or.inl q)
        have hn2 : n.toNatClampNeg ≤ 10000 := Nat.not_lt.mp fun q => hn (Or.inr q)
        have hxe := Option.some.inj hs
        rw [← hxe] at hr
        have hz : zsz (.inl (3, zdefA 3 n.toNatClampNeg)) = n.toNatClampNeg := rfl
        simp only [zhp, List.length_append, List.length_singleton, zss_app, hz, Nat.add_sub_cancel_left] at hr
        obtain ⟨-, hAO⟩ := hK.2.2.1 h3
        refine W.anewA (t := .int) hx hb hown (hts _ (zw_mem h4)) hAO rfl hd rfl hn1 (by omega) hr.1 hr.2 fun cA kA comp hNm hkA hkind hcomp => ?_
        have hnew := hH.2.1
        have hcA : cA = CA 3 := by
          have h9 := (hK.2.1 3 h3).2
          rw [show zkty 3 = .array .int from rfl, hNm] at h9
          exact Option.some.inj h9
        have hHH : zHH al CA D (h ++ [.inl (3, zdefA 3 n.toNatClampNeg)]) (H.push { cls := cA, slots := Array.replicate n.toNatClampNeg .null, vm := .none }) := by
          refine zHH_app hal hH (by simp) (fun q hq => by rw [Array.getElem?_push, if_neg (Nat.ne_of_lt hq)]) ⟨fun b hb2 => (by cases hb2; exact h3), ?_⟩
          show (H.push _)[al h.length]? = some (vp_cell (CA 3) (zca al (zdefA 3 n.toNatClampNeg)))
          rw [← hnew, arrV_new, hcA]
          simp
          rfl
        have := k.app hHH hlo hs hL
        rw [hz] at this
        rw [hnew]
        exact this
  · simp at hs
theorem zs_arraylength (X : zCtx p R s m args meth c al CA D y) (hok : zOK y pc .arraylength ax = true) (hs : zbase kr pc .arraylength ax L st h = some x) (hH : zHH al CA D h H) (hL : zLh al ls (zMt y).2.2.1 L) (hlo : ∀ q ∈ locs, zA al q.base) (k : zGo p l e R s m args below meth c cells slots Q al CA D y h x) : W p l e R s m args below meth c H locs cells slots Q (F0 m pc ls (st.map (zv al))) := by
  have hd := zdc_of hok rfl
  obtain ⟨hx, hb, -, hown, hts, hK, -⟩ := X
  simp only [zbase, zalen, zgo] at hs
  split at hs
  · split at hs
    · rename_i i st2 _ t n f hc
      have hat := hH.2.2 _ _ hc
      have ht := (hK.2.1 t (hat.1 _ rfl)).1
      have hcell : H[al i]? = some (vp_cell (CA t) (zca al (n, f))) := hat.2
      obtain f | f | f | f | f := f
      · exact W.alen (n := Int32.ofNat n) hx hb hcell (ht n (fun j => .int (f j))) (by show (arrV _ _ _).slots.size.toInt32 = _; rw [arrV_size]; rfl) rfl rfl hd (k.same hH hlo hs hL)
      · exact W.alen (n := Int32.ofNat n) hx hb hcell (ht n (fun j => .long (f j))) (by show (arrV _ _ _).slots.size.toInt32 = _; rw [arrV_size]; rfl) rfl rfl hd (k.same hH hlo hs hL)
      · exact W.alen (n := Int32.ofNat n) hx hb hcell (ht n (fun j => .float (f j))) (by show (arrV _ _ _).slots.size.toInt32 = _; rw [arrV_size]; rfl) rfl rfl hd (k.same hH hlo hs hL)
      · exact W.alen (n := Int32.ofNat n) hx hb hcell (ht n (fun j => .double (f j))) (by show (arrV _ _ _).slots.size.toInt32 = _; rw [arrV_size]; rfl) rfl rfl hd (k.same hH hlo hs hL)
      · exact W.alen (n := Int32.ofNat n) hx hb hcell (ht n (fun j => va_rf ((f j).map al))) (by show (arrV _ _ _).slots.size.toInt32 = _; rw [arrV_size]; rfl) rfl rfl hd (k.same hH hlo hs hL)
    · simp at hs
  · simp at hs
theorem zs_iaload (X : zCtx p R s m args meth c al CA D y) (hok : zOK y pc .iaload ax = true) (hs : zbase kr pc .iaload ax L st h = some x) (hH : zHH al CA D h H) (hL : zLh al ls (zMt y).2.2.1 L) (hlo : ∀ q ∈ locs, zA al q.base) (k : zGo p l e R s m args below meth c cells slots Q al CA D y h x) : W p l e R s m args below meth c H locs cells slots Q (F0 m pc ls (st.map (zv al))) := by
  have hd := zdc_of hok rfl
  obtain ⟨hx, hb, -, hown, hts, hK, -⟩ := X
  simp only [zbase, ziald, zgo] at hs
  split at hs
  · split at hs
    · rename_i j i st2 _ n f hc
      split at hs
      · simp at hs
      · rename_i hin
        have hat := hH.2.2 _ _ hc
        have ht := (hK.2.1 0 (hat.1 _ rfl)).1
        have hlt : j.toNatClampNeg < n := Nat.not_le.mp fun q => hin (Or.inr q)
        exact W.iald (v := .int (f j.toNatClampNeg)) hx hb (show H[al i]? = some (arrV (CA 0) n (fun j => .int (f j))) from hat.2) (ht n (fun j => .int (f j))) (fun q => by cases q) (by rw [arrV_size]; exact hin) (by rw [arrV_read _ _ hlt]) rfl rfl hd (k.same hH hlo hs hL)
    · simp at hs
  · simp at hs
theorem zs_laload (X : zCtx p R s m args meth c al CA D y) (hok : zOK y pc .laload ax = true) (hs : zbase kr pc .laload ax L st h = some x) (hH : zHH al CA D h H) (hL : zLh al ls (zMt y).2.2.1 L) (hlo : ∀ q ∈ locs, zA al q.base) (k : zGo p l e R s m args below meth c cells slots Q al CA D y h x) : W p l e R s m args below meth c H locs cells slots Q (F0 m pc ls (st.map (zv al))) := by
  have hd := zdc_of hok rfl
  obtain ⟨hx, hb, -, hown, hts, hK, -⟩ := X
  simp only [zbase, zlald, zgo] at hs
  split at hs
  · split at hs
    · rename_i j i st2 _ n f hc
      split at hs
      · simp at hs
      · rename_i hin
        have hat := hH.2.2 _ _ hc
        have ht := (hK.2.1 1 (hat.1 _ rfl)).1
        have hlt : j.toNatClampNeg < n := Nat.not_le.mp fun q => hin (Or.inr q)
        exact W.lald (v := .long (f j.toNatClampNeg)) hx hb (show H[al i]? = some (arrV (CA 1) n (fun j => .long (f j))) from hat.2) (ht n (fun j => .long (f j))) (fun q => by cases q) (by rw [arrV_size]; exact hin) (by rw [arrV_read _ _ hlt]) rfl rfl hd (k.same hH hlo hs hL)
    · simp at hs
  · simp at hs
theorem zs_aaload (X : zCtx p R s m args meth c al CA D y) (hok : zOK y pc .aaload ax = true) (hs : zbase kr pc .aaload ax L st h = some x) (hH : zHH al CA D h H) (hL : zLh al ls (zMt y).2.2.1 L) (hlo : ∀ q ∈ locs, zA al q.base) (k : zGo p l e R s m args below meth c cells slots Q al CA D y h x) : W p l e R s m args below meth c H locs cells slots Q (F0 m pc ls (st.map (zv al))) := by
  have hd := zdc_of hok rfl
  obtain ⟨hx, hb, -, hown, hts, hK, -⟩ := X
  simp only [zbase, zaald, zgo] at hs
  split at hs
  · split at hs
    · rename_i j i st2 _ n f hc
      split at hs
      · simp at hs
      · rename_i hin
        split at hs
        · rename_i r hr
          have hat := hH.2.2 _ _ hc
          have ht := (hK.2.1 3 (hat.1 _ rfl)).1
          have hlt : j.toNatClampNeg < n := Nat.not_le.mp fun q => hin (Or.inr q)
          refine W.aald (v := va_rf ((f j.toNatClampNeg).map al)) (ty := .array .int) hx hb (show H[al i]? = some (arrV (CA 3) n (fun j => va_rf ((f j).map al))) from hat.2) (ht n (fun j => va_rf ((f j).map al))) rfl (fun q => by cases q) (by rw [arrV_size]; exact hin) (by rw [arrV_read _ _ hlt]) rfl rfl hd ?_
          rw [hr]
          exact k.same hH hlo hs hL
        · simp at hs
    · simp at hs
  · simp at hs
theorem zlo_app {al : Nat → Nat} {locs : List Loc} {i j : Nat} (hlo : ∀ q ∈ locs, zA al q.base) : ∀ q ∈ locs ++ [(⟨al (i + 1), j⟩ : Loc)], zA al q.base := fun q hq => by
  rcases List.mem_append.mp hq with h | h
  · exact hlo _ h
  · simp only [List.mem_singleton] at h
    subst h
    exact ⟨i + 1, by omega, Nat.le_refl _⟩
theorem zs_iastore (X : zCtx p R s m args meth c al CA D y) (hok : zOK y pc .iastore ax = true) (hs : zbase kr pc .iastore ax L st h = some x) (hH : zHH al CA D h H) (hL : zLh al ls (zMt y).2.2.1 L) (hlo : ∀ q ∈ locs, zA al q.base) (k : zGo p l e R s m args below meth c cells slots Q al CA D y h x) : W p l e R s m args below meth c H locs cells slots Q (F0 m pc ls (st.map (zv al))) := by
  have hd := zdc_of hok rfl
  obtain ⟨hx, hb, -, hown, hts, hK, hal, -⟩ := X
  simp only [zbase, ziast, zgo] at hs
  split at hs
  · split at hs
    · rename_i v j i st2 _ n f hc
      split at hs
      · simp at hs
      · rename_i hin
        have hat := hH.2.2 _ _ hc
        have hkin : (0 : Nat) ∈ zkin := hat.1 _ rfl
        have ht := (hK.2.1 0 (hat.1 _ rfl)).1
        refine W.iast hx hb (show H[al (i + 1)]? = some (arrV (CA 0) n (fun j => .int (f j))) from hat.2) (ht n (fun j => .int (f j))) (fun q => by cases q) (by rw [arrV_size]; exact hin) rfl rfl hd fun H1 e1 z1 oq => ?_
        refine k.put hc (by simp [zsz]) (zHH_set hal hH (List.getElem?_eq_some_iff.mp hc).1 z1 oq ⟨fun a ha => (by cases ha; exact hkin), ?_⟩) (zlo_app hlo) hs hL
        show H1[al (i + 1)]? = some (arrV (CA 0) n (fun q => .int (upd f j.toNatClampNeg v q)))
        rw [e1, arrV_store]
        congr 2
        funext q
        by_cases hq : q = j.toNatClampNeg
        · subst hq
          simp [updV, upd]
        · simp [updV, upd, hq]
    · simp at hs
  · simp at hs
theorem zs_lastore (X : zCtx p R s m args meth c al CA D y) (hok : zOK y pc .lastore ax = true) (hs : zbase kr pc .lastore ax L st h = some x) (hH : zHH al CA D h H) (hL : zLh al ls (zMt y).2.2.1 L) (hlo : ∀ q ∈ locs, zA al q.base) (k : zGo p l e R s m args below meth c cells slots Q al CA D y h x) : W p l e R s m args below meth c H locs cells slots Q (F0 m pc ls (st.map (zv al))) := by
  have hd := zdc_of hok rfl
  obtain ⟨hx, hb, -, hown, hts, hK, hal, -⟩ := X
  simp only [zbase, zlast, zgo] at hs
  split at hs
  · split at hs
    · rename_i v j i st2 _ n f hc
      split at hs
      · simp at hs
      · rename_i hin
        have hat := hH.2.2 _ _ hc
        have hkin : (1 : Nat) ∈ zkin := hat.1 _ rfl
        have ht := (hK.2.1 1 (hat.1 _ rfl)).1
        refine W.last hx hb (show H[al (i + 1)]? = some (arrV (CA 1) n (fun j => .long (f j))) from hat.2) (ht n (fun j => .long (f j))) (fun q => by cases q) (by rw [arrV_size]; exact hin) rfl rfl hd fun H1 e1 z1 oq => ?_
        refine k.put hc (by simp [zsz]) (zHH_set hal hH (List.getElem?_eq_some_iff.mp hc).1 z1 oq ⟨fun a ha => (by cases ha; exact hkin), ?_⟩) (zlo_app hlo) hs hL
        show H1[al (i + 1)]? = some (arrV (CA 1) n (fun q => .long (vp_updL f j.toNatClampNeg v q)))
        rw [e1, arrV_store]
        congr 2
        funext q
        by_cases hq : q = j.toNatClampNeg
        · subst hq
          simp [updV, vp_updL]
        · simp [updV, vp_updL, hq]
    · simp at hs
  · simp at hs
theorem zs_aastore (X : zCtx p R s m args meth c al CA D y) (hok : zOK y pc .aastore ax = true) (hs : zbase kr pc .aastore ax L st h = some x) (hH : zHH al CA D h H) (hL : zLh al ls (zMt y).2.2.1 L) (hlo : ∀ q ∈ locs, zA al q.base) (k : zGo p l e R s m args below meth c cells slots Q al CA D y h x) : W p l e R s m args below meth c H locs cells slots Q (F0 m pc ls (st.map (zv al))) := by
  have hd := zdc_of hok rfl
  obtain ⟨hx, hb, -, hown, hts, hK, hal, -⟩ := X
  simp only [zbase, zaast, zgo] at hs
  split at hs
  · split at hs
    · rename_i r j i st2 _ n f hc
      split at hs
      · rename_i n2 f2 hc2
        split at hs
        · simp at hs
        · rename_i hin
          have hat := hH.2.2 _ _ hc
          have hkin : (3 : Nat) ∈ zkin := hat.1 _ rfl
          have hat2 := hH.2.2 _ _ hc2
          have ht := (hK.2.1 3 (hat.1 _ rfl)).1
          obtain ⟨⟨k3, kc, g1, g2, g3⟩, -⟩ := hK.2.2.1 (hat.1 _ rfl)
          have hin2 : ¬ j < 0 ∧ j.toNatClampNeg < n := ⟨fun q => hin (Or.inl q), Nat.not_le.mp fun q => hin (Or.inr q)⟩
          refine W.aast (cell := arrV (CA 3) n (fun j => va_rf ((f j).map al))) (cv := arrV (CA 0) n2 (fun j => .int (f2 j))) (t := .array .int) hx hb hat.2 (fun q h => by cases h) (fun h => by cases h) g1 g2 rfl g3 (by rw [arrV_size]; exact hin2) hat2.2 (fun q h => by cases h) g3 (va_asg _ _) rfl rfl hd fun H1 e1 z1 oq => ?_
          refine k.put hc (by simp [zsz]) (zHH_set hal hH (List.getElem?_eq_some_iff.mp hc).1 z1 oq ⟨fun a ha => (by cases ha; exact hkin), ?_⟩) (zlo_app hlo) hs hL
          show H1[al (i + 1)]? = some (arrV (CA 3) n (fun q => va_rf ((va_up f j.toNatClampNeg (some r) q).map al)))
          rw [e1, arrV_store]
          congr 2
          funext q
          by_cases hq : q = j.toNatClampNeg
          · subst hq
            simp [updV, va_up, va_rf]
          · simp [updV, va_up, hq]
      · simp at hs
    · simp at hs
  · simp at hs
end ZST3
end
section
/-! EVERY RUN OF THE PURE MACHINE IS ONE OF THE MACHINE'S -/
theorem zbase_ret {kr pc : Nat} {i : Instr} {ax : List Nat} {L : zL} {st : List Value} {h : zH} {r : zR} (hs : zbase kr pc i ax L st h = some (.inl r)) : (i = .ireturn ∧ ∃ v, st = [.int v] ∧ r = (some (.int v), h) ∧ (kr = 1 ∨ (kr = 2 ∧ (v = 0 ∨ v = 1)))) ∨ (i = .lreturn ∧ ∃ v, st = [.long v] ∧ r = (some (.long v), h) ∧ kr = 3) ∨ (i = .dreturn ∧ ∃ v, st = [.double v] ∧ r = (some (.double v), h) ∧ kr = 4) ∨ (i = .areturn ∧ ∃ v, st = [.ref v] ∧ r = (some (.ref v), h) ∧ kr = 5) ∨ (i = .return_ ∧ st = [] ∧ r = (none, h) ∧ kr = 0) := by
  cases i <;> simp only [zbase, zgo, zloadI, zloadL, zloadD, zloadA, zstoreI, zstoreA, zstoreL, zstoreD, zii, zll, zget1, zput1, znew, znewa, zalen, ziald, zlald, zaald, ziast, zlast, zaast, zif, zjump] at hs
  case ireturn =>
    split at hs
    · split at hs
      · rename_i v hk
        refine Or.inl ⟨rfl, v, rfl, ?_, hk⟩
        simp at hs
        exact hs.symm
      · simp at hs
    · simp at hs
  case lreturn =>
    split at hs
    · split at hs
      · rename_i v hk
        refine Or.inr (Or.inl ⟨rfl, v, rfl, ?_, hk⟩)
        simp at hs
        exact hs.symm
      · simp at hs
    · simp at hs
  case dreturn =>
    split at hs
    · split at hs
      · rename_i v hk
        refine Or.inr (Or.inr (Or.inl ⟨rfl, v, rfl, ?_, hk⟩))
        simp at hs
        exact hs.symm
      · simp at hs
    · simp at hs
  case areturn =>
    split at hs
    · split at hs
      · rename_i v hk
        refine Or.inr (Or.inr (Or.inr (Or.inl ⟨rfl, v, rfl, ?_, hk⟩)))
        simp at hs
        exact hs.symm
      · simp at hs
    · simp at hs
  case return_ =>
    split at hs
    · split at hs
      · rename_i hk
        refine Or.inr (Or.inr (Or.inr (Or.inr ⟨rfl, rfl, ?_, hk⟩)))
        simp at hs
        exact hs.symm
      · simp at hs
    · simp at hs
  all_goals
    exfalso
    (repeat' split at hs) <;> simp at hs
theorem zcall_ret {C : Nat → List Value → zH → Option zR} {pc : Nat} {ax : List Nat} {L : zL} {st : List Value} {h : zH} {r : zR} (hs : zcall C pc ax L st h = some (.inl r)) : False := by
  simp only [zcall, zinv, zcopy, zmax, zobj, zback, zgo] at hs
  (repeat' split at hs) <;> simp at hs
section ZM
variable {p : Program} {l : Launch} {e : Env} {R : Room} {s : State} {m : MethodId} {args : Array Value} {below : List Frame} {meth : Method} {c : Code} {H : Heap} {locs : List Loc} {cells slots : Nat} {Q : State → Prop}
variable {al : Nat → Nat} {CA : Nat → ClassId} {D : va_G} {y pc : Nat} {ls : Array Slot} {ax : List Nat} {L : zL} {st : List Value} {h : zH} {x : zR ⊕ zS} {kr : Nat}
set_option maxHeartbeats 1000000 in
theorem zbaseW {i : Instr} (X : zCtx p R s m args meth c al CA D y) (hok : zOK y pc i ax = true) {q : zS} (hx : x = .inr q) (hs : zbase kr pc i ax L st h = some x) (hH : zHH al CA D h H) (hL : zLh al ls (zMt y).2.2.1 L) (hlo : ∀ q ∈ locs, zA al q.base) (hr : cells + ((zhp x).length - h.length) ≤ R.cells ∧ slots + (zss (zhp x) - zss h) ≤ R.slots) (k : zGo p l e R s m args below meth c cells slots Q al CA D y h x) : W p l e R s m args below meth c H locs cells slots Q (F0 m pc ls (st.map (zv al))) := by
  cases i
  case iconst => exact zs_iconst X hok hs hH hL hlo k
  case bipush => exact zs_bipush X hok hs hH hL hlo k
  case sipush => exact zs_sipush X hok hs hH hL hlo k
  case lconst => exact zs_lconst X hok hs hH hL hlo k
  case dconst => exact zs_dconst X hok hs hH hL hlo k
  case ldc => exact zs_ldc X hok hs hH hL hlo k
  case ldc_w => exact zs_ldc_w X hok hs hH hL hlo k
  case ldc2_w => exact zs_ldc2_w X hok hs hH hL hlo k
  case iload => exact zs_iload X hok hs hH hL hlo k
  case iload_n => exact zs_iload_n X hok hs hH hL hlo k
  case lload => exact zs_lload X hok hs hH hL hlo k
  case lload_n => exact zs_lload_n X hok hs hH hL hlo k
  case dload => exact zs_dload X hok hs hH hL hlo k
  case dload_n => exact zs_dload_n X hok hs hH hL hlo k
  case aload => exact zs_aload X hok hs hH hL hlo k
  case aload_n => exact zs_aload_n X hok hs hH hL hlo k
  case istore => exact zs_istore X hok hs hH hL hlo k
  case istore_n => exact zs_istore_n X hok hs hH hL hlo k
  case lstore => exact zs_lstore X hok hs hH hL hlo k
  case lstore_n => exact zs_lstore_n X hok hs hH hL hlo k
  case dstore => exact zs_dstore X hok hs hH hL hlo k
  case dstore_n => exact zs_dstore_n X hok hs hH hL hlo k
  case astore => exact zs_astore X hok hs hH hL hlo k
  case astore_n => exact zs_astore_n X hok hs hH hL hlo k
  case iinc => exact zs_iinc X hok hs hH hL hlo k
  case iadd => exact zs_iadd X hok hs hH hL hlo k
  case isub => exact zs_isub X hok hs hH hL hlo k
  case imul => exact zs_imul X hok hs hH hL hlo k
  case iand => exact zs_iand X hok hs hH hL hlo k
  case ior => exact zs_ior X hok hs hH hL hlo k
  case ishl => exact zs_ishl X hok hs hH hL hlo k
  case ishr => exact zs_ishr X hok hs hH hL hlo k
  case iushr => exact zs_iushr X hok hs hH hL hlo k
  case idiv => exact zs_idiv X hok hs hH hL hlo k
  case irem => exact zs_irem X hok hs hH hL hlo k
  case ladd => exact zs_ladd X hok hs hH hL hlo k
  case lmul => exact zs_lmul X hok hs hH hL hlo k
  case lcmp => exact zs_lcmp X hok hs hH hL hlo k
  case i2l => exact zs_i2l X hok hs hH hL hlo k
  case i2d => exact zs_i2d X hok hs hH hL hlo k
  case ddiv => exact zs_ddiv X hok hs hH hL hlo k
  case dcmp => exact zs_dcmp X hok hs hH hL hlo k
  case dup => exact zs_dup X hok hs hH hL hlo k
  case pop => exact zs_pop X hok hs hH hL hlo k
  case dup_x1 => exact zs_dup_x1 X hok hs hH hL hlo k
  case dup_x2 => exact zs_dup_x2 X hok hs hH hL hlo k
  case dup2 => exact zs_dup2 X hok hs hH hL hlo k
  case ifCond => exact zs_ifCond X hok hs hH hL hlo k
  case if_icmp => exact zs_if_icmp X hok hs hH hL hlo k
  case goto => exact zs_goto X hok hs hH hL hlo k
  case tableswitch => exact zs_tableswitch X hok hs hH hL hlo k
  case lookupswitch => exact zs_lookupswitch X hok hs hH hL hlo k
  case getfield => exact zs_getfield X hok hs hH hL hlo k
  case putfield => exact zs_putfield X hok hs hH hL hlo k
  case new => exact zs_new X hok hs hH hL hlo hr k
  case newarray => exact zs_newarray X hok hs hH hL hlo hr k
  case anewarray => exact zs_anewarray X hok hs hH hL hlo hr k
  case arraylength => exact zs_arraylength X hok hs hH hL hlo k
  case iaload => exact zs_iaload X hok hs hH hL hlo k
  case laload => exact zs_laload X hok hs hH hL hlo k
  case aaload => exact zs_aaload X hok hs hH hL hlo k
  case iastore => exact zs_iastore X hok hs hH hL hlo k
  case lastore => exact zs_lastore X hok hs hH hL hlo k
  case aastore => exact zs_aastore X hok hs hH hL hlo k
  case ireturn =>
    subst hx
    simp only [zbase] at hs
    (repeat' split at hs) <;> simp at hs
  case lreturn =>
    subst hx
    simp only [zbase] at hs
    (repeat' split at hs) <;> simp at hs
  case dreturn =>
    subst hx
    simp only [zbase] at hs
    (repeat' split at hs) <;> simp at hs
  case areturn =>
    subst hx
    simp only [zbase] at hs
    (repeat' split at hs) <;> simp at hs
  case return_ =>
    subst hx
    simp only [zbase] at hs
    (repeat' split at hs) <;> simp at hs
  all_goals simp [zbase] at hs
end ZM
end
section
/-! calls, and the whole -/
def zQ (al : Nat → Nat) (CA : Nat → ClassId) (D : va_G) (r : zR) : Array Value → State → Outcome → State → Prop := fun _ _ oc t => oc = .returned (r.1.map (zv al)) ∧ zHH al CA D r.2 t.heap
def zws (y : Nat) : List Jvm.Cond := .code (zMt y).1 (zMt y).2.1 (zMt y).2.2.1 (zMt y).2.2.2.1 :: zall
def zrm (y mc ms : Nat) : Room := { frames := (zMt y).2.2.2.2.1, cells := mc, slots := ms, locals := (zMt y).2.2.2.2.2 }
def zPc (al : Nat → Nat) (CA : Nat → ClassId) (D : va_G) (a : List Value) (h : zH) : Array Value → State → Prop := va_Pc (a.map (zv al)) (fun U => zHH al CA D h U.heap ∧ zK D CA U)
/-- the contract that a run of the pure machine gives -/
def zMet (l : Launch) (y : Nat) (a : List Value) (h : zH) (r : zR) : Prop := ∀ (al : Nat → Nat) (CA : Nat → ClassId) (D : va_G), zal al → Met l (zMt y).1 (zws y) (zrm y (r.2.length - h.length) (zss r.2 - zss h)) (zPc al CA D a h) (zQ al CA D r) (r.2.length - h.length) (zss r.2 - zss h) (zA al)
theorem zPc_blind {al : Nat → Nat} {CA : Nat → ClassId} {D : va_G} {a : List Value} {h : zH} : FrameBlind (zPc al CA D a h) := fun _ U g mk q => ⟨q.1, q.2.1, zK_same (u := U) (U := U.calling g mk _) rfl q.2.2⟩
theorem zgood {w : Jvm.Cond} (h : w ∈ zall) : (w.onTables && w.keeps) = true ∨ ∃ ty, w = .arrayClass ty := good_of_word (List.all_eq_true.mp zall_good w h)
theorem zgoodIn {y p4 : Nat} (h : zw p4 (.code (zMt y).1 (zMt y).2.1 (zMt y).2.2.1 (zMt y).2.2.2.1) = true) : GoodIn zall (zws y) := fun w hw => by
  rcases List.mem_cons.mp hw with q | q
  · rw [q]
    exact ⟨zw_mem h, zgood (zw_mem h)⟩
  · exact ⟨q, zgood q⟩
section ZC
variable {p : Program} {l : Launch} {e : Env} {R : Room} {s : State} {m : MethodId} {args : Array Value} {below : List Frame} {meth : Method} {c : Code} {H : Heap} {locs : List Loc} {cells slots : Nat} {Q : State → Prop}
variable {al : Nat → Nat} {CA : Nat → ClassId} {D : va_G} {y pc : Nat} {ls : Array Slot} {ax : List Nat} {L : zL} {st : List Value} {h : zH} {x : zR ⊕ zS} {kr : Nat}
theorem zrunW {r : zR} {mc ms : Nat} {st0 rest : List Value} {a : Array Value} (hr : va_Run p l e R s m args below meth c H locs cells slots mc ms (F0 m pc ls st0) rest (zQ al CA D r a) (zA al)) (hlo : ∀ q ∈ locs, zA al q.base) (kk : ∀ (H' : Heap) (locs' : List Loc), zHH al CA D r.2 H' → (∀ q ∈ locs', zA al q.base) → W p l e R s m args below meth c H' locs' (cells + mc) (slots + ms) Q (F0 m (pc + 3) ls ((r.1.map (zv al)).toList ++ rest))) : W p l e R s m args below meth c H locs cells slots Q (F0 m pc ls st0) := by
  intro T hT X
  obtain ⟨v, st₀, t, T', L, h0, X', hL, e1, e2, hq, st⟩ := hr T hT X
  have hv : v = r.1.map (zv al) := by
    have := hq.1
    simpa using this
  subst hv
  obtain ⟨t2, a1, b1⟩ := kk T'.heap (locs ++ L) (by rw [e1]; exact hq.2) (fun q hq2 => (List.mem_append.mp hq2).elim (hlo q) (hL q)) T' rfl X'
  exact ⟨t2, st t2 a1, b1⟩
theorem zPre {al : Nat → Nat} {a : List Value} (X : zK D CA s) (hH : zHH al CA D h H) (As : List Value) (ha : As = a.map (zv al)) : ∀ U : State, U.heap = H → s.WarmedH U.vm → zPc al CA D a h As.toArray U := fun U hU hW => ⟨by rw [ha], by rw [hU]; exact hH, zK_warm hW X⟩
/-- what the check says of a call -/
theorem zcall_ok {ix kind y' mode n ci p1 p2 p3 p4 lk lp : Nat} (hok : zcallOK y ix kind [y', mode, n, ci, p1, p2, p3, p4, lk, lp] = true) (h3 : mode ≠ 3) (h4 : mode ≠ 4) (h5 : mode ≠ 5) : y' < znm ∧ zlink lk lp (zMt y).1.cls ix (zMt y').1 = true ∧ zw p3 (.initialized (zMt y').1.cls) = true ∧ zw p4 (.code (zMt y').1 (zMt y').2.1 (zMt y').2.2.1 (zMt y').2.2.2.1) = true ∧ ((zMt y').1.cls ≠ "java/lang/invoke/MethodHandle" ∧ (zMt y').1.cls ≠ "java/lang/invoke/VarHandle") ∧ (parseMethodDescriptor (zMt y').1.desc).map (fun d => d.parameters.length) = some n ∧ (zMt y').2.2.2.2.1 + 1 ≤ (zMt y).2.2.2.2.1 ∧ 8 + ((zMt y').2.2.1 + 11) + (zMt y').2.2.2.2.2 ≤ (zMt y).2.2.2.2.2 ∧ kind = mode ∧ (mode = 0 → lk = 0 ∧ ci < zcl.length ∧ zcN ci = (zMt y').1.cls ∧ zw p1 (.instanceMethod (zMt y').1) = true ∧ zw p2 (.selects (zMt y').1.cls (zMt y').1 (zMt y').1) = true) ∧ (mode = 1 → zw p1 (.static (zMt y').1) = true) ∧ (mode = 2 → zw p1 (.instanceMethod (zMt y').1) = true ∧ (zMt y').1.name = "<init>" ∧ (zMt y').2.2.2.1 = none) := by
  simp only [zcallOK, Bool.and_eq_true, decide_eq_true_eq] at hok
  obtain ⟨⟨⟨⟨⟨⟨⟨⟨⟨a1, a2⟩, a3⟩, a4⟩, a5⟩, a6⟩, a7⟩, a8⟩, a9⟩, a10⟩ := hok
  refine ⟨a1, a2, a3, a4, a5, a6, a7, a8, a9, fun q => ?_, fun q => ?_, fun q => ?_⟩
  · subst q
    simp only [Bool.and_eq_true, decide_eq_true_eq] at a10
    exact ⟨a10.1.1.1.1, a10.1.1.1.2, a10.1.1.2, a10.1.2, a10.2⟩
  · subst q
    exact a10
  · subst q
    simp only [Bool.and_eq_true, decide_eq_true_eq] at a10
    exact ⟨a10.1.1, a10.1.2, a10.2⟩
theorem zstack (al : Nat → Nat) {n : Nat} {st : List Value} (h : n ≤ st.length) : st.map (zv al) = (((st.take n).reverse.map (zv al))).reverse ++ (st.drop n).map (zv al) := by
  rw [List.map_reverse, List.reverse_reverse, ← List.map_append, List.take_append_drop]
theorem zback_inr {r : Option zR} {rest : List Value} (hs : zback pc L rest r = some x) : ∃ q, r = some q ∧ x = .inr (pc + 3, L, q.1.toList ++ rest, q.2) := by
  unfold zback at hs
  split at hs
  · simp only [zgo, Option.some.injEq] at hs
    exact ⟨_, rfl, hs.symm⟩
  · simp only [zgo, Option.some.injEq] at hs
    exact ⟨_, rfl, hs.symm⟩
  · simp at hs
/-- behind a callee -/
theorem zbackW {q : zR} {rest : List Value} {st0 : List Value} {a : Array Value} (hx : x = .inr (pc + 3, L, q.1.toList ++ rest, q.2)) (hlo : ∀ q ∈ locs, zA al q.base) (hL : zLh al ls (zMt y).2.2.1 L) (k : zGo p l e R s m args below meth c cells slots Q al CA D y h x) (hr : va_Run p l e R s m args below meth c H locs cells slots (q.2.length - h.length) (zss q.2 - zss h) (F0 m pc ls st0) (rest.map (zv al)) (zQ al CA D q a) (zA al)) : W p l e R s m args below meth c H locs cells slots Q (F0 m pc ls st0) := by
  refine zrunW hr hlo fun H' locs' hH' hlo' => ?_
  have := k _ _ _ _ hx H' ls locs' hH' hL hlo'
  rwa [show (q.1.toList ++ rest).map (zv al) = (q.1.map (zv al)).toList ++ rest.map (zv al) by cases q.1 <;> rfl] at this
theorem zinvW {C : Nat → List Value → zH → Option zR} {ix kind : Nat} (hC : ∀ y' a h' r, y' < znm → C y' a h' = some r → zMet l y' a h' r) (X : zCtx p R s m args meth c al CA D y) (hok : zcallOK y ix kind ax = true) (hd : decode (zMt y).2.1 pc = .ok (if kind = 0 then .invokevirtual ix else if kind = 1 then .invokestatic ix else .invokespecial ix, 3)) (h345 : ∀ a m r, ax = a :: m :: r → m ≠ 3 ∧ m ≠ 4 ∧ m ≠ 5) (hs : zinv C pc ax L st h = some x) (hH : zHH al CA D h H) (hL : zLh al ls (zMt y).2.2.1 L) (hlo : ∀ q ∈ locs, zA al q.base) (hr : cells + ((zhp x).length - h.length) ≤ R.cells ∧ slots + (zss (zhp x) - zss h) ≤ R.slots) (k : zGo p l e R s m args below meth c cells slots Q al CA D y h x) : W p l e R s m args below meth c H locs cells slots Q (F0 m pc ls (st.map (zv al))) := by
  obtain ⟨hx, hb, hml, hown, hts, hK, hal, hfr, hlc, -⟩ := X
  unfold zinv at hs
  split at hs
  · rename_i y' mode n ci r
    obtain ⟨n3, n4, n5⟩ := h345 _ _ _ rfl
    obtain ⟨p1, p2, p3, p4, lk, lp, rfl⟩ : ∃ p1 p2 p3 p4 lk lp, r = [p1, p2, p3, p4, lk, lp] := by
      rcases r with _ | ⟨p1, _ | ⟨p2, _ | ⟨p3, _ | ⟨p4, _ | ⟨lk, _ | ⟨lp, _ | ⟨z, r⟩⟩⟩⟩⟩⟩⟩ <;> first | exact ⟨_, _, _, _, _, _, rfl⟩ | (exfalso; revert hok; unfold zcallOK; split <;> simp_all)
    obtain ⟨a1, a2, a3, a4, a5, a6, a7, a8, a9, a10, a11, a12⟩ := zcall_ok hok n3 n4 n5
    split at hs
    · rename_i hn
      have hini := hts _ (zw_mem a3)
      have hG := zgoodIn a4
      have hrest : ∀ rest : List Value, ((rest.map fun v => v.category).sum ≤ 8) → 2 * (F0 m pc ls (st.map (zv al))).monitorRoom + ((rest.map (zv al)).map fun v => v.category).sum ≤ 8 := fun rest q => lv_room (by rw [zv_cats]; exact q)
      have hlink0 : lk = 0 → (Jvm.Cond.methodLink (zMt y).1.cls ix (zMt y').1).before args s = true := fun q => by
        subst q
        exact hts _ (zw_mem a2)
      have hnest : lk ≠ 0 → ∃ host, (Jvm.Cond.methodLinkNest (zMt y).1.cls ix (zMt y').1 host).before args s = true ∧ va_Nw (.methodLinkNest (zMt y).1.cls ix (zMt y').1 host) s := fun q => by
        unfold zlink at a2
        split at a2
        · exact absurd rfl q
        · split at a2
          · rename_i w hw
            simp only [decide_eq_true_eq] at a2
            have := hK.2.2.2 w (List.mem_of_getElem? hw)
            rw [a2.1, a2.2.1, a2.2.2] at this
            exact ⟨_, va_Nw.use rfl this, this⟩
          · simp at a2
      have hR : (zMt y').2.2.2.2.1 + 1 ≤ R.frames ∧ 8 + ((zMt y').2.2.1 + 11) + (zMt y').2.2.2.2.2 ≤ R.locals := ⟨Nat.le_trans a7 hfr, Nat.le_trans a8 hlc⟩
      split at hs
      · -- on no object
        obtain ⟨q, hq, hxq⟩ := zback_inr hs
        have hM := hC _ _ _ _ a1 hq al CA D hal
        have hsta := hts _ (zw_mem (a11 rfl))
        rw [hxq] at hr
        have hlen : ((st.take n).reverse.map (zv al)).length = n := by rw [List.length_map, List.length_reverse, List.length_take]; omega
        have hk9 : kind = 1 := a9
        subst hk9
        refine zbackW hxq hlo hL k (a := ((st.take n).reverse.map (zv al)).toArray) ?_
        by_cases hlk : lk = 0
        · exact va_runS (As := (st.take n).reverse.map (zv al)) (rest := (st.drop n).map (zv al)) (n := n) (index := ix) ⟨hx, hb, hml, hown, hts⟩ hM ⟨callB_of n hts hG rfl rfl rfl hini (hlink0 hlk) ⟨a5.1, a5.2, a6⟩ hR, hsta⟩ ⟨zPc_blind, zPre hK hH _ rfl⟩ rfl hlen hL.2.1 (zstack al hn.1) (hrest _ hn.2) hd ⟨hr.1, hr.2⟩
        · obtain ⟨host, g1, g2⟩ := hnest hlk
          exact va_runSN (As := (st.take n).reverse.map (zv al)) (rest := (st.drop n).map (zv al)) (n := n) (index := ix) ⟨hx, hb, hml, hown, hts⟩ hM ⟨va_cnB n hts hG rfl rfl rfl g2 hini ⟨a5.1, a5.2, a6⟩ hR, hsta, trivial⟩ ⟨zPc_blind, zPre hK hH _ rfl⟩ rfl hlen hL.2.1 (zstack al hn.1) (hrest _ hn.2) hd ⟨hr.1, hr.2⟩
      · -- on an object
        split at hs
        · rename_i b rest hdrop
          split at hs
          · rename_i cc fs hcb
            split at hs
            · rename_i hcc
              subst hcc
              obtain ⟨q, hq, hxq⟩ := zback_inr hs
              have hM := hC _ _ _ _ a1 hq al CA D hal
              obtain ⟨b1, b2, b3, b4, b5⟩ := a10 rfl
              rw [hxq] at hr
              have hlen : ((st.take n).reverse.map (zv al)).length = n := by rw [List.length_map, List.length_reverse, List.length_take]; omega
              have hk9 : kind = 0 := a9
              subst hk9
              have hat := hH.2.2 _ _ hcb
              obtain ⟨rr, g1, cell, p1', p2', p3', -⟩ := hat.2
              cases (zcl_at b2).symm.trans g1
              have hsum : (rest.map fun v => v.category).sum ≤ 8 := by
                have := hn.2
                rw [hdrop] at this
                simp only [List.map_cons, List.sum_cons] at this
                omega
              refine zbackW hxq hlo hL k (a := (Value.ref (al b) :: (st.take n).reverse.map (zv al)).toArray) ?_
              exact va_runV (b := al b) (C := (zMt y').1.cls) (As := (st.take n).reverse.map (zv al)) (rest := rest.map (zv al)) (n := n) (index := ix) ⟨hx, hb, hml, hown, hts⟩ hM ⟨callB_of n hts hG rfl rfl rfl hini (hlink0 b1) ⟨a5.1, a5.2, a6⟩ hR, hts _ (zw_mem b4), hts _ (zw_mem b5)⟩ ⟨zPc_blind, ⟨cell, p1', by rw [p3']; rfl, by rw [p2', ← b3]; exact (hK.1.1 cc _ (zcl_at b2)).2.1⟩, zPre hK hH _ rfl⟩ rfl hlen hL.2.1 (by show st.map (zv al) = _; rw [zstack al hn.1, hdrop]; rfl) (hrest _ hsum) hd ⟨hr.1, hr.2⟩
            · simp at hs
          · simp at hs
        · simp at hs
      · -- a constructor
        split at hs
        · rename_i b rest hdrop
          obtain ⟨q, hq, hxq⟩ := zback_inr hs
          have hM := hC _ _ _ _ a1 hq al CA D hal
          obtain ⟨b1, b2, b3⟩ := a12 rfl
          rw [hxq] at hr
          have hlen : ((st.take n).reverse.map (zv al)).length = n := by rw [List.length_map, List.length_reverse, List.length_take]; omega
          have hk9 : kind = 2 := a9
          subst hk9
          have hsum : (rest.map fun v => v.category).sum ≤ 8 := by
            have := hn.2
            rw [hdrop] at this
            simp only [List.map_cons, List.sum_cons] at this
            omega
          have hwn : zws y' = .code (zMt y').1 (zMt y').2.1 (zMt y').2.2.1 none :: zall := by unfold zws; rw [b3]
          refine zbackW hxq hlo hL k (a := (Value.ref (al b) :: (st.take n).reverse.map (zv al)).toArray) ?_
          by_cases hlk : lk = 0
          · exact va_runI (b := al b) (As := (st.take n).reverse.map (zv al)) (rest := rest.map (zv al)) (n := n) (index := ix) ⟨hx, hb, hml, hown, hts⟩ hM ⟨callB_of n hts hG hwn rfl rfl hini (hlink0 hlk) ⟨a5.1, a5.2, a6⟩ hR, b2, hts _ (zw_mem b1)⟩ ⟨zPc_blind, zPre hK hH _ rfl⟩ rfl hlen hL.2.1 (by show st.map (zv al) = _; rw [zstack al hn.1, hdrop]; rfl) (hrest _ hsum) hd ⟨hr.1, hr.2⟩
          · obtain ⟨host, g1, g2⟩ := hnest hlk
            exact va_runIN (b := al b) (As := (st.take n).reverse.map (zv al)) (rest := rest.map (zv al)) (n := n) (index := ix) ⟨hx, hb, hml, hown, hts⟩ hM ⟨va_cnB n hts hG hwn rfl rfl g2 hini ⟨a5.1, a5.2, a6⟩ hR, b2, hts _ (zw_mem b1)⟩ ⟨zPc_blind, zPre hK hH _ rfl⟩ rfl hlen hL.2.1 (by show st.map (zv al) = _; rw [zstack al hn.1, hdrop]; rfl) (hrest _ hsum) hd ⟨hr.1, hr.2⟩
        · simp at hs
      · simp at hs
    · simp at hs
  · simp at hs
end ZC
end
section
/-! System.arraycopy -/
section ZCP
variable {p : Program} {l : Launch} {e : Env} {R : Room} {s : State} {m : MethodId} {args : Array Value} {below : List Frame} {meth : Method} {c : Code} {H : Heap} {locs : List Loc} {cells slots : Nat} {Q : State → Prop}
variable {al : Nat → Nat} {CA : Nat → ClassId} {D : va_G} {y pc : Nat} {ls : Array Slot} {ax : List Nat} {L : zL} {st : List Value} {h : zH} {x : zR ⊕ zS} {kr : Nat}
theorem znn (z : Int32) (hz : ¬ z < 0) : z.toInt = (z.toNatClampNeg : Int) := by
  have hz0 : (0 : Int) ≤ z.toInt := by
    have := Int32.not_lt.mp hz
    simpa using Int32.le_iff_toInt_le.mp this
  show z.toInt = ((z.toInt.toNat : Nat) : Int)
  omega
/-- behind a copy -/
theorem zcopy_end {T : State} {vm' : Vm} {d : Nat} {e0 e' : zE} {cell : Cell} (hT : T.heap = H) (hal : zal al) (hH : zHH al CA D h H) (hlo : ∀ q ∈ locs, zA al q.base) (hd : h[d + 1]? = some e0) (hin : ∀ a, e' = .inl a → a.1 ∈ zkin) (hcell : ∀ H1 : Heap, H1[al (d + 1)]? = some cell → va_at D zcl (al (d + 1), zmc al CA e') H1) {L1 : List Loc} (hL1 : ∀ q ∈ L1, q.base = al (d + 1)) :
    zHH al CA D (h.set (d + 1) e') (((T.setVm vm').setCell (al (d + 1)) cell).heap) ∧ ∀ q ∈ locs ++ L1, zA al q.base := by
  have hheap : ((T.setVm vm').setCell (al (d + 1)) cell).heap = H.setIfInBounds (al (d + 1)) cell := by rw [← hT]; rfl
  have hl : al (d + 1) < H.size := zAt_lt (hH.2.2 _ _ hd)
  rw [hheap]
  refine ⟨zHH_set hal hH (List.getElem?_eq_some_iff.mp hd).1 (by simp) (fun q hq => by simp [Array.getElem?_setIfInBounds, Ne.symm hq]) ⟨hin, hcell _ (by simp [Array.getElem?_setIfInBounds, hl])⟩, fun q hq => ?_⟩
  rcases List.mem_append.mp hq with h1 | h1
  · exact hlo _ h1
  · exact ⟨d + 1, by omega, Nat.le_of_eq (hL1 q h1).symm⟩
set_option maxHeartbeats 1000000 in
theorem zcopyW {ix kind z p1 p2 p3 p4 : Nat} (X : zCtx p R s m args meth c al CA D y) (hok : zcallOK y ix kind [z, 3, p1, p2, p3, p4] = true) (hd : decode (zMt y).2.1 pc = .ok (if kind = 0 then .invokevirtual ix else if kind = 1 then .invokestatic ix else .invokespecial ix, 3)) (hs : zcopy pc L st h = some x) (hH : zHH al CA D h H) (hL : zLh al ls (zMt y).2.2.1 L) (hlo : ∀ q ∈ locs, zA al q.base) (k : zGo p l e R s m args below meth c cells slots Q al CA D y h x) : W p l e R s m args below meth c H locs cells slots Q (F0 m pc ls (st.map (zv al))) := by
  obtain ⟨hx, hb, hml, hown, hts, hK, hal, hfr, hlc, -⟩ := X
  simp only [zcallOK, Bool.and_eq_true, decide_eq_true_eq] at hok
  obtain ⟨⟨⟨⟨⟨⟨rfl, h1⟩, h2⟩, h3⟩, h4⟩, h5⟩, h6⟩ := hok
  simp only [zcopy, zgo] at hs
  split at hs
  · split at hs
    · simp at hs
    · rename_i n dp d sp i st2 hcond
      have hn : ¬ n < 0 := fun q => hcond (Or.inl q)
      have hdp : ¬ dp < 0 := fun q => hcond (Or.inr (Or.inl q))
      have hsp : ¬ sp < 0 := fun q => hcond (Or.inr (Or.inr (Or.inl q)))
      have hsum : (st2.map fun v => v.category).sum ≤ 8 := Nat.not_lt.mp fun q => hcond (Or.inr (Or.inr (Or.inr (Or.inr q))))
      have hcat := zv_cats al st2
      split at hs
      · rename_i n0 f n1 g hc0 hc1
        split at hs
        · rename_i hle
          obtain ⟨g4, g5⟩ := hle
          have at0 := hH.2.2 _ _ hc0
          have at1 := hH.2.2 _ _ hc1
          have hkin : (0 : Nat) ∈ zkin := at0.1 _ rfl
          have hk := hK.2.1 0 (at0.1 _ rfl)
          have hcc0 : H[al i]? = some (vp_cell (CA 0) (n0, .inl f)) := at0.2
          have hcc1 : H[al (d + 1)]? = some (vp_cell (CA 0) (n1, .inl g)) := at1.2
          obtain ⟨-, k0, hk0, cm0, hkk0⟩ := hk.1 n0 (fun j => .int (f j))
          intro T hT Xs
          obtain ⟨vm', X', step⟩ := Xs.arraycopy hx hown (hts _ (zw_mem h1)) (hts _ (zw_mem h2)) (hts _ (zw_mem h3)) (hts _ (zw_mem h4)) (src := al i) (dst := al (d + 1)) (cs := vp_cell (CA 0) (n0, .inl f)) (cd := vp_cell (CA 0) (n1, .inl g)) (srcPos := sp) (destPos := dp) (n := n) (by rw [hT]; exact hcc0) (by rw [hT]; exact hcc1)
            (fun _ h => by cases h) (fun _ h => by cases h) (fun h => by cases h) (fun h => by cases h) hk0 hk0 hkk0 hkk0 rfl hsp hdp hn
            (by rw [znn sp hsp, znn n hn]; show ¬ _ > ((arrV (CA 0) n0 (fun j => .int (f j))).slots.size : Int); rw [arrV_size]; omega)
            (by rw [znn dp hdp, znn n hn]; show ¬ _ > ((arrV (CA 0) n1 (fun j => .int (g j))).slots.size : Int); rw [arrV_size]; omega)
            (fun vm₁ _ j hj => by
              have e : (vp_cell (CA 0) (n0, .inl f)).slots.getD (sp.toNatClampNeg + j) .null = .int (f (sp.toNatClampNeg + j)) := by
                show (arrV (CA 0) n0 (fun j => .int (f j))).slots.getD _ _ = _
                rw [Array.getD_eq_getD_getElem?, arrV_read _ _ (by omega)]
                rfl
              refine ⟨?_, ?_⟩
              · rw [e]
                rfl
              · rw [e]
                exact trivial)
            (g := F0 m pc ls ((Value.int n :: .int dp :: .ref (d + 1) :: .int sp :: .ref i :: st2).map (zv al))) rfl (by rw [hml]; exact hL.2.1) (rest := st2.map (zv al)) rfl (by rw [hb]; exact hd) (Nat.le_trans h5 hfr) (by show 2 * 0 + _ + _ ≤ _; omega)
          have e1 : copied (vp_cell (CA 0) (n0, .inl f)) (vp_cell (CA 0) (n1, .inl g)) sp dp n = vp_cell (CA 0) (n1, .inl (va_cpy f g sp.toNatClampNeg dp.toNatClampNeg n.toNatClampNeg)) := va_copied (fun z => .int z) (CA 0) (CA 0) f g g4
          rw [e1] at X' step
          obtain ⟨q1, q2⟩ := zcopy_end (vm' := vm') (cell := vp_cell (CA 0) (n1, .inl (va_cpy f g sp.toNatClampNeg dp.toNatClampNeg n.toNatClampNeg))) (e' := .inl (0, n1, .inl (va_cpy f g sp.toNatClampNeg dp.toNatClampNeg n.toNatClampNeg))) hT hal hH hlo hc1 (fun a ha => (by cases ha; exact hkin)) (fun H1 h => h) (L1 := (Cell.stretch (vp_cell (CA 0) (n0, .inl f)) sp.toNatClampNeg n.toNatClampNeg).zipIdx.map fun q => (⟨al (d + 1), dp.toNatClampNeg + q.2⟩ : Loc)) (fun q hq => by obtain ⟨z, -, hz⟩ := List.mem_map.mp hq; rw [← hz])
          obtain ⟨t, a1, b1⟩ := k.put hc1 (by simp [zsz]) q1 q2 hs hL _ rfl X'
          exact ⟨t, step t a1, b1⟩
        · simp at hs
      · rename_i n0 f n1 g hc0 hc1
        split at hs
        · rename_i hle
          obtain ⟨g4, g5, g6⟩ := hle
          have at0 := hH.2.2 _ _ hc0
          have at1 := hH.2.2 _ _ hc1
          have hkin : (3 : Nat) ∈ zkin := at0.1 _ rfl
          have hk := hK.2.1 3 (at0.1 _ rfl)
          obtain ⟨⟨k3, kc, r1, r2, r3⟩, -⟩ := hK.2.2.1 (at0.1 _ rfl)
          have hcc0 : H[al i]? = some (vp_cell (CA 3) (n0, .inr (.inr (.inr (.inr (fun j => (f j).map al)))))) := at0.2
          have hcc1 : H[al (d + 1)]? = some (vp_cell (CA 3) (n1, .inr (.inr (.inr (.inr (fun j => (g j).map al)))))) := at1.2
          obtain ⟨-, k0, hk0, cm0, hkk0⟩ := hk.1 n0 (fun j => va_rf ((f j).map al))
          cases hk0.symm.trans r1
          cases hkk0.symm.trans r2
          intro T hT Xs
          obtain ⟨vm', X', step⟩ := Xs.arraycopy hx hown (hts _ (zw_mem h1)) (hts _ (zw_mem h2)) (hts _ (zw_mem h3)) (hts _ (zw_mem h4)) (src := al i) (dst := al (d + 1)) (cs := vp_cell (CA 3) (n0, .inr (.inr (.inr (.inr (fun j => (f j).map al)))))) (cd := vp_cell (CA 3) (n1, .inr (.inr (.inr (.inr (fun j => (g j).map al)))))) (srcPos := sp) (destPos := dp) (n := n) (by rw [hT]; exact hcc0) (by rw [hT]; exact hcc1)
            (fun _ h => by cases h) (fun _ h => by cases h) (fun h => by cases h) (fun h => by cases h) r1 r1 r2 r2 rfl hsp hdp hn
            (by rw [znn sp hsp, znn n hn]; show ¬ _ > ((arrV (CA 3) n0 (fun j => va_rf ((f j).map al))).slots.size : Int); rw [arrV_size]; omega)
            (by rw [znn dp hdp, znn n hn]; show ¬ _ > ((arrV (CA 3) n1 (fun j => va_rf ((g j).map al))).slots.size : Int); rw [arrV_size]; omega)
            (fun vm₁ hal1 j hj => by
              have e : (vp_cell (CA 3) (n0, .inr (.inr (.inr (.inr (fun j => (f j).map al)))))).slots.getD (sp.toNatClampNeg + j) .null = va_rf ((f (sp.toNatClampNeg + j)).map al) := by
                show (arrV (CA 3) n0 (fun j => va_rf ((f j).map al))).slots.getD _ _ = _
                rw [Array.getD_eq_getD_getElem?, arrV_read _ _ (by omega)]
                rfl
              rw [e]
              have hrow := List.all_eq_true.mp g6 j (List.mem_range.mpr hj)
              cases hy : f (sp.toNatClampNeg + j) with
              | none => exact ⟨rfl, trivial⟩
              | some r =>
                rw [hy] at hrow
                simp only [zrow] at hrow
                split at hrow
                · rename_i nr fr hr
                  have atr := hH.2.2 _ _ hr
                  obtain ⟨kc1, hkc1, -⟩ := hal1.2.2 _ _ r3
                  refine ⟨rfl, vp_cell (CA 0) (nr, .inl fr), (show T.heap[al r]? = some _ by rw [hT]; exact atr.2), (fun q h => by cases h), ⟨kc1, hkc1⟩, ⟨kc1, hkc1⟩, ?_⟩
                  show vm₁.assignable (CA 0) (CA 0) = true
                  exact va_asg _ _
                · simp at hrow)
            (g := F0 m pc ls ((Value.int n :: .int dp :: .ref (d + 1) :: .int sp :: .ref i :: st2).map (zv al))) rfl (by rw [hml]; exact hL.2.1) (rest := st2.map (zv al)) rfl (by rw [hb]; exact hd) (Nat.le_trans h5 hfr) (by show 2 * 0 + _ + _ ≤ _; omega)
          have e1 : copied (vp_cell (CA 3) (n0, .inr (.inr (.inr (.inr (fun j => (f j).map al)))))) (vp_cell (CA 3) (n1, .inr (.inr (.inr (.inr (fun j => (g j).map al)))))) sp dp n = vp_cell (CA 3) (n1, .inr (.inr (.inr (.inr (fun j => (va_cpy f g sp.toNatClampNeg dp.toNatClampNeg n.toNatClampNeg j).map al))))) := by
            rw [vp_cell_q, vp_cell_q, vp_cell_q]
            refine (va_copied (fun z => va_rf z) (CA 3) (CA 3) (fun j => (f j).map al) (fun j => (g j).map al) g4).trans ?_
            congr 1
            funext j
            unfold va_cpy
            split <;> rfl
          rw [e1] at X' step
          obtain ⟨q1, q2⟩ := zcopy_end (vm' := vm') (cell := vp_cell (CA 3) (n1, .inr (.inr (.inr (.inr (fun j => (va_cpy f g sp.toNatClampNeg dp.toNatClampNeg n.toNatClampNeg j).map al)))))) (e' := .inl (3, n1, .inr (.inr (.inr (.inr (va_cpy f g sp.toNatClampNeg dp.toNatClampNeg n.toNatClampNeg)))))) hT hal hH hlo hc1 (fun a ha => (by cases ha; exact hkin)) (fun H1 h => h) (L1 := (Cell.stretch (vp_cell (CA 3) (n0, .inr (.inr (.inr (.inr (fun j => (f j).map al)))))) sp.toNatClampNeg n.toNatClampNeg).zipIdx.map fun q => (⟨al (d + 1), dp.toNatClampNeg + q.2⟩ : Loc)) (fun q hq => by obtain ⟨z, -, hz⟩ := List.mem_map.mp hq; rw [← hz])
          obtain ⟨t, a1, b1⟩ := k.put hc1 (by simp [zsz]) q1 q2 hs hL _ rfl X'
          exact ⟨t, step t a1, b1⟩
        · simp at hs
      · simp at hs
  · simp at hs
end ZCP
end
section
/-! the calls of the library, the dispatch, and the whole -/
section ZD
variable {p : Program} {l : Launch} {e : Env} {R : Room} {s : State} {m : MethodId} {args : Array Value} {below : List Frame} {meth : Method} {c : Code} {H : Heap} {locs : List Loc} {cells slots : Nat} {Q : State → Prop}
variable {al : Nat → Nat} {CA : Nat → ClassId} {D : va_G} {y pc : Nat} {ls : Array Slot} {ax : List Nat} {L : zL} {st : List Value} {h : zH} {x : zR ⊕ zS} {kr : Nat}
theorem zobjW {ix kind z p1 p2 p3 : Nat} (X : zCtx p R s m args meth c al CA D y) (hok : zcallOK y ix kind [z, 5, p1, p2, p3] = true) (hd : decode (zMt y).2.1 pc = .ok (if kind = 0 then .invokevirtual ix else if kind = 1 then .invokestatic ix else .invokespecial ix, 3)) (hs : zobj pc L st h = some x) (hH : zHH al CA D h H) (hL : zLh al ls (zMt y).2.2.1 L) (hlo : ∀ q ∈ locs, zA al q.base) (k : zGo p l e R s m args below meth c cells slots Q al CA D y h x) : W p l e R s m args below meth c H locs cells slots Q (F0 m pc ls (st.map (zv al))) := by
  obtain ⟨hx, hb, hml, hown, hts, hK, hal, hfr, hlc, -⟩ := X
  simp only [zcallOK, Bool.and_eq_true, decide_eq_true_eq] at hok
  obtain ⟨⟨⟨⟨⟨rfl, h1⟩, h2⟩, h3⟩, h4⟩, h5⟩ := hok
  simp only [zobj, zgo] at hs
  split at hs
  · split at hs
    · simp at hs
    · rename_i b st2 hsum
      refine W.objInit hx hb hown (hts _ (zw_mem h1)) (hts _ (zw_mem h2)) (hts _ (zw_mem h3)) rfl (by rw [hml]; exact hL.2.1) rfl hd (Nat.le_trans h4 hfr) ?_ (W.eq (g2 := F0 m (pc + 3) ls (st2.map (zv al))) rfl (k.same hH hlo hs hL))
      have := zv_cats al st2
      show 2 * 0 + _ + 12 ≤ _
      omega
  · simp at hs
theorem zmaxW {ix kind z p1 p2 p3 p4 : Nat} (X : zCtx p R s m args meth c al CA D y) (hok : zcallOK y ix kind [z, 4, p1, p2, p3, p4] = true) (hd : decode (zMt y).2.1 pc = .ok (if kind = 0 then .invokevirtual ix else if kind = 1 then .invokestatic ix else .invokespecial ix, 3)) (hs : zmax pc L st h = some x) (hH : zHH al CA D h H) (hL : zLh al ls (zMt y).2.2.1 L) (hlo : ∀ q ∈ locs, zA al q.base) (hr : cells + ((zhp x).length - h.length) ≤ R.cells ∧ slots + (zss (zhp x) - zss h) ≤ R.slots) (k : zGo p l e R s m args below meth c cells slots Q al CA D y h x) : W p l e R s m args below meth c H locs cells slots Q (F0 m pc ls (st.map (zv al))) := by
  obtain ⟨hx, hb, hml, hown, hts, hK, hal, hfr, hlc, -⟩ := X
  simp only [zcallOK, Bool.and_eq_true, decide_eq_true_eq] at hok
  obtain ⟨⟨⟨⟨⟨⟨rfl, h1⟩, h2⟩, h3⟩, h4⟩, h5⟩, h6⟩ := hok
  simp only [zmax, zgo] at hs
  split at hs
  · split at hs
    · simp at hs
    · rename_i b a st2 hsum
      have hxe := Option.some.inj hs
      rw [← hxe] at hr
      simp only [zhp, Nat.sub_self, Nat.add_zero] at hr
      refine va_mmax hx hb (by rw [hml]; exact hL.2.1.symm) hown (hts _ (zw_mem h1)) (hts _ (zw_mem h2)) (hts _ (zw_mem h3)) (hts _ (zw_mem h4)) (Nat.le_trans h5 hfr) ?_ hr.1 hr.2 hd (k.same hH hlo hs hL)
      have := zv_cats al st2
      omega
  · simp at hs
end ZD
section ZE
variable {l : Launch}
/-- the contract out of the walk -/
theorem zmet_of {n y : Nat} {a : List Value} {h : zH} {r : zR} (hy : y < znm) (hz : (zent a).length ≤ (zMt y).2.2.1)
    (hwalk : ∀ {p : Program} {e : Env} {R : Room} {s : State} {m : MethodId} {args : Array Value} {below : List Frame} {meth : Method} {c : Code} {H : Heap} {locs : List Loc} {cells slots : Nat} {Q : State → Prop} {al : Nat → Nat} {CA : Nat → ClassId} {D : va_G} {ls : Array Slot}, zCtx p R s m args meth c al CA D y → zHH al CA D h H → zLh al ls (zMt y).2.2.1 (zentry (zMt y).2.2.1 a) → (∀ q ∈ locs, zA al q.base) → (cells + (r.2.length - h.length) ≤ R.cells ∧ slots + (zss r.2 - zss h) ≤ R.slots) → (∀ (pc' : Nat) (i : Instr) (ax : List Nat) (L' : zL) (st' : List Value) (H' : Heap) (ls' : Array Slot) (locs' : List Loc), zOK y pc' i ax = true → zbase (zkr (zMt y).2.2.2.1) pc' i ax L' st' r.2 = some (.inl r) → zHH al CA D r.2 H' → (∀ q ∈ locs', zA al q.base) → W p l e R s m args below meth c H' locs' (cells + (r.2.length - h.length)) (slots + (zss r.2 - zss h)) Q (F0 m pc' ls' (st'.map (zv al)))) → W p l e R s m args below meth c H locs cells slots Q (F0 m 0 ls ([].map (zv al)))) : zMet l y a h r := by
  intro al CA D hal
  have hm := zcm_all y hy
  simp only [zMok, Bool.and_eq_true] at hm
  refine Met.ofW (cc := (zMt y).2.1) (maxL := (zMt y).2.2.1) (ret := (zMt y).2.2.2.1) hm.1.1 rfl ?_
  intro p e s m args below meth c s₁ B hml hv
  obtain ⟨rfl, hH, hK⟩ := hv
  have hts := atoms_spec (ws := zws y) B.pre
  have hown : s.vm.findClass (zMt y).1.cls = some m.cls := findClass_of_methodNamed B.named
  have hlocks := B.notSynchronized
  rw [lg_entry_eq]
  have hent := zentry_has al a hz
  have X : zCtx p (headSpec (zws y) (zrm y (r.2.length - h.length) (zss r.2 - zss h))).room s m (a.map (zv al)).toArray meth c al CA D y := ⟨B.exec, B.bytes, hml, hown, fun w hw => hts w (List.mem_cons_of_mem _ hw), hK, hal, Nat.le_refl _, Nat.le_refl _, fun q => by rw [(name_of_methodNamed B.named B.method).1]; exact q⟩
  refine hwalk X hH hent (fun q hq => by cases hq) ⟨by rw [Nat.zero_add]; exact Nat.le_refl _, by rw [Nat.zero_add]; exact Nat.le_refl _⟩ ?_
  intro pc' i ax L' st' H' ls' locs' hok hret hH' hlo'
  rw [Nat.zero_add, Nat.zero_add]
  have hr := B.returns
  have hd : ∀ j, i = j → zsw j = false → decode (zMt y).2.1 pc' = .ok (j, zlen j) := fun j e h2 => by subst e; exact zdc_of hok h2
  rcases zbase_ret hret with ⟨hi, v, rfl, hrr, hk⟩ | ⟨hi, v, rfl, hrr, hk⟩ | ⟨hi, v, rfl, hrr, hk⟩ | ⟨hi, v, rfl, hrr, hk⟩ | ⟨hi, rfl, hrr, hk⟩
  · have hq : ∀ t : State, t.heap = H' → s.WarmedH t.vm → zQ al CA D r (a.map (zv al)).toArray s (.returned (some (.int v))) t := fun t ht hW => ⟨by rw [hrr]; rfl, by rw [ht]; exact hH'⟩
    cases hret2 : (zMt y).2.2.2.1 with
    | none => rw [hret2] at hk; simp [zkr] at hk
    | some ty =>
      rw [hret2] at hk hr
      refine W.zret B.exec B.bytes hr ?_ hq hlo' (hd _ hi rfl)
      cases ty <;> simp [zkr] at hk <;> first | rfl | (rcases hk with rfl | rfl <;> rfl)
  · cases hret2 : (zMt y).2.2.2.1 with
    | none => rw [hret2] at hk; simp [zkr] at hk
    | some ty =>
      rw [hret2] at hk hr
      cases ty <;> simp [zkr] at hk
      exact W.lret B.exec B.bytes hr (fun t ht hW => ⟨by rw [hrr]; rfl, by rw [ht]; exact hH'⟩) hlo' (hd _ hi rfl)
  · cases hret2 : (zMt y).2.2.2.1 with
    | none => rw [hret2] at hk; simp [zkr] at hk
    | some ty =>
      rw [hret2] at hk hr
      cases ty <;> simp [zkr] at hk
      exact W.dret B.exec B.bytes hr (fun t ht hW => ⟨by rw [hrr]; rfl, by rw [ht]; exact hH'⟩) hlo' (hd _ hi rfl)
  · cases hret2 : (zMt y).2.2.2.1 with
    | none => rw [hret2] at hk; simp [zkr] at hk
    | some ty =>
      rw [hret2] at hk hr
      cases ty <;> simp [zkr] at hk
      · exact W.aret B.exec B.bytes hr (Or.inl ⟨_, rfl⟩) (Or.inr ⟨_, rfl⟩) (fun t ht hW => ⟨by rw [hrr]; rfl, by rw [ht]; exact hH'⟩) hlo' (hd _ hi rfl)
      · exact W.aret B.exec B.bytes hr (Or.inr ⟨_, rfl⟩) (Or.inr ⟨_, rfl⟩) (fun t ht hW => ⟨by rw [hrr]; rfl, by rw [ht]; exact hH'⟩) hlo' (hd _ hi rfl)
  · cases hret2 : (zMt y).2.2.2.1 with
    | some ty => rw [hret2] at hk; cases ty <;> simp [zkr] at hk
    | none =>
      rw [hret2] at hr
      exact W.vret B.exec B.bytes hr (fun t ht hW => ⟨by rw [hrr]; rfl, by rw [ht]; exact hH'⟩) hlo' (hd _ hi rfl)
end ZE
theorem zI_ok {y pc : Nat} {i : Instr} {ax : List Nat} (hy : y < znm) (h : zI y pc = some (i, ax)) : zOK y pc i ax = true := by
  unfold zI at h
  cases hf : (zcs.getD y []).find? (fun e => e.1 == pc) with
  | none => rw [hf] at h; simp at h
  | some q =>
    rw [hf] at h
    simp only [Option.map_some, Option.some.injEq] at h
    have h1 := List.find?_some hf
    have h2 := List.mem_of_find?_eq_some hf
    simp only [beq_iff_eq] at h1
    have h3 := List.all_eq_true.mp (zck_all y hy) q h2
    rw [h1, h] at h3
    exact h3
theorem zstep_base {C : Nat → List Value → zH → Option zR} {kr pc : Nat} {i : Instr} {ax : List Nat} {L : zL} {st : List Value} {h : zH} (h1 : ∀ n, i ≠ .invokevirtual n) (h2 : ∀ n, i ≠ .invokestatic n) (h3 : ∀ n, i ≠ .invokespecial n) : zstep C kr pc i ax L st h = zbase kr pc i ax L st h := by
  unfold zstep
  split
  · exact absurd rfl (h1 _)
  · exact absurd rfl (h2 _)
  · exact absurd rfl (h3 _)
  · rfl
end
section
def zWalk (l : Launch) (n : Nat) : Prop := ∀ (y pc : Nat) (L : zL) (st : List Value) (h : zH) (r : zR), y < znm → zrun zTB n y pc L st h = some r →
  ∀ {p : Program} {e : Env} {R : Room} {s : State} {m : MethodId} {args : Array Value} {below : List Frame} {meth : Method} {c : Code} {H : Heap} {locs : List Loc} {cells slots : Nat} {Q : State → Prop} {al : Nat → Nat} {CA : Nat → ClassId} {D : va_G} {ls : Array Slot}, zCtx p R s m args meth c al CA D y → zHH al CA D h H → zLh al ls (zMt y).2.2.1 L → (∀ q ∈ locs, zA al q.base) → (cells + (r.2.length - h.length) ≤ R.cells ∧ slots + (zss r.2 - zss h) ≤ R.slots) →
  (∀ (pc' : Nat) (i : Instr) (ax : List Nat) (L' : zL) (st' : List Value) (H' : Heap) (ls' : Array Slot) (locs' : List Loc), zOK y pc' i ax = true → zbase (zkr (zMt y).2.2.2.1) pc' i ax L' st' r.2 = some (.inl r) → zHH al CA D r.2 H' → (∀ q ∈ locs', zA al q.base) → W p l e R s m args below meth c H' locs' (cells + (r.2.length - h.length)) (slots + (zss r.2 - zss h)) Q (F0 m pc' ls' (st'.map (zv al)))) → W p l e R s m args below meth c H locs cells slots Q (F0 m pc ls (st.map (zv al)))
theorem zinv_ax {y ix kind : Nat} {ax : List Nat} (hok : zcallOK y ix kind ax = true) : (∃ z p1 p2 p3, ax = [z, 5, p1, p2, p3]) ∨ (∃ z p1 p2 p3 p4, ax = [z, 3, p1, p2, p3, p4]) ∨ (∃ z p1 p2 p3 p4, ax = [z, 4, p1, p2, p3, p4]) ∨ (∀ a m r, ax = a :: m :: r → m ≠ 3 ∧ m ≠ 4 ∧ m ≠ 5) := by
  unfold zcallOK at hok
  split at hok
  · exact Or.inl ⟨_, _, _, _, rfl⟩
  · exact Or.inr (Or.inl ⟨_, _, _, _, _, rfl⟩)
  · exact Or.inr (Or.inr (Or.inl ⟨_, _, _, _, _, rfl⟩))
  · refine Or.inr (Or.inr (Or.inr ?_))
    rename_i y' mode n ci p1 p2 p3 p4 lk lp
    intro a m r e
    simp only [List.cons.injEq] at e
    obtain ⟨rfl, rfl, -⟩ := e
    refine ⟨fun q => ?_, fun q => ?_, fun q => ?_⟩ <;> (subst q; simp at hok)
  · simp at hok
set_option maxHeartbeats 1000000 in
theorem zwalk (l : Launch) : ∀ n, zWalk l n
  | 0 => fun y pc L st h r _ hrun => by simp [zrun] at hrun
  | n + 1 => by
    have IH := zwalk l n
    intro y pc L st h r hy hrun p e R s m args below meth c H locs cells slots Q al CA D ls X hH hL hlo hr kend
    rw [zrun_succ] at hrun
    cases hI : zTB.1 y pc with
    | none => rw [hI] at hrun; simp at hrun
    | some q =>
      obtain ⟨i, ax⟩ := q
      rw [hI] at hrun
      simp only at hrun
      have hok := zI_ok hy (show zI y pc = some (i, ax) from hI)
      generalize hC0 : (fun (y' : Nat) (a : List Value) (h' : zH) => if (zent a).length ≤ (zTB.2 y').2.2.1 then zrun zTB n y' 0 (zentry (zTB.2 y').2.2.1 a) [] h' else none) = C at hrun
      have hCle : ∀ y' a h' r', C y' a h' = some r' → zle h' r'.2 := fun y' a h' r' hc => by
        rw [← hC0] at hc
        simp only at hc
        split at hc
        · exact zrun_le n hc
        · simp at hc
      have hCM : ∀ y' a h' r', y' < znm → C y' a h' = some r' → zMet l y' a h' r' := fun y' a h' r' hy' hc => by
        rw [← hC0] at hc
        simp only at hc
        split at hc
        · rename_i hz
          exact zmet_of (n := n) hy' hz (fun X hH hL hlo hr kend => IH y' 0 _ [] h' r' hy' hc X hH hL hlo hr kend)
        · simp at hc
      cases hz : zstep C (zkr (zTB.2 y).2.2.2.1) pc i ax L st h with
      | none => rw [hz] at hrun; simp at hrun
      | some x =>
        rw [hz] at hrun
        have hle := zstep_le hCle hz
        cases x with
        | inl r' =>
          simp only [Option.some.injEq] at hrun
          subst hrun
          have hb : zbase (zkr (zMt y).2.2.2.1) pc i ax L st h = some (.inl r') := by
            rw [← zstep_base (C := C) (fun n q => by subst q; exact zcall_ret hz) (fun n q => by subst q; exact zcall_ret hz) (fun n q => by subst q; exact zcall_ret hz)]
            exact hz
          have hh : r'.2 = h := by rcases zbase_ret hb with ⟨-, v, -, q, -⟩ | ⟨-, v, -, q, -⟩ | ⟨-, v, -, q, -⟩ | ⟨-, v, -, q, -⟩ | ⟨-, -, q, -⟩ <;> rw [q]
          have := kend pc i ax L st H ls locs hok (by rw [hh]; exact hb) (by rw [hh]; exact hH) hlo
          rwa [hh, Nat.sub_self, Nat.sub_self, Nat.add_zero, Nat.add_zero] at this
        | inr s' =>
          simp only at hrun
          have hle2 := zrun_le n hrun
          have hle3 : zle h s'.2.2.2 := hle
          have hr2 : cells + ((zhp (.inr s')).length - h.length) ≤ R.cells ∧ slots + (zss (zhp (.inr s')) - zss h) ≤ R.slots := by
            have h1 := hle2.1
            have h2 := hle2.2
            have h3 := hle3.1
            have h4 := hle3.2
            show cells + (s'.2.2.2.length - h.length) ≤ R.cells ∧ slots + (zss s'.2.2.2 - zss h) ≤ R.slots
            omega
          have k : zGo p l e R s m args below meth c cells slots Q al CA D y h (.inr s') := by
            intro pc' L' st' h' hx H' ls' locs' hH' hL' hlo'
            cases hx
            refine IH y pc' L' st' h' r hy hrun X hH' hL' hlo' ?_ ?_
            · have h1 := hle2.1
              have h2 := hle2.2
              have h3 := hle3.1
              have h4 := hle3.2
              simp only at h1 h2 h3 h4
              omega
            · intro pc2 i2 ax2 L2 st2 H2 ls2 locs2 g1 g2 g3 g4
              have h1 := hle2.1
              have h2 := hle2.2
              have h3 := hle3.1
              have h4 := hle3.2
              simp only at h1 h2 h3 h4
              rw [show cells + (h'.length - h.length) + (r.2.length - h'.length) = cells + (r.2.length - h.length) by omega, show slots + (zss h' - zss h) + (zss r.2 - zss h') = slots + (zss r.2 - zss h) by omega]
              exact kend pc2 i2 ax2 L2 st2 H2 ls2 locs2 g1 g2 g3 g4
          have calls : ∀ (ix kind : Nat), zcallOK y ix kind ax = true → decode (zMt y).2.1 pc = .ok (if kind = 0 then .invokevirtual ix else if kind = 1 then .invokestatic ix else .invokespecial ix, 3) → zcall C pc ax L st h = some (.inr s') → W p l e R s m args below meth c H locs cells slots Q (F0 m pc ls (st.map (zv al))) := by
            intro ix kind hk hd hs
            rcases zinv_ax hk with ⟨z, p1, p2, p3, rfl⟩ | ⟨z, p1, p2, p3, p4, rfl⟩ | ⟨z, p1, p2, p3, p4, rfl⟩ | h345
            · exact zobjW X hk hd hs hH hL hlo k
            · exact zcopyW X hk hd hs hH hL hlo k
            · exact zmaxW X hk hd hs hH hL hlo hr2 k
            · refine zinvW hCM X hk hd h345 ?_ hH hL hlo hr2 k
              unfold zcall at hs
              split at hs
              · exact absurd rfl (h345 _ _ _ rfl).1
              · exact absurd rfl (h345 _ _ _ rfl).2.1
              · exact absurd rfl (h345 _ _ _ rfl).2.2
              · exact hs
          by_cases h1 : ∃ ix, i = .invokevirtual ix
          · obtain ⟨ix, rfl⟩ := h1
            refine calls ix 0 ?_ (zdc_of hok rfl) hz
            simp only [zOK, Bool.and_eq_true] at hok
            exact hok.2
          · by_cases h2 : ∃ ix, i = .invokestatic ix
            · obtain ⟨ix, rfl⟩ := h2
              refine calls ix 1 ?_ (zdc_of hok rfl) hz
              simp only [zOK, Bool.and_eq_true] at hok
              exact hok.2
            · by_cases h3 : ∃ ix, i = .invokespecial ix
              · obtain ⟨ix, rfl⟩ := h3
                refine calls ix 2 ?_ (zdc_of hok rfl) hz
                simp only [zOK, Bool.and_eq_true] at hok
                exact hok.2
              · rw [zstep_base (fun n q => h1 ⟨n, q⟩) (fun n q => h2 ⟨n, q⟩) (fun n q => h3 ⟨n, q⟩)] at hz
                exact zbaseW X hok rfl hz hH hL hlo hr2 k
/-- a run of the pure machine gives its contract -/
theorem zmet (l : Launch) {y : Nat} {a : List Value} {h : zH} {r : zR} (hy : y < znm) (hc : zcalls zTB y a h r) : zMet l y a h r := by
  obtain ⟨hz, n, hn⟩ := hc
  exact zmet_of (n := n) hy hz (fun X hH hL hlo hr kend => zwalk l n y 0 _ [] h r hy hn X hH hL hlo hr kend)
end

section
/-! THE PURE MACHINE: what the bytecode does, over numbered cells, as a function. A cell: a row (kind, contents) or an object (its number in the table, its fields); a reference is the number of its cell. -/
abbrev zE : Type := (Nat × vp_A) ⊕ (Nat × List Value)
abbrev zH : Type := List zE
abbrev zL : Type := List (Option Value)
abbrev zR : Type := Option Value × zH
abbrev zS : Type := Nat × zL × List Value × zH
/-- a method: name, bytes, slots of its locals, what it answers, frames and words below it -/
abbrev zM : Type := MethodName × ByteArray × Nat × Option FieldType × Nat × Nat
abbrev zT : Type := (Nat → Nat → Option (Instr × List Nat)) × (Nat → zM)
def zget (L : zL) (i : Nat) : Option Value := match L[i]? with
  | some (some v) => some v
  | _ => none
def zkill (L : zL) (i : Nat) : zL := match i with
  | 0 => L
  | j + 1 => match L[j]? with
    | some (some (.long _)) => L.set j none
    | some (some (.double _)) => L.set j none
    | _ => L
def zst1 (L : zL) (i : Nat) (v : Value) : zL := (zkill L i).set i (some v)
def zst2 (L : zL) (i : Nat) (v : Value) : zL := ((zkill L i).set i (some v)).set (i + 1) none
def zent : List Value → zL
  | [] => []
  | .long x :: vs => some (.long x) :: none :: zent vs
  | .double x :: vs => some (.double x) :: none :: zent vs
  | v :: vs => some v :: zent vs
def zentry (n : Nat) (vs : List Value) : zL := zent vs ++ List.replicate (n - (zent vs).length) none
def zdef : List Nat → List Value
  | [] => []
  | 0 :: r => .int 0 :: zdef r
  | _ :: r => .null :: zdef r
def zdefA (t : Nat) (n : Nat) : vp_A := match t with
  | 1 => (n, .inr (.inl (fun _ => 0)))
  | 3 => (n, .inr (.inr (.inr (.inr (fun _ => none)))))
  | _ => (n, .inl (fun _ => 0))
def zsz : zE → Nat
  | .inl a => a.2.1
  | .inr o => o.2.length
def zss (h : zH) : Nat := (h.map zsz).sum
/-- which of two roads -/
def zif (c : Bool) (ax : List Nat) (pc : Nat) (L : zL) (st : List Value) (h : zH) : Option (zR ⊕ zS) := match ax with
  | t :: _ => some (.inr (bif c then t else pc + 3, L, st, h))
  | [] => none
def zcnd : Jvm.ClassFile.Cond → Int32 → Int32 → Bool
  | .eq, x, y => decide (x = y)
  | .ne, x, y => decide (x ≠ y)
  | .lt, x, y => decide (x < y)
  | .ge, x, y => decide (y ≤ x)
  | .gt, x, y => decide (y < x)
  | .le, x, y => decide (x ≤ y)
def zjump (ax : List Nat) (k : Nat) (L : zL) (st : List Value) (h : zH) : Option (zR ⊕ zS) := match ax[k]? with
  | some t => some (.inr (t, L, st, h))
  | none => none
def zgo (pc : Nat) (L : zL) (st : List Value) (h : zH) : Option (zR ⊕ zS) := some (.inr (pc, L, st, h))
def zloadI (pc i : Nat) (L : zL) (st : List Value) (h : zH) : Option (zR ⊕ zS) := match L[i]? with
  | some (some (.int x)) => zgo pc L (.int x :: st) h
  | _ => none
def zloadL (pc i : Nat) (L : zL) (st : List Value) (h : zH) : Option (zR ⊕ zS) := match L[i]? with
  | some (some (.long x)) => zgo pc L (.long x :: st) h
  | _ => none
def zloadD (pc i : Nat) (L : zL) (st : List Value) (h : zH) : Option (zR ⊕ zS) := match L[i]? with
  | some (some (.double x)) => zgo pc L (.double x :: st) h
  | _ => none
def zloadA (pc i : Nat) (L : zL) (st : List Value) (h : zH) : Option (zR ⊕ zS) := match L[i]? with
  | some (some (.ref x)) => zgo pc L (.ref x :: st) h
  | _ => none
def zstoreI (pc i : Nat) (L : zL) (st : List Value) (h : zH) : Option (zR ⊕ zS) := match st with
  | .int x :: st => if i < L.length then zgo pc (zst1 L i (.int x)) st h else none
  | _ => none
def zstoreA (pc i : Nat) (L : zL) (st : List Value) (h : zH) : Option (zR ⊕ zS) := match st with
  | .ref x :: st => if i < L.length then zgo pc (zst1 L i (.ref x)) st h else none
  | _ => none
def zstoreL (pc i : Nat) (L : zL) (st : List Value) (h : zH) : Option (zR ⊕ zS) := match st with
  | .long x :: st => if i + 1 < L.length then zgo pc (zst2 L i (.long x)) st h else none
  | _ => none
def zstoreD (pc i : Nat) (L : zL) (st : List Value) (h : zH) : Option (zR ⊕ zS) := match st with
  | .double x :: st => if i + 1 < L.length then zgo pc (zst2 L i (.double x)) st h else none
  | _ => none
def zii (pc : Nat) (f : Int32 → Int32 → Int32) (L : zL) (st : List Value) (h : zH) : Option (zR ⊕ zS) := match st with
  | .int y :: .int x :: st => zgo pc L (.int (f x y) :: st) h
  | _ => none
def zll (pc : Nat) (f : Int64 → Int64 → Int64) (L : zL) (st : List Value) (h : zH) : Option (zR ⊕ zS) := match st with
  | .long y :: .long x :: st => zgo pc L (.long (f x y) :: st) h
  | _ => none
def zget1 (pc : Nat) (ax : List Nat) (L : zL) (st : List Value) (h : zH) : Option (zR ⊕ zS) := match st, ax with
  | .ref i :: st, ci :: k :: _ => match h[i]? with
    | some (.inr (c, fs)) => if c = ci then (match fs[k]? with
      | some v => zgo pc L (v :: st) h
      | none => none) else none
    | _ => none
  | _, _ => none
/-- a value that a field of this kind takes: 0 a number, 1 a reference -/
def zfits : Nat → Value → Bool
  | 0, .int _ => true
  | 1, .ref _ => true
  | _, _ => false
def zput1 (pc : Nat) (ax : List Nat) (L : zL) (st : List Value) (h : zH) : Option (zR ⊕ zS) := match st, ax with
  | v :: .ref (i + 1) :: st, ci :: k :: kd :: _ => match h[i + 1]? with
    | some (.inr (c, fs)) => if c = ci ∧ k < fs.length ∧ zfits kd v = true then zgo pc L st (h.set (i + 1) (.inr (c, fs.set k v))) else none
    | _ => none
  | _, _ => none
def znew (pc : Nat) (ax : List Nat) (L : zL) (st : List Value) (h : zH) : Option (zR ⊕ zS) := match ax with
  | ci :: _ :: _ :: _ :: ds => zgo pc L (.ref h.length :: st) (h ++ [.inr (ci, zdef ds)])
  | _ => none
def znewa (pc : Nat) (ax : List Nat) (L : zL) (st : List Value) (h : zH) : Option (zR ⊕ zS) := match st, ax with
  | .int n :: st, t :: _ => if n < 0 ∨ 10000 < n.toNatClampNeg then none else zgo pc L (.ref h.length :: st) (h ++ [.inl (t, zdefA t n.toNatClampNeg)])
  | _, _ => none
def zalen (pc : Nat) (L : zL) (st : List Value) (h : zH) : Option (zR ⊕ zS) := match st with
  | .ref i :: st => match h[i]? with
    | some (.inl (_, n, _)) => zgo pc L (.int (Int32.ofNat n) :: st) h
    | _ => none
  | _ => none
def ziald (pc : Nat) (L : zL) (st : List Value) (h : zH) : Option (zR ⊕ zS) := match st with
  | .int j :: .ref i :: st => match h[i]? with
    | some (.inl (0, n, .inl f)) => if j < 0 ∨ n ≤ j.toNatClampNeg then none else zgo pc L (.int (f j.toNatClampNeg) :: st) h
    | _ => none
  | _ => none
def zlald (pc : Nat) (L : zL) (st : List Value) (h : zH) : Option (zR ⊕ zS) := match st with
  | .int j :: .ref i :: st => match h[i]? with
    | some (.inl (1, n, .inr (.inl f))) => if j < 0 ∨ n ≤ j.toNatClampNeg then none else zgo pc L (.long (f j.toNatClampNeg) :: st) h
    | _ => none
  | _ => none
def zaald (pc : Nat) (L : zL) (st : List Value) (h : zH) : Option (zR ⊕ zS) := match st with
  | .int j :: .ref i :: st => match h[i]? with
    | some (.inl (3, n, .inr (.inr (.inr (.inr f))))) => if j < 0 ∨ n ≤ j.toNatClampNeg then none else (match f j.toNatClampNeg with
      | some r => zgo pc L (.ref r :: st) h
      | none => none)
    | _ => none
  | _ => none
def ziast (pc : Nat) (L : zL) (st : List Value) (h : zH) : Option (zR ⊕ zS) := match st with
  | .int x :: .int j :: .ref (i + 1) :: st => match h[i + 1]? with
    | some (.inl (0, n, .inl f)) => if j < 0 ∨ n ≤ j.toNatClampNeg then none else zgo pc L st (h.set (i + 1) (.inl (0, n, .inl (upd f j.toNatClampNeg x))))
    | _ => none
  | _ => none
def zlast (pc : Nat) (L : zL) (st : List Value) (h : zH) : Option (zR ⊕ zS) := match st with
  | .long x :: .int j :: .ref (i + 1) :: st => match h[i + 1]? with
    | some (.inl (1, n, .inr (.inl f))) => if j < 0 ∨ n ≤ j.toNatClampNeg then none else zgo pc L st (h.set (i + 1) (.inl (1, n, .inr (.inl (vp_updL f j.toNatClampNeg x)))))
    | _ => none
  | _ => none
/-- a row of numbers put into a row of rows -/
def zaast (pc : Nat) (L : zL) (st : List Value) (h : zH) : Option (zR ⊕ zS) := match st with
  | .ref r :: .int j :: .ref (i + 1) :: st => match h[i + 1]? with
    | some (.inl (3, n, .inr (.inr (.inr (.inr f))))) => match h[r]? with
      | some (.inl (0, _, .inl _)) => if j < 0 ∨ n ≤ j.toNatClampNeg then none else zgo pc L st (h.set (i + 1) (.inl (3, n, .inr (.inr (.inr (.inr (va_up f j.toNatClampNeg (some r))))))))
      | _ => none
    | _ => none
  | _ => none
/-- which place of the pairs holds x; 0: none -/
def zlk : List (Int × Int) → Int → Nat → Nat
  | [], _, _ => 0
  | (a, _) :: r, x, k => if x = a then k else zlk r x (k + 1)
/-- the end of a method -/
def zret (st : List Value) (h : zH) : Option (zR ⊕ zS) := match st with
  | [v] => some (.inl (some v, h))
  | _ => none
/-- every instruction but the calls; kr: what the method answers (0 nothing, 1 a number, 2 a truth, 3 a long, 4 a double, 5 a reference) -/
def zbase (kr pc : Nat) (i : Instr) (ax : List Nat) (L : zL) (st : List Value) (h : zH) : Option (zR ⊕ zS) := match i with
  | .iconst n => zgo (pc + 1) L (.int (Int32.ofInt n) :: st) h
  | .bipush n => zgo (pc + 2) L (.int (Int8.ofInt n).toInt32 :: st) h
  | .sipush n => zgo (pc + 3) L (.int (Int16.ofInt n).toInt32 :: st) h
  | .lconst n => zgo (pc + 1) L (.long (Int64.ofNat (n : Nat)) :: st) h
  | .dconst n => if n = 0 then zgo (pc + 1) L (.double 0 :: st) h else none
  | .ldc _ => match ax with
    | v :: _ => zgo (pc + 2) L (.int (Int32.ofNat v) :: st) h
    | [] => none
  | .ldc_w _ => match ax with
    | v :: _ => zgo (pc + 3) L (.int (Int32.ofNat v) :: st) h
    | [] => none
  | .ldc2_w _ => match ax with
    | v :: _ => zgo (pc + 3) L (.long (Int64.ofNat v) :: st) h
    | [] => none
  | .iload k => zloadI (pc + 2) k L st h
  | .iload_n k => zloadI (pc + 1) k L st h
  | .lload k => zloadL (pc + 2) k L st h
  | .lload_n k => zloadL (pc + 1) k L st h
  | .dload k => zloadD (pc + 2) k L st h
  | .dload_n k => zloadD (pc + 1) k L st h
  | .aload k => zloadA (pc + 2) k L st h
  | .aload_n k => zloadA (pc + 1) k L st h
  | .istore k => zstoreI (pc + 2) k L st h
  | .istore_n k => zstoreI (pc + 1) k L st h
  | .lstore k => zstoreL (pc + 2) k L st h
  | .lstore_n k => zstoreL (pc + 1) k L st h
  | .dstore k => zstoreD (pc + 2) k L st h
  | .dstore_n k => zstoreD (pc + 1) k L st h
  | .astore k => zstoreA (pc + 2) k L st h
  | .astore_n k => zstoreA (pc + 1) k L st h
  | .iinc k n => match L[k]? with
    | some (some (.int x)) => if k < L.length then zgo (pc + 3) (zst1 L k (.int (x + Int32.ofInt n))) st h else none
    | _ => none
  | .iadd => zii (pc + 1) (fun x y => x + y) L st h
  | .isub => zii (pc + 1) (fun x y => x - y) L st h
  | .imul => zii (pc + 1) (fun x y => x * y) L st h
  | .iand => zii (pc + 1) (fun x y => x &&& y) L st h
  | .ior => zii (pc + 1) (fun x y => x ||| y) L st h
  | .ishl => zii (pc + 1) (fun x y => x <<< (y &&& 31)) L st h
  | .ishr => zii (pc + 1) (fun x y => x >>> (y &&& 31)) L st h
  | .iushr => zii (pc + 1) (fun x y => (x.toUInt32 >>> (y.toUInt32 &&& Int32.toUInt32 31)).toInt32) L st h
  | .idiv => match st with
    | .int y :: .int x :: st => if y = 0 then none else zgo (pc + 1) L (.int (x / y) :: st) h
    | _ => none
  | .irem => match st with
    | .int y :: .int x :: st => if y = 0 then none else zgo (pc + 1) L (.int (x - x / y * y) :: st) h
    | _ => none
  | .ladd => zll (pc + 1) (fun x y => x + y) L st h
  | .lmul => zll (pc + 1) (fun x y => x * y) L st h
  | .lcmp => match st with
    | .long y :: .long x :: st => zgo (pc + 1) L (.int (lg_cmp x y) :: st) h
    | _ => none
  | .i2l => match st with
    | .int x :: st => zgo (pc + 1) L (.long x.toInt64 :: st) h
    | _ => none
  | .i2d => match st with
    | .int x :: st => zgo (pc + 1) L (.double (FP.i2d x) :: st) h
    | _ => none
  | .ddiv => match st with
    | .double y :: .double x :: st => if FP.ddiv x y &&& 0x7fffffffffffffff ≤ 0x7ff0000000000000 then zgo (pc + 1) L (.double (FP.ddiv x y) :: st) h else none
    | _ => none
  | .dcmp op => match st with
    | .double y :: .double x :: st => zgo (pc + 1) L (.int (Op.cmpValue (FP.dcmp x y) op) :: st) h
    | _ => none
  | .dup => match st with
    | v :: st => if v.category = 1 then zgo (pc + 1) L (v :: v :: st) h else none
    | _ => none
  | .pop => match st with
    | v :: st => if v.category = 1 then zgo (pc + 1) L st h else none
    | _ => none
  | .dup_x1 => match st with
    | v :: w :: st => if v.category = 1 ∧ w.category = 1 then zgo (pc + 1) L (v :: w :: v :: st) h else none
    | _ => none
  | .dup_x2 => match st with
    | v :: w :: x :: st => if v.category = 1 ∧ w.category = 1 ∧ x.category = 1 then zgo (pc + 1) L (v :: w :: x :: v :: st) h else none
    | _ => none
  | .dup2 => match st with
    | v :: w :: st => if v.category = 1 ∧ w.category = 1 then zgo (pc + 1) L (v :: w :: v :: w :: st) h else none
    | _ => none
  | .ifCond c _ => match st with
    | .int x :: st => zif (zcnd c x 0) ax pc L st h
    | _ => none
  | .if_icmp c _ => match st with
    | .int y :: .int x :: st => zif (zcnd c x y) ax pc L st h
    | _ => none
  | .goto _ => zjump ax 0 L st h
  | .tableswitch _ lo hi _ => match st with
    | .int x :: st => if x.toInt < lo ∨ hi < x.toInt then zjump ax 0 L st h else zjump ax ((x.toInt - lo).toNat + 1) L st h
    | _ => none
  | .lookupswitch _ ps => match st with
    | .int x :: st => zjump ax (zlk ps.toList x.toInt 1) L st h
    | _ => none
  | .getfield _ => zget1 (pc + 3) ax L st h
  | .putfield _ => zput1 (pc + 3) ax L st h
  | .new _ => znew (pc + 3) ax L st h
  | .newarray _ => znewa (pc + 2) ax L st h
  | .anewarray _ => znewa (pc + 3) ax L st h
  | .arraylength => zalen (pc + 1) L st h
  | .iaload => ziald (pc + 1) L st h
  | .laload => zlald (pc + 1) L st h
  | .aaload => zaald (pc + 1) L st h
  | .iastore => ziast (pc + 1) L st h
  | .lastore => zlast (pc + 1) L st h
  | .aastore => zaast (pc + 1) L st h
  | .ireturn => match st with
    | [.int v] => if kr = 1 ∨ (kr = 2 ∧ (v = 0 ∨ v = 1)) then some (.inl (some (.int v), h)) else none
    | _ => none
  | .lreturn => match st with
    | [.long v] => if kr = 3 then some (.inl (some (.long v), h)) else none
    | _ => none
  | .dreturn => match st with
    | [.double v] => if kr = 4 then some (.inl (some (.double v), h)) else none
    | _ => none
  | .areturn => match st with
    | [.ref v] => if kr = 5 then some (.inl (some (.ref v), h)) else none
    | _ => none
  | .return_ => match st with
    | [] => if kr = 0 then some (.inl (none, h)) else none
    | _ => none
  | _ => none
def zkr (r : Option FieldType) : Nat := match r with
  | none => 0
  | some .int => 1
  | some .boolean => 2
  | some .long => 3
  | some .double => 4
  | some (.object _) => 5
  | some (.array _) => 5
  | _ => 6
/-- behind a call -/
def zback (pc : Nat) (L : zL) (rest : List Value) (r : Option zR) : Option (zR ⊕ zS) := match r with
  | some (some v, h) => zgo (pc + 3) L (v :: rest) h
  | some (none, h) => zgo (pc + 3) L rest h
  | none => none
/-- a call of method y with n values behind the receiver (mode 0: on an object of the class ci; 1: on none; 2: of a constructor) -/
def zinv (C : Nat → List Value → zH → Option zR) (pc : Nat) (ax : List Nat) (L : zL) (st : List Value) (h : zH) : Option (zR ⊕ zS) := match ax with
  | y :: mode :: n :: ci :: _ =>
    if n ≤ st.length ∧ ((st.drop n).map fun v => v.category).sum ≤ 8 then (match mode with
      | 1 => zback pc L (st.drop n) (C y (st.take n).reverse h)
      | 0 => match st.drop n with
        | .ref b :: rest => (match h[b]? with
          | some (.inr (c, _)) => if c = ci then zback pc L rest (C y (.ref b :: (st.take n).reverse) h) else none
          | _ => none)
        | _ => none
      | 2 => match st.drop n with
        | .ref b :: rest => zback pc L rest (C y (.ref b :: (st.take n).reverse) h)
        | _ => none
      | _ => none) else none
  | _ => none
/-- nothing, or a row of numbers -/
def zrow (h : zH) : Option Nat → Bool
  | none => true
  | some r => match h[r]? with
    | some (.inl (0, _, .inl _)) => true
    | _ => false
/-- System.arraycopy between two different rows -/
def zcopy (pc : Nat) (L : zL) (st : List Value) (h : zH) : Option (zR ⊕ zS) := match st with
  | .int n :: .int dp :: .ref (d + 1) :: .int sp :: .ref i :: st => if n < 0 ∨ dp < 0 ∨ sp < 0 ∨ i = d + 1 ∨ 8 < (st.map fun v => v.category).sum then none else (match h[i]?, h[d + 1]? with
    | some (.inl (0, n0, .inl f)), some (.inl (0, n1, .inl g)) => if sp.toNatClampNeg + n.toNatClampNeg ≤ n0 ∧ dp.toNatClampNeg + n.toNatClampNeg ≤ n1 then zgo (pc + 3) L st (h.set (d + 1) (.inl (0, n1, .inl (va_cpy f g sp.toNatClampNeg dp.toNatClampNeg n.toNatClampNeg)))) else none
    | some (.inl (3, n0, .inr (.inr (.inr (.inr f))))), some (.inl (3, n1, .inr (.inr (.inr (.inr g))))) => if sp.toNatClampNeg + n.toNatClampNeg ≤ n0 ∧ dp.toNatClampNeg + n.toNatClampNeg ≤ n1 ∧ (List.range n.toNatClampNeg).all (fun i => zrow h (f (sp.toNatClampNeg + i))) = true then zgo (pc + 3) L st (h.set (d + 1) (.inl (3, n1, .inr (.inr (.inr (.inr (va_cpy f g sp.toNatClampNeg dp.toNatClampNeg n.toNatClampNeg))))))) else none
    | _, _ => none)
  | _ => none
/-- Math.max -/
def zmax (pc : Nat) (L : zL) (st : List Value) (h : zH) : Option (zR ⊕ zS) := match st with
  | .int y :: .int x :: st => if 8 < (st.map fun v => v.category).sum then none else zgo (pc + 3) L (.int (if x < y then y else x) :: st) h
  | _ => none
/-- Object.<init> -/
def zobj (pc : Nat) (L : zL) (st : List Value) (h : zH) : Option (zR ⊕ zS) := match st with
  | .ref _ :: st => if 8 < (st.map fun v => v.category).sum then none else zgo (pc + 3) L st h
  | _ => none
/-- mode 3: arraycopy, 4: Math.max, 5: Object.<init> -/
def zcall (C : Nat → List Value → zH → Option zR) (pc : Nat) (ax : List Nat) (L : zL) (st : List Value) (h : zH) : Option (zR ⊕ zS) := match ax with
  | _ :: 3 :: _ => zcopy pc L st h
  | _ :: 4 :: _ => zmax pc L st h
  | _ :: 5 :: _ => zobj pc L st h
  | _ => zinv C pc ax L st h
def zstep (C : Nat → List Value → zH → Option zR) (kr pc : Nat) (i : Instr) (ax : List Nat) (L : zL) (st : List Value) (h : zH) : Option (zR ⊕ zS) := match i with
  | .invokevirtual _ => zcall C pc ax L st h
  | .invokestatic _ => zcall C pc ax L st h
  | .invokespecial _ => zcall C pc ax L st h
  | i => zbase kr pc i ax L st h
def zrun (T : zT) : Nat → Nat → Nat → zL → List Value → zH → Option zR
  | 0, _, _, _, _, _ => none
  | n + 1, y, pc, L, st, h => match T.1 y pc with
    | none => none
    | some (i, ax) => match zstep (fun y' a h' => if (zent a).length ≤ (T.2 y').2.2.1 then zrun T n y' 0 (zentry (T.2 y').2.2.1 a) [] h' else none) (zkr (T.2 y).2.2.2.1) pc i ax L st h with
      | none => none
      | some (.inl r) => some r
      | some (.inr s) => zrun T n y s.1 s.2.1 s.2.2.1 s.2.2.2
/-- method y, called with these values over these cells, comes to its end with r over h' -/
def zcalls (T : zT) (y : Nat) (a : List Value) (h : zH) (r : zR) : Prop := (zent a).length ≤ (T.2 y).2.2.1 ∧ ∃ n, zrun T n y 0 (zentry (T.2 y).2.2.1 a) [] h = some r
end
section
/-! what holds of every run of the pure machine -/
def zhp : zR ⊕ zS → zH
  | .inl r => r.2
  | .inr s => s.2.2.2
def zle (h h' : zH) : Prop := h.length ≤ h'.length ∧ zss h ≤ zss h'
theorem zle_rf (h : zH) : zle h h := ⟨Nat.le_refl _, Nat.le_refl _⟩
theorem zle_tr {a b c : zH} (h1 : zle a b) (h2 : zle b c) : zle a c := ⟨Nat.le_trans h1.1 h2.1, Nat.le_trans h1.2 h2.2⟩
theorem zss_app (h : zH) (e : zE) : zss (h ++ [e]) = zss h + zsz e := by simp [zss]
theorem zss_set : ∀ (h : zH) (i : Nat) (e e' : zE), h[i]? = some e → zsz e' = zsz e → zss (h.set i e') = zss h
  | [], i, e, e', h1, _ => by simp at h1
  | a :: l, 0, e, e', h1, h2 => by
    simp only [List.getElem?_cons_zero, Option.some.injEq] at h1
    simp [zss, h1, h2]
  | a :: l, i + 1, e, e', h1, h2 => by
    have := zss_set l i e e' (by simpa using h1) h2
    simp only [zss, List.set_cons_succ, List.map_cons, List.sum_cons] at this ⊢
    omega
theorem zle_app (h : zH) (e : zE) : zle h (h ++ [e]) := ⟨by simp, by rw [zss_app]; omega⟩
theorem zle_set {h : zH} {i : Nat} {e e' : zE} (h1 : h[i]? = some e) (h2 : zsz e' = zsz e) : zle h (h.set i e') := ⟨by simp, by rw [zss_set h i e e' h1 h2]; omega⟩
theorem zgo_le {pc : Nat} {L : zL} {st : List Value} {h h' : zH} {x : zR ⊕ zS} (hh : zle h h') (hs : zgo pc L st h' = some x) : zle h (zhp x) := by
  simp only [zgo, Option.some.injEq] at hs
  subst hs
  exact hh
set_option maxHeartbeats 4000000 in
theorem zbase_le {kr pc : Nat} {i : Instr} {ax : List Nat} {L : zL} {st : List Value} {h : zH} {x : zR ⊕ zS} (hs : zbase kr pc i ax L st h = some x) : zle h (zhp x) := by
  have g0 := zle_rf h
  cases i <;> simp only [zbase, zloadI, zloadL, zloadD, zloadA, zstoreI, zstoreA, zstoreL, zstoreD, zii, zll, zget1, zput1, znew, znewa, zalen, ziald, zlald, zaald, ziast, zlast, zaast, zif, zjump] at hs <;>
    (repeat' split at hs) <;>
    first
    | (simp at hs; done)
    | exact zgo_le g0 hs
    | exact zgo_le (zle_app _ _) hs
    | exact zgo_le (zle_set (by assumption) (by simp [zsz])) hs
    | (simp only [Option.some.injEq] at hs; subst hs; exact g0)
theorem zback_le {pc : Nat} {L : zL} {rest : List Value} {h : zH} {r : Option zR} {x : zR ⊕ zS} (hr : ∀ q, r = some q → zle h q.2) (hs : zback pc L rest r = some x) : zle h (zhp x) := by
  unfold zback at hs
  split at hs
  · exact zgo_le (hr _ rfl) hs
  · exact zgo_le (hr _ rfl) hs
  · simp at hs
set_option maxHeartbeats 4000000 in
theorem zcall_le {C : Nat → List Value → zH → Option zR} (hC : ∀ y a h r, C y a h = some r → zle h r.2) {pc : Nat} {ax : List Nat} {L : zL} {st : List Value} {h : zH} {x : zR ⊕ zS} (hs : zcall C pc ax L st h = some x) : zle h (zhp x) := by
  have g0 := zle_rf h
  simp only [zcall, zinv, zcopy, zmax, zobj] at hs
  (repeat' split at hs) <;>
    first
    | (simp at hs; done)
    | exact zback_le (fun q hq => hC _ _ _ _ hq) hs
    | exact zgo_le g0 hs
    | exact zgo_le (zle_set (by assumption) (by simp [zsz])) hs
theorem zstep_le {C : Nat → List Value → zH → Option zR} (hC : ∀ y a h r, C y a h = some r → zle h r.2) {kr pc : Nat} {i : Instr} {ax : List Nat} {L : zL} {st : List Value} {h : zH} {x : zR ⊕ zS} (hs : zstep C kr pc i ax L st h = some x) : zle h (zhp x) := by
  unfold zstep at hs
  split at hs
  · exact zcall_le hC hs
  · exact zcall_le hC hs
  · exact zcall_le hC hs
  · exact zbase_le hs
theorem zback_mono {pc : Nat} {L : zL} {rest : List Value} {r r' : Option zR} {x : zR ⊕ zS} (hr : ∀ q, r = some q → r' = some q) (hs : zback pc L rest r = some x) : zback pc L rest r' = some x := by
  cases r with
  | none => simp [zback] at hs
  | some q => rw [hr q rfl]; exact hs
set_option maxHeartbeats 4000000 in
theorem zcall_mono {C C' : Nat → List Value → zH → Option zR} (hC : ∀ y a h r, C y a h = some r → C' y a h = some r) {pc : Nat} {ax : List Nat} {L : zL} {st : List Value} {h : zH} {x : zR ⊕ zS} (hs : zcall C pc ax L st h = some x) : zcall C' pc ax L st h = some x := by
  simp only [zcall, zinv] at hs ⊢
  (repeat' split at hs) <;>
    first
    | (simp at hs; done)
    | exact hs
    | (rw [if_pos (by assumption)]; exact zback_mono (fun q hq => hC _ _ _ _ hq) hs)
    | (rw [if_pos (by assumption)]; simp only [*, if_true]; exact zback_mono (fun q hq => hC _ _ _ _ hq) hs)
theorem zstep_mono {C C' : Nat → List Value → zH → Option zR} (hC : ∀ y a h r, C y a h = some r → C' y a h = some r) {kr pc : Nat} {i : Instr} {ax : List Nat} {L : zL} {st : List Value} {h : zH} {x : zR ⊕ zS} (hs : zstep C kr pc i ax L st h = some x) : zstep C' kr pc i ax L st h = some x := by
  unfold zstep at hs ⊢
  split at hs
  · exact zcall_mono hC hs
  · exact zcall_mono hC hs
  · exact zcall_mono hC hs
  · exact hs
theorem zrun_le {T : zT} : ∀ (n : Nat) {y pc : Nat} {L : zL} {st : List Value} {h : zH} {r : zR}, zrun T n y pc L st h = some r → zle h r.2
  | 0, _, _, _, _, _, _, hs => by simp [zrun] at hs
  | n + 1, y, pc, L, st, h, r, hs => by
    unfold zrun at hs
    split at hs
    · simp at hs
    · split at hs
      · simp at hs
      · rename_i hq
        have hl := zstep_le (fun y' a h' r' hc => by
          split at hc
          · exact zrun_le n hc
          · simp at hc) hq
        simp only [Option.some.injEq] at hs
        subst hs
        exact hl
      · rename_i hq
        have hl := zstep_le (fun y' a h' r' hc => by
          split at hc
          · exact zrun_le n hc
          · simp at hc) hq
        exact zle_tr hl (zrun_le n hs)
theorem zrun_succ (T : zT) (n y pc : Nat) (L : zL) (st : List Value) (h : zH) : zrun T (n + 1) y pc L st h = match T.1 y pc with
    | none => none
    | some (i, ax) => match zstep (fun y' a h' => if (zent a).length ≤ (T.2 y').2.2.1 then zrun T n y' 0 (zentry (T.2 y').2.2.1 a) [] h' else none) (zkr (T.2 y).2.2.2.1) pc i ax L st h with
      | none => none
      | some (.inl r) => some r
      | some (.inr s) => zrun T n y s.1 s.2.1 s.2.2.1 s.2.2.2 := rfl
theorem zrun_mono1 {T : zT} : ∀ (n : Nat) {y pc : Nat} {L : zL} {st : List Value} {h : zH} {r : zR}, zrun T n y pc L st h = some r → zrun T (n + 1) y pc L st h = some r
  | 0, _, _, _, _, _, _, hs => by simp [zrun] at hs
  | n + 1, y, pc, L, st, h, r, hs => by
    have hC : ∀ y' a h' r', (if (zent a).length ≤ (T.2 y').2.2.1 then zrun T n y' 0 (zentry (T.2 y').2.2.1 a) [] h' else none) = some r' → (if (zent a).length ≤ (T.2 y').2.2.1 then zrun T (n + 1) y' 0 (zentry (T.2 y').2.2.1 a) [] h' else none) = some r' := fun y' a h' r' hc => by
      split at hc
      · rename_i hz
        rw [if_pos hz]
        exact zrun_mono1 n hc
      · simp at hc
    rw [zrun_succ] at hs ⊢
    cases hI : T.1 y pc with
    | none => rw [hI] at hs; simp at hs
    | some q =>
      obtain ⟨i, ax⟩ := q
      rw [hI] at hs
      simp only at hs ⊢
      split at hs
      · simp at hs
      · rename_i hq
        rw [zstep_mono hC hq]
        exact hs
      · rename_i hq
        rw [zstep_mono hC hq]
        exact zrun_mono1 n hs
theorem zrun_mono {T : zT} {n : Nat} {y pc : Nat} {L : zL} {st : List Value} {h : zH} {r : zR} (hs : zrun T n y pc L st h = some r) : ∀ {k : Nat}, n ≤ k → zrun T k y pc L st h = some r := by
  intro k hk
  obtain ⟨j, rfl⟩ := Nat.le.dest hk
  induction j with
  | zero => exact hs
  | succ j ih => exact zrun_mono1 _ (ih (by omega))
/-- from here the method comes to its end with r -/
def zruns (T : zT) (y pc : Nat) (L : zL) (st : List Value) (h : zH) (r : zR) : Prop := ∃ n, zrun T n y pc L st h = some r
/-- a step that calls nothing -/
theorem zruns_step {T : zT} {y pc pc' : Nat} {L L' : zL} {st st' : List Value} {h h' : zH} {r : zR} {i : Instr} {ax : List Nat} (hI : T.1 y pc = some (i, ax)) (hs : ∀ C, zstep C (zkr (T.2 y).2.2.2.1) pc i ax L st h = some (.inr (pc', L', st', h'))) (k : zruns T y pc' L' st' h' r) : zruns T y pc L st h r := by
  obtain ⟨n, hn⟩ := k
  refine ⟨n + 1, ?_⟩
  unfold zrun
  simp only [hI, hs]
  exact hn
theorem zruns_ret {T : zT} {y pc : Nat} {L : zL} {st : List Value} {h : zH} {r : zR} {i : Instr} {ax : List Nat} (hI : T.1 y pc = some (i, ax)) (hs : ∀ C, zstep C (zkr (T.2 y).2.2.2.1) pc i ax L st h = some (.inl r)) : zruns T y pc L st h r := by
  refine ⟨1, ?_⟩
  unfold zrun
  simp only [hI, hs]
/-- a call -/
theorem zruns_call {T : zT} {y y' pc pc' : Nat} {a : List Value} {L L' : zL} {st st' : List Value} {h h' h1 : zH} {r q : zR} {i : Instr} {ax : List Nat} (hI : T.1 y pc = some (i, ax)) (hc : zcalls T y' a h1 q) (hs : ∀ C : Nat → List Value → zH → Option zR, C y' a h1 = some q → zstep C (zkr (T.2 y).2.2.2.1) pc i ax L st h = some (.inr (pc', L', st', h'))) (k : zruns T y pc' L' st' h' r) : zruns T y pc L st h r := by
  obtain ⟨n, hn⟩ := k
  obtain ⟨hz, m, hm⟩ := hc
  refine ⟨max n m + 1, ?_⟩
  unfold zrun
  simp only [hI]
  rw [hs _ (by rw [if_pos hz]; exact zrun_mono hm (Nat.le_max_right n m))]
  exact zrun_mono hn (Nat.le_max_left n m)
theorem zcalls_of {T : zT} {y : Nat} {a : List Value} {h : zH} {r : zR} (hz : (zent a).length ≤ (T.2 y).2.2.1) (k : zruns T y 0 (zentry (T.2 y).2.2.1 a) [] h r) : zcalls T y a h r := ⟨hz, k⟩
end
section
-- ===== PART A: the tables' words (out of the skeleton) =====
/-- a private method of a class that the tables say can be made, by its rows of tables_1 -/
def lw_okq (q : MethodName × Nat) : Prop := (q.1.cls ≠ "java/lang/invoke/MethodHandle" ∧ q.1.cls ≠ "java/lang/invoke/VarHandle") ∧ Cond.instantiable q.1.cls q.2 ∈ tables_1 ∧ Cond.privateMethod q.1 ∈ tables_1 ∧ Cond.instanceMethod q.1 ∈ tables_1
theorem lw_p0 : lw_okq (⟨"Nightjar", "recompute", "()V"⟩, 7) := ⟨⟨by decide +kernel, by decide +kernel⟩, List.mem_of_getElem? (i := 19) (by decide +kernel), List.mem_of_getElem? (i := 253) (by decide +kernel), List.mem_of_getElem? (i := 254) (by decide +kernel)⟩
theorem lw_p1 : lw_okq (⟨"Nightjar$Sessions", "begin", "(I)I"⟩, 9) := ⟨⟨by decide +kernel, by decide +kernel⟩, List.mem_of_getElem? (i := 111) (by decide +kernel), List.mem_of_getElem? (i := 289) (by decide +kernel), List.mem_of_getElem? (i := 290) (by decide +kernel)⟩
theorem lw_p2 : lw_okq (⟨"Nightjar$Sessions", "goOn", "(II)I"⟩, 9) := ⟨⟨by decide +kernel, by decide +kernel⟩, List.mem_of_getElem? (i := 111) (by decide +kernel), List.mem_of_getElem? (i := 293) (by decide +kernel), List.mem_of_getElem? (i := 294) (by decide +kernel)⟩
theorem lw_p3 : lw_okq (⟨"Nightjar$Sessions", "isSamePath", "(LNightjar$Lines;II)Z"⟩, 9) := ⟨⟨by decide +kernel, by decide +kernel⟩, List.mem_of_getElem? (i := 111) (by decide +kernel), List.mem_of_getElem? (i := 309) (by decide +kernel), List.mem_of_getElem? (i := 310) (by decide +kernel)⟩
theorem lw_p4 : lw_okq (⟨"Nightjar$Spikes", "closeWindow", "(LNightjar$Lines;III)V"⟩, 5) := ⟨⟨by decide +kernel, by decide +kernel⟩, List.mem_of_getElem? (i := 153) (by decide +kernel), List.mem_of_getElem? (i := 323) (by decide +kernel), List.mem_of_getElem? (i := 324) (by decide +kernel)⟩
theorem lw_p5 : lw_okq (⟨"Nightjar$Spikes", "enter", "(III)V"⟩, 5) := ⟨⟨by decide +kernel, by decide +kernel⟩, List.mem_of_getElem? (i := 153) (by decide +kernel), List.mem_of_getElem? (i := 332) (by decide +kernel), List.mem_of_getElem? (i := 333) (by decide +kernel)⟩
theorem lw_p6 : lw_okq (⟨"Nightjar$Scenes", "enter", "(III)V"⟩, 8) := ⟨⟨by decide +kernel, by decide +kernel⟩, List.mem_of_getElem? (i := 181) (by decide +kernel), List.mem_of_getElem? (i := 372) (by decide +kernel), List.mem_of_getElem? (i := 373) (by decide +kernel)⟩
theorem lw_p7 : lw_okq (⟨"java/lang/Throwable", "fillInStackTrace", "(I)Ljava/lang/Throwable;"⟩, 6) := ⟨⟨by decide +kernel, by decide +kernel⟩, List.mem_of_getElem? (i := 454) (by decide +kernel), List.mem_of_getElem? (i := 452) (by decide +kernel), List.mem_of_getElem? (i := 453) (by decide +kernel)⟩
theorem lw_p8 : lw_okq (⟨"Nightjar", "mixLine", "(JI)J"⟩, 7) := ⟨⟨by decide +kernel, by decide +kernel⟩, List.mem_of_getElem? (i := 19) (by decide +kernel), List.mem_of_getElem? (i := 492) (by decide +kernel), List.mem_of_getElem? (i := 493) (by decide +kernel)⟩
theorem lw_p9 : lw_okq (⟨"Nightjar", "hasLine", "(I)Z"⟩, 7) := ⟨⟨by decide +kernel, by decide +kernel⟩, List.mem_of_getElem? (i := 19) (by decide +kernel), List.mem_of_getElem? (i := 500) (by decide +kernel), List.mem_of_getElem? (i := 501) (by decide +kernel)⟩
theorem lw_p10 : lw_okq (⟨"Nightjar", "mixTemplate", "(JI)J"⟩, 7) := ⟨⟨by decide +kernel, by decide +kernel⟩, List.mem_of_getElem? (i := 19) (by decide +kernel), List.mem_of_getElem? (i := 533) (by decide +kernel), List.mem_of_getElem? (i := 534) (by decide +kernel)⟩
theorem lw_p11 : lw_okq (⟨"Nightjar", "hasTemplate", "(I)Z"⟩, 7) := ⟨⟨by decide +kernel, by decide +kernel⟩, List.mem_of_getElem? (i := 19) (by decide +kernel), List.mem_of_getElem? (i := 541) (by decide +kernel), List.mem_of_getElem? (i := 542) (by decide +kernel)⟩
theorem lw_p12 : lw_okq (⟨"Nightjar$Lines", "isNewWord", "(II)Z"⟩, 9) := ⟨⟨by decide +kernel, by decide +kernel⟩, List.mem_of_getElem? (i := 27) (by decide +kernel), List.mem_of_getElem? (i := 579) (by decide +kernel), List.mem_of_getElem? (i := 580) (by decide +kernel)⟩
theorem lw_p13 : lw_okq (⟨"Nightjar", "hasSession", "(I)Z"⟩, 7) := ⟨⟨by decide +kernel, by decide +kernel⟩, List.mem_of_getElem? (i := 19) (by decide +kernel), List.mem_of_getElem? (i := 601) (by decide +kernel), List.mem_of_getElem? (i := 602) (by decide +kernel)⟩
theorem lw_p14 : lw_okq (⟨"Nightjar$Templates", "copy", "(LNightjar$Lines;I)V"⟩, 3) := ⟨⟨by decide +kernel, by decide +kernel⟩, List.mem_of_getElem? (i := 91) (by decide +kernel), List.mem_of_getElem? (i := 690) (by decide +kernel), List.mem_of_getElem? (i := 691) (by decide +kernel)⟩
theorem lw_p15 : lw_okq (⟨"Nightjar$Templates", "widen", "(LNightjar$Lines;II)V"⟩, 3) := ⟨⟨by decide +kernel, by decide +kernel⟩, List.mem_of_getElem? (i := 91) (by decide +kernel), List.mem_of_getElem? (i := 695) (by decide +kernel), List.mem_of_getElem? (i := 696) (by decide +kernel)⟩
def lw_privs_1 : List (MethodName × Nat) := [(⟨"Nightjar", "recompute", "()V"⟩, 7), (⟨"Nightjar$Sessions", "begin", "(I)I"⟩, 9), (⟨"Nightjar$Sessions", "goOn", "(II)I"⟩, 9), (⟨"Nightjar$Sessions", "isSamePath", "(LNightjar$Lines;II)Z"⟩, 9), (⟨"Nightjar$Spikes", "closeWindow", "(LNightjar$Lines;III)V"⟩, 5), (⟨"Nightjar$Spikes", "enter", "(III)V"⟩, 5), (⟨"Nightjar$Scenes", "enter", "(III)V"⟩, 8), (⟨"java/lang/Throwable", "fillInStackTrace", "(I)Ljava/lang/Throwable;"⟩, 6), (⟨"Nightjar", "mixLine", "(JI)J"⟩, 7), (⟨"Nightjar", "hasLine", "(I)Z"⟩, 7), (⟨"Nightjar", "mixTemplate", "(JI)J"⟩, 7), (⟨"Nightjar", "hasTemplate", "(I)Z"⟩, 7), (⟨"Nightjar$Lines", "isNewWord", "(II)Z"⟩, 9), (⟨"Nightjar", "hasSession", "(I)Z"⟩, 7), (⟨"Nightjar$Templates", "copy", "(LNightjar$Lines;I)V"⟩, 3), (⟨"Nightjar$Templates", "widen", "(LNightjar$Lines;II)V"⟩, 3)]
theorem lw_r1 : ∀ q ∈ lw_privs_1, lw_okq q := List.forall_mem_cons.mpr ⟨lw_p0, List.forall_mem_cons.mpr ⟨lw_p1, List.forall_mem_cons.mpr ⟨lw_p2, List.forall_mem_cons.mpr ⟨lw_p3, List.forall_mem_cons.mpr ⟨lw_p4, List.forall_mem_cons.mpr ⟨lw_p5, List.forall_mem_cons.mpr ⟨lw_p6, List.forall_mem_cons.mpr ⟨lw_p7, List.forall_mem_cons.mpr ⟨lw_p8, List.forall_mem_cons.mpr ⟨lw_p9, List.forall_mem_cons.mpr ⟨lw_p10, List.forall_mem_cons.mpr ⟨lw_p11, List.forall_mem_cons.mpr ⟨lw_p12, List.forall_mem_cons.mpr ⟨lw_p13, List.forall_mem_cons.mpr ⟨lw_p14, List.forall_mem_cons.mpr ⟨lw_p15, fun _ h => absurd h List.not_mem_nil⟩⟩⟩⟩⟩⟩⟩⟩⟩⟩⟩⟩⟩⟩⟩⟩
theorem lw_p16 : lw_okq (⟨"NightjarModel", "no", "(I)I"⟩, 22) := ⟨⟨by decide +kernel, by decide +kernel⟩, List.mem_of_getElem? (i := 813) (by decide +kernel), List.mem_of_getElem? (i := 897) (by decide +kernel), List.mem_of_getElem? (i := 898) (by decide +kernel)⟩
theorem lw_p17 : lw_okq (⟨"NightjarModel", "learnLine", "(II)V"⟩, 22) := ⟨⟨by decide +kernel, by decide +kernel⟩, List.mem_of_getElem? (i := 813) (by decide +kernel), List.mem_of_getElem? (i := 909) (by decide +kernel), List.mem_of_getElem? (i := 910) (by decide +kernel)⟩
theorem lw_p18 : lw_okq (⟨"NightjarModel", "nearest", "(II)I"⟩, 22) := ⟨⟨by decide +kernel, by decide +kernel⟩, List.mem_of_getElem? (i := 813) (by decide +kernel), List.mem_of_getElem? (i := 913) (by decide +kernel), List.mem_of_getElem? (i := 914) (by decide +kernel)⟩
theorem lw_p19 : lw_okq (⟨"NightjarModel", "alikeNow", "(II)I"⟩, 22) := ⟨⟨by decide +kernel, by decide +kernel⟩, List.mem_of_getElem? (i := 813) (by decide +kernel), List.mem_of_getElem? (i := 917) (by decide +kernel), List.mem_of_getElem? (i := 918) (by decide +kernel)⟩
theorem lw_p20 : lw_okq (⟨"NightjarModel", "add", "(I)I"⟩, 22) := ⟨⟨by decide +kernel, by decide +kernel⟩, List.mem_of_getElem? (i := 813) (by decide +kernel), List.mem_of_getElem? (i := 921) (by decide +kernel), List.mem_of_getElem? (i := 922) (by decide +kernel)⟩
theorem lw_p21 : lw_okq (⟨"NightjarModel", "tellAll", "()V"⟩, 22) := ⟨⟨by decide +kernel, by decide +kernel⟩, List.mem_of_getElem? (i := 813) (by decide +kernel), List.mem_of_getElem? (i := 940) (by decide +kernel), List.mem_of_getElem? (i := 941) (by decide +kernel)⟩
theorem lw_p22 : lw_okq (⟨"NightjarModel", "tellSessions", "()V"⟩, 22) := ⟨⟨by decide +kernel, by decide +kernel⟩, List.mem_of_getElem? (i := 813) (by decide +kernel), List.mem_of_getElem? (i := 944) (by decide +kernel), List.mem_of_getElem? (i := 945) (by decide +kernel)⟩
theorem lw_p23 : lw_okq (⟨"NightjarModel", "tellSessions", "(I)I"⟩, 22) := ⟨⟨by decide +kernel, by decide +kernel⟩, List.mem_of_getElem? (i := 813) (by decide +kernel), List.mem_of_getElem? (i := 948) (by decide +kernel), List.mem_of_getElem? (i := 949) (by decide +kernel)⟩
theorem lw_p24 : lw_okq (⟨"NightjarModel", "key", "(I)I"⟩, 22) := ⟨⟨by decide +kernel, by decide +kernel⟩, List.mem_of_getElem? (i := 813) (by decide +kernel), List.mem_of_getElem? (i := 952) (by decide +kernel), List.mem_of_getElem? (i := 953) (by decide +kernel)⟩
theorem lw_p25 : lw_okq (⟨"NightjarModel", "templateOf", "(I)I"⟩, 22) := ⟨⟨by decide +kernel, by decide +kernel⟩, List.mem_of_getElem? (i := 813) (by decide +kernel), List.mem_of_getElem? (i := 956) (by decide +kernel), List.mem_of_getElem? (i := 957) (by decide +kernel)⟩
theorem lw_p26 : lw_okq (⟨"NightjarModel", "tellSpikes", "()V"⟩, 22) := ⟨⟨by decide +kernel, by decide +kernel⟩, List.mem_of_getElem? (i := 813) (by decide +kernel), List.mem_of_getElem? (i := 960) (by decide +kernel), List.mem_of_getElem? (i := 961) (by decide +kernel)⟩
theorem lw_p27 : lw_okq (⟨"NightjarModel", "window", "(I)I"⟩, 22) := ⟨⟨by decide +kernel, by decide +kernel⟩, List.mem_of_getElem? (i := 813) (by decide +kernel), List.mem_of_getElem? (i := 964) (by decide +kernel), List.mem_of_getElem? (i := 965) (by decide +kernel)⟩
theorem lw_p28 : lw_okq (⟨"NightjarModel", "countNow", "(II)I"⟩, 22) := ⟨⟨by decide +kernel, by decide +kernel⟩, List.mem_of_getElem? (i := 813) (by decide +kernel), List.mem_of_getElem? (i := 968) (by decide +kernel), List.mem_of_getElem? (i := 969) (by decide +kernel)⟩
theorem lw_p29 : lw_okq (⟨"NightjarModel", "manyNow", "(I)I"⟩, 22) := ⟨⟨by decide +kernel, by decide +kernel⟩, List.mem_of_getElem? (i := 813) (by decide +kernel), List.mem_of_getElem? (i := 972) (by decide +kernel), List.mem_of_getElem? (i := 973) (by decide +kernel)⟩
theorem lw_p30 : lw_okq (⟨"NightjarModel", "isBroken", "(I)Z"⟩, 22) := ⟨⟨by decide +kernel, by decide +kernel⟩, List.mem_of_getElem? (i := 813) (by decide +kernel), List.mem_of_getElem? (i := 976) (by decide +kernel), List.mem_of_getElem? (i := 977) (by decide +kernel)⟩
theorem lw_p31 : lw_okq (⟨"NightjarModel", "isLine", "(I)Z"⟩, 22) := ⟨⟨by decide +kernel, by decide +kernel⟩, List.mem_of_getElem? (i := 813) (by decide +kernel), List.mem_of_getElem? (i := 984) (by decide +kernel), List.mem_of_getElem? (i := 985) (by decide +kernel)⟩
def lw_privs_2 : List (MethodName × Nat) := [(⟨"NightjarModel", "no", "(I)I"⟩, 22), (⟨"NightjarModel", "learnLine", "(II)V"⟩, 22), (⟨"NightjarModel", "nearest", "(II)I"⟩, 22), (⟨"NightjarModel", "alikeNow", "(II)I"⟩, 22), (⟨"NightjarModel", "add", "(I)I"⟩, 22), (⟨"NightjarModel", "tellAll", "()V"⟩, 22), (⟨"NightjarModel", "tellSessions", "()V"⟩, 22), (⟨"NightjarModel", "tellSessions", "(I)I"⟩, 22), (⟨"NightjarModel", "key", "(I)I"⟩, 22), (⟨"NightjarModel", "templateOf", "(I)I"⟩, 22), (⟨"NightjarModel", "tellSpikes", "()V"⟩, 22), (⟨"NightjarModel", "window", "(I)I"⟩, 22), (⟨"NightjarModel", "countNow", "(II)I"⟩, 22), (⟨"NightjarModel", "manyNow", "(I)I"⟩, 22), (⟨"NightjarModel", "isBroken", "(I)Z"⟩, 22), (⟨"NightjarModel", "isLine", "(I)Z"⟩, 22)]
theorem lw_r2 : ∀ q ∈ lw_privs_2, lw_okq q := List.forall_mem_cons.mpr ⟨lw_p16, List.forall_mem_cons.mpr ⟨lw_p17, List.forall_mem_cons.mpr ⟨lw_p18, List.forall_mem_cons.mpr ⟨lw_p19, List.forall_mem_cons.mpr ⟨lw_p20, List.forall_mem_cons.mpr ⟨lw_p21, List.forall_mem_cons.mpr ⟨lw_p22, List.forall_mem_cons.mpr ⟨lw_p23, List.forall_mem_cons.mpr ⟨lw_p24, List.forall_mem_cons.mpr ⟨lw_p25, List.forall_mem_cons.mpr ⟨lw_p26, List.forall_mem_cons.mpr ⟨lw_p27, List.forall_mem_cons.mpr ⟨lw_p28, List.forall_mem_cons.mpr ⟨lw_p29, List.forall_mem_cons.mpr ⟨lw_p30, List.forall_mem_cons.mpr ⟨lw_p31, fun _ h => absurd h List.not_mem_nil⟩⟩⟩⟩⟩⟩⟩⟩⟩⟩⟩⟩⟩⟩⟩⟩
theorem lw_p32 : lw_okq (⟨"NightjarModel", "ofLineNow", "(II)I"⟩, 22) := ⟨⟨by decide +kernel, by decide +kernel⟩, List.mem_of_getElem? (i := 813) (by decide +kernel), List.mem_of_getElem? (i := 988) (by decide +kernel), List.mem_of_getElem? (i := 989) (by decide +kernel)⟩
theorem lw_p33 : lw_okq (⟨"NightjarModel", "sceneNow", "(I)I"⟩, 22) := ⟨⟨by decide +kernel, by decide +kernel⟩, List.mem_of_getElem? (i := 813) (by decide +kernel), List.mem_of_getElem? (i := 992) (by decide +kernel), List.mem_of_getElem? (i := 993) (by decide +kernel)⟩
theorem lw_p34 : lw_okq (⟨"NightjarModel", "isInScene", "(II)Z"⟩, 22) := ⟨⟨by decide +kernel, by decide +kernel⟩, List.mem_of_getElem? (i := 813) (by decide +kernel), List.mem_of_getElem? (i := 996) (by decide +kernel), List.mem_of_getElem? (i := 997) (by decide +kernel)⟩
theorem lw_p35 : lw_okq (⟨"NightjarModel", "isTemplate", "(I)Z"⟩, 22) := ⟨⟨by decide +kernel, by decide +kernel⟩, List.mem_of_getElem? (i := 813) (by decide +kernel), List.mem_of_getElem? (i := 1008) (by decide +kernel), List.mem_of_getElem? (i := 1009) (by decide +kernel)⟩
theorem lw_p36 : lw_okq (⟨"NightjarModel", "ofTemplateNow", "(II)I"⟩, 22) := ⟨⟨by decide +kernel, by decide +kernel⟩, List.mem_of_getElem? (i := 813) (by decide +kernel), List.mem_of_getElem? (i := 1012) (by decide +kernel), List.mem_of_getElem? (i := 1013) (by decide +kernel)⟩
theorem lw_p37 : lw_okq (⟨"NightjarModel", "holes", "(I)I"⟩, 22) := ⟨⟨by decide +kernel, by decide +kernel⟩, List.mem_of_getElem? (i := 813) (by decide +kernel), List.mem_of_getElem? (i := 1016) (by decide +kernel), List.mem_of_getElem? (i := 1017) (by decide +kernel)⟩
theorem lw_p38 : lw_okq (⟨"NightjarModel", "valuesNow", "(II)I"⟩, 22) := ⟨⟨by decide +kernel, by decide +kernel⟩, List.mem_of_getElem? (i := 813) (by decide +kernel), List.mem_of_getElem? (i := 1031) (by decide +kernel), List.mem_of_getElem? (i := 1032) (by decide +kernel)⟩
theorem lw_p39 : lw_okq (⟨"NightjarModel", "placeOf", "(II)I"⟩, 22) := ⟨⟨by decide +kernel, by decide +kernel⟩, List.mem_of_getElem? (i := 813) (by decide +kernel), List.mem_of_getElem? (i := 1035) (by decide +kernel), List.mem_of_getElem? (i := 1036) (by decide +kernel)⟩
theorem lw_p40 : lw_okq (⟨"NightjarModel", "ofSessionNow", "(II)I"⟩, 22) := ⟨⟨by decide +kernel, by decide +kernel⟩, List.mem_of_getElem? (i := 813) (by decide +kernel), List.mem_of_getElem? (i := 1048) (by decide +kernel), List.mem_of_getElem? (i := 1049) (by decide +kernel)⟩
theorem lw_p41 : lw_okq (⟨"NightjarModel", "paths", "(I)I"⟩, 22) := ⟨⟨by decide +kernel, by decide +kernel⟩, List.mem_of_getElem? (i := 813) (by decide +kernel), List.mem_of_getElem? (i := 1052) (by decide +kernel), List.mem_of_getElem? (i := 1053) (by decide +kernel)⟩
theorem lw_p42 : lw_okq (⟨"NightjarModel", "haveOnePath", "(II)Z"⟩, 22) := ⟨⟨by decide +kernel, by decide +kernel⟩, List.mem_of_getElem? (i := 813) (by decide +kernel), List.mem_of_getElem? (i := 1056) (by decide +kernel), List.mem_of_getElem? (i := 1057) (by decide +kernel)⟩
theorem lw_p43 : lw_okq (⟨"NightjarModel", "nextIn", "(II)I"⟩, 22) := ⟨⟨by decide +kernel, by decide +kernel⟩, List.mem_of_getElem? (i := 813) (by decide +kernel), List.mem_of_getElem? (i := 1060) (by decide +kernel), List.mem_of_getElem? (i := 1061) (by decide +kernel)⟩
theorem lw_p44 : lw_okq (⟨"NightjarModel", "usualNow", "()I"⟩, 22) := ⟨⟨by decide +kernel, by decide +kernel⟩, List.mem_of_getElem? (i := 813) (by decide +kernel), List.mem_of_getElem? (i := 1072) (by decide +kernel), List.mem_of_getElem? (i := 1073) (by decide +kernel)⟩
theorem lw_p45 : lw_okq (⟨"NightjarModel", "spikeNow", "(II)I"⟩, 22) := ⟨⟨by decide +kernel, by decide +kernel⟩, List.mem_of_getElem? (i := 813) (by decide +kernel), List.mem_of_getElem? (i := 1088) (by decide +kernel), List.mem_of_getElem? (i := 1089) (by decide +kernel)⟩
theorem lw_p46 : lw_okq (⟨"NightjarModel", "tellCauses", "(I)V"⟩, 22) := ⟨⟨by decide +kernel, by decide +kernel⟩, List.mem_of_getElem? (i := 813) (by decide +kernel), List.mem_of_getElem? (i := 1096) (by decide +kernel), List.mem_of_getElem? (i := 1097) (by decide +kernel)⟩
theorem lw_p47 : lw_okq (⟨"NightjarModel", "lastInScene", "(II)I"⟩, 22) := ⟨⟨by decide +kernel, by decide +kernel⟩, List.mem_of_getElem? (i := 813) (by decide +kernel), List.mem_of_getElem? (i := 1100) (by decide +kernel), List.mem_of_getElem? (i := 1101) (by decide +kernel)⟩
def lw_privs_3 : List (MethodName × Nat) := [(⟨"NightjarModel", "ofLineNow", "(II)I"⟩, 22), (⟨"NightjarModel", "sceneNow", "(I)I"⟩, 22), (⟨"NightjarModel", "isInScene", "(II)Z"⟩, 22), (⟨"NightjarModel", "isTemplate", "(I)Z"⟩, 22), (⟨"NightjarModel", "ofTemplateNow", "(II)I"⟩, 22), (⟨"NightjarModel", "holes", "(I)I"⟩, 22), (⟨"NightjarModel", "valuesNow", "(II)I"⟩, 22), (⟨"NightjarModel", "placeOf", "(II)I"⟩, 22), (⟨"NightjarModel", "ofSessionNow", "(II)I"⟩, 22), (⟨"NightjarModel", "paths", "(I)I"⟩, 22), (⟨"NightjarModel", "haveOnePath", "(II)Z"⟩, 22), (⟨"NightjarModel", "nextIn", "(II)I"⟩, 22), (⟨"NightjarModel", "usualNow", "()I"⟩, 22), (⟨"NightjarModel", "spikeNow", "(II)I"⟩, 22), (⟨"NightjarModel", "tellCauses", "(I)V"⟩, 22), (⟨"NightjarModel", "lastInScene", "(II)I"⟩, 22)]
theorem lw_r3 : ∀ q ∈ lw_privs_3, lw_okq q := List.forall_mem_cons.mpr ⟨lw_p32, List.forall_mem_cons.mpr ⟨lw_p33, List.forall_mem_cons.mpr ⟨lw_p34, List.forall_mem_cons.mpr ⟨lw_p35, List.forall_mem_cons.mpr ⟨lw_p36, List.forall_mem_cons.mpr ⟨lw_p37, List.forall_mem_cons.mpr ⟨lw_p38, List.forall_mem_cons.mpr ⟨lw_p39, List.forall_mem_cons.mpr ⟨lw_p40, List.forall_mem_cons.mpr ⟨lw_p41, List.forall_mem_cons.mpr ⟨lw_p42, List.forall_mem_cons.mpr ⟨lw_p43, List.forall_mem_cons.mpr ⟨lw_p44, List.forall_mem_cons.mpr ⟨lw_p45, List.forall_mem_cons.mpr ⟨lw_p46, List.forall_mem_cons.mpr ⟨lw_p47, fun _ h => absurd h List.not_mem_nil⟩⟩⟩⟩⟩⟩⟩⟩⟩⟩⟩⟩⟩⟩⟩⟩
theorem lw_p48 : lw_okq (⟨"NightjarModel", "put", "(IIII)V"⟩, 22) := ⟨⟨by decide +kernel, by decide +kernel⟩, List.mem_of_getElem? (i := 813) (by decide +kernel), List.mem_of_getElem? (i := 1104) (by decide +kernel), List.mem_of_getElem? (i := 1105) (by decide +kernel)⟩
theorem lw_p49 : lw_okq (⟨"NightjarModel", "becauseNow", "(I)I"⟩, 22) := ⟨⟨by decide +kernel, by decide +kernel⟩, List.mem_of_getElem? (i := 813) (by decide +kernel), List.mem_of_getElem? (i := 1116) (by decide +kernel), List.mem_of_getElem? (i := 1117) (by decide +kernel)⟩
theorem lw_p50 : lw_okq (⟨"NightjarModel", "putBy", "(Z)[[I"⟩, 22) := ⟨⟨by decide +kernel, by decide +kernel⟩, List.mem_of_getElem? (i := 813) (by decide +kernel), List.mem_of_getElem? (i := 1124) (by decide +kernel), List.mem_of_getElem? (i := 1125) (by decide +kernel)⟩
theorem lw_p51 : lw_okq (⟨"NightjarModel", "takeAgain", "([[I)V"⟩, 22) := ⟨⟨by decide +kernel, by decide +kernel⟩, List.mem_of_getElem? (i := 813) (by decide +kernel), List.mem_of_getElem? (i := 1130) (by decide +kernel), List.mem_of_getElem? (i := 1131) (by decide +kernel)⟩
def lw_privs_4 : List (MethodName × Nat) := [(⟨"NightjarModel", "put", "(IIII)V"⟩, 22), (⟨"NightjarModel", "becauseNow", "(I)I"⟩, 22), (⟨"NightjarModel", "putBy", "(Z)[[I"⟩, 22), (⟨"NightjarModel", "takeAgain", "([[I)V"⟩, 22)]
theorem lw_r4 : ∀ q ∈ lw_privs_4, lw_okq q := List.forall_mem_cons.mpr ⟨lw_p48, List.forall_mem_cons.mpr ⟨lw_p49, List.forall_mem_cons.mpr ⟨lw_p50, List.forall_mem_cons.mpr ⟨lw_p51, fun _ h => absurd h List.not_mem_nil⟩⟩⟩⟩
def lw_privs : List (MethodName × Nat) := lw_privs_1 ++ (lw_privs_2 ++ (lw_privs_3 ++ (lw_privs_4)))
def lw_tbl : List Cond := k2_sels lw_privs ++ tables_1
theorem lw_privs_ok : ∀ q ∈ lw_privs, lw_okq q := by
  show ∀ q ∈ lw_privs_1 ++ (lw_privs_2 ++ (lw_privs_3 ++ (lw_privs_4))), lw_okq q
  exact List.forall_mem_append.mpr ⟨lw_r1, List.forall_mem_append.mpr ⟨lw_r2, List.forall_mem_append.mpr ⟨lw_r3, lw_r4⟩⟩⟩
/-- the streams that the claim lets the run draw from -/
abbrev lw_cs : List Choice := [Jvm.Choice.named "NaN.bits"]
theorem lw_bits : nanBits ∈ lw_cs := by first | decide | exact List.mem_cons_self | simp [lw_cs, nanBits]
-- ===== the table =====
def zall_0 : List Jvm.Cond := [Jvm.Cond.fieldLink "Nightjar$Row" (9 : Nat) "Nightjar$Row" "cells" "[I", Jvm.Cond.fieldLink "NightjarModel" (55 : Nat) "NightjarModel" "thrown" "I", Jvm.Cond.methodLink "Nightjar$Row" (3 : Nat) ({ cls := "java/lang/Object", name := "<init>", desc := "()V" } : Jvm.MethodName), Jvm.Cond.instanceMethod ({ cls := "java/lang/Object", name := "<init>", desc := "()V" } : Jvm.MethodName), Jvm.Cond.code ({ cls := "java/lang/Object", name := "<init>", desc := "()V" } : Jvm.MethodName) object_method_1_code (1 : Nat) (Option.none : Option Jvm.ClassFile.FieldType), Jvm.Cond.arrayClass Jvm.ClassFile.FieldType.int, Jvm.Cond.constantLong "Nightjar" (335 : Nat) (31 : Int64), Jvm.Cond.fieldLink "Nightjar$Lines" (29 : Nat) "Nightjar$Lines" "words" "LNightjar$Row;", Jvm.Cond.methodLink "Nightjar$Lines" (46 : Nat) ({ cls := "Nightjar$Row", name := "at", desc := "(I)I" } : Jvm.MethodName), Jvm.Cond.code ({ cls := "Nightjar$Row", name := "at", desc := "(I)I" } : Jvm.MethodName) prog_3_method_2_code (2 : Nat) (Option.some Jvm.ClassFile.FieldType.int), Jvm.Cond.instanceMethod ({ cls := "Nightjar$Row", name := "at", desc := "(I)I" } : Jvm.MethodName), Jvm.Cond.selects "Nightjar$Row" ({ cls := "Nightjar$Row", name := "at", desc := "(I)I" } : Jvm.MethodName) ({ cls := "Nightjar$Row", name := "at", desc := "(I)I" } : Jvm.MethodName), Jvm.Cond.initialized "Nightjar$Row", Jvm.Cond.fieldLink "Nightjar" (19 : Nat) "Nightjar" "templates" "LNightjar$Templates;", Jvm.Cond.fieldLink "Nightjar" (126 : Nat) "Nightjar$Templates" "number" "I", Jvm.Cond.fieldLink "NightjarModel" (66 : Nat) "NightjarModel" "templates" "I", Jvm.Cond.methodLink "NightjarModel" (62 : Nat) ({ cls := "NightjarModel", name := "isIn", desc := "(III)Z" } : Jvm.MethodName), Jvm.Cond.code ({ cls := "NightjarModel", name := "isIn", desc := "(III)Z" } : Jvm.MethodName) prog_9_method_4_code (3 : Nat) (Option.some Jvm.ClassFile.FieldType.boolean), Jvm.Cond.static ({ cls := "NightjarModel", name := "isIn", desc := "(III)Z" } : Jvm.MethodName), Jvm.Cond.initialized "NightjarModel", Jvm.Cond.methodLink "NightjarModel" (96 : Nat) ({ cls := "NightjarModel", name := "templateOf", desc := "(I)I" } : Jvm.MethodName), Jvm.Cond.code ({ cls := "NightjarModel", name := "templateOf", desc := "(I)I" } : Jvm.MethodName) prog_9_method_17_code (2 : Nat) (Option.some Jvm.ClassFile.FieldType.int), Jvm.Cond.instanceMethod ({ cls := "NightjarModel", name := "templateOf", desc := "(I)I" } : Jvm.MethodName), Cond.selects "NightjarModel" ⟨"NightjarModel", "templateOf", "(I)I"⟩ ⟨"NightjarModel", "templateOf", "(I)I"⟩, Jvm.Cond.fieldLink "NightjarModel" (31 : Nat) "NightjarModel" "places" "[I", Jvm.Cond.fieldLink "NightjarModel" (34 : Nat) "NightjarModel" "slot" "[I", Jvm.Cond.fieldLink "NightjarModel" (22 : Nat) "NightjarModel" "word" "[I", Jvm.Cond.fieldLink "NightjarModel" (25 : Nat) "NightjarModel" "setting" "[I", Jvm.Cond.methodLink "NightjarModel" (105 : Nat) ({ cls := "NightjarModel", name := "tellSessions", desc := "(I)I" } : Jvm.MethodName), Jvm.Cond.code ({ cls := "NightjarModel", name := "tellSessions", desc := "(I)I" } : Jvm.MethodName) prog_9_method_19_code (5 : Nat) (Option.some Jvm.ClassFile.FieldType.int), Jvm.Cond.instanceMethod ({ cls := "NightjarModel", name := "tellSessions", desc := "(I)I" } : Jvm.MethodName), Cond.selects "NightjarModel" ⟨"NightjarModel", "tellSessions", "(I)I"⟩ ⟨"NightjarModel", "tellSessions", "(I)I"⟩, Jvm.Cond.fieldLink "Nightjar$Templates" (20 : Nat) "Nightjar$Templates" "slots" "LNightjar$Row;", Jvm.Cond.methodLink "Nightjar$Templates" (23 : Nat) ({ cls := "Nightjar$Row", name := "at", desc := "(I)I" } : Jvm.MethodName), Jvm.Cond.fieldLink "Nightjar" (12 : Nat) "Nightjar" "lines" "LNightjar$Lines;", Jvm.Cond.fieldLink "Nightjar" (71 : Nat) "Nightjar$Lines" "number" "I", Jvm.Cond.fieldLink "NightjarModel" (59 : Nat) "NightjarModel" "lines" "I", Jvm.Cond.fieldLink "NightjarModel" (73 : Nat) "NightjarModel" "learned" "I", Jvm.Cond.fieldLink "NightjarModel" (28 : Nat) "NightjarModel" "of" "[I", Jvm.Cond.methodLink "NightjarModel" (108 : Nat) ({ cls := "NightjarModel", name := "window", desc := "(I)I" } : Jvm.MethodName), Jvm.Cond.code ({ cls := "NightjarModel", name := "window", desc := "(I)I" } : Jvm.MethodName) prog_9_method_22_code (2 : Nat) (Option.some Jvm.ClassFile.FieldType.int), Jvm.Cond.instanceMethod ({ cls := "NightjarModel", name := "window", desc := "(I)I" } : Jvm.MethodName), Cond.selects "NightjarModel" ⟨"NightjarModel", "window", "(I)I"⟩ ⟨"NightjarModel", "window", "(I)I"⟩, Jvm.Cond.fieldLink "Nightjar$Scenes" (35 : Nat) "Nightjar$Scenes" "ranking" "LNightjar$Row;", Jvm.Cond.methodLink "Nightjar$Scenes" (74 : Nat) ({ cls := "Nightjar$Scenes", name := "pair", desc := "(II)I" } : Jvm.MethodName), Jvm.Cond.code ({ cls := "Nightjar$Scenes", name := "pair", desc := "(II)I" } : Jvm.MethodName) prog_4_method_4_code (2 : Nat) (Option.some Jvm.ClassFile.FieldType.int), Jvm.Cond.static ({ cls := "Nightjar$Scenes", name := "pair", desc := "(II)I" } : Jvm.MethodName), Jvm.Cond.initialized "Nightjar$Scenes", Jvm.Cond.methodLink "Nightjar$Scenes" (54 : Nat) ({ cls := "Nightjar$Row", name := "at", desc := "(I)I" } : Jvm.MethodName), Jvm.Cond.methodLink "Nightjar" (337 : Nat) ({ cls := "Nightjar$Lines", name := "findKeys", desc := "(LNightjar$Templates;)V" } : Jvm.MethodName), Jvm.Cond.code ({ cls := "Nightjar$Lines", name := "findKeys", desc := "(LNightjar$Templates;)V" } : Jvm.MethodName) prog_2_method_6_code (4 : Nat) (Option.none : Option Jvm.ClassFile.FieldType), Jvm.Cond.instanceMethod ({ cls := "Nightjar$Lines", name := "findKeys", desc := "(LNightjar$Templates;)V" } : Jvm.MethodName), Jvm.Cond.selects "Nightjar$Lines" ({ cls := "Nightjar$Lines", name := "findKeys", desc := "(LNightjar$Templates;)V" } : Jvm.MethodName) ({ cls := "Nightjar$Lines", name := "findKeys", desc := "(LNightjar$Templates;)V" } : Jvm.MethodName), Jvm.Cond.initialized "Nightjar$Lines", Jvm.Cond.fieldLink "Nightjar" (29 : Nat) "Nightjar" "sessions" "LNightjar$Sessions;", Jvm.Cond.fieldLink "Nightjar" (52 : Nat) "Nightjar" "settings" "LNightjar$Row;", Jvm.Cond.methodLink "Nightjar" (83 : Nat) ({ cls := "Nightjar$Row", name := "at", desc := "(I)I" } : Jvm.MethodName), Jvm.Cond.methodLink "Nightjar" (341 : Nat) ({ cls := "Nightjar$Sessions", name := "find", desc := "(LNightjar$Lines;I)V" } : Jvm.MethodName), Jvm.Cond.code ({ cls := "Nightjar$Sessions", name := "find", desc := "(LNightjar$Lines;I)V" } : Jvm.MethodName) prog_5_method_2_code (6 : Nat) (Option.none : Option Jvm.ClassFile.FieldType), Jvm.Cond.instanceMethod ({ cls := "Nightjar$Sessions", name := "find", desc := "(LNightjar$Lines;I)V" } : Jvm.MethodName)]
def zall_1 : List Jvm.Cond := [Jvm.Cond.selects "Nightjar$Sessions" ({ cls := "Nightjar$Sessions", name := "find", desc := "(LNightjar$Lines;I)V" } : Jvm.MethodName) ({ cls := "Nightjar$Sessions", name := "find", desc := "(LNightjar$Lines;I)V" } : Jvm.MethodName), Jvm.Cond.initialized "Nightjar$Sessions", Jvm.Cond.methodLink "Nightjar" (345 : Nat) ({ cls := "Nightjar$Sessions", name := "comparePaths", desc := "(LNightjar$Lines;)V" } : Jvm.MethodName), Jvm.Cond.code ({ cls := "Nightjar$Sessions", name := "comparePaths", desc := "(LNightjar$Lines;)V" } : Jvm.MethodName) prog_5_method_5_code (4 : Nat) (Option.none : Option Jvm.ClassFile.FieldType), Jvm.Cond.instanceMethod ({ cls := "Nightjar$Sessions", name := "comparePaths", desc := "(LNightjar$Lines;)V" } : Jvm.MethodName), Jvm.Cond.selects "Nightjar$Sessions" ({ cls := "Nightjar$Sessions", name := "comparePaths", desc := "(LNightjar$Lines;)V" } : Jvm.MethodName) ({ cls := "Nightjar$Sessions", name := "comparePaths", desc := "(LNightjar$Lines;)V" } : Jvm.MethodName), Jvm.Cond.fieldLink "Nightjar" (36 : Nat) "Nightjar" "spikes" "LNightjar$Spikes;", Jvm.Cond.methodLink "Nightjar" (349 : Nat) ({ cls := "Nightjar$Spikes", name := "find", desc := "(LNightjar$Lines;II)V" } : Jvm.MethodName), Jvm.Cond.code ({ cls := "Nightjar$Spikes", name := "find", desc := "(LNightjar$Lines;II)V" } : Jvm.MethodName) prog_6_method_2_code (6 : Nat) (Option.none : Option Jvm.ClassFile.FieldType), Jvm.Cond.instanceMethod ({ cls := "Nightjar$Spikes", name := "find", desc := "(LNightjar$Lines;II)V" } : Jvm.MethodName), Jvm.Cond.selects "Nightjar$Spikes" ({ cls := "Nightjar$Spikes", name := "find", desc := "(LNightjar$Lines;II)V" } : Jvm.MethodName) ({ cls := "Nightjar$Spikes", name := "find", desc := "(LNightjar$Lines;II)V" } : Jvm.MethodName), Jvm.Cond.initialized "Nightjar$Spikes", Jvm.Cond.fieldLink "Nightjar" (43 : Nat) "Nightjar" "scenes" "LNightjar$Scenes;", Jvm.Cond.methodLink "Nightjar" (352 : Nat) ({ cls := "Nightjar$Scenes", name := "look", desc := "(LNightjar$Lines;I)V" } : Jvm.MethodName), Jvm.Cond.code ({ cls := "Nightjar$Scenes", name := "look", desc := "(LNightjar$Lines;I)V" } : Jvm.MethodName) prog_4_method_2_code (7 : Nat) (Option.none : Option Jvm.ClassFile.FieldType), Jvm.Cond.instanceMethod ({ cls := "Nightjar$Scenes", name := "look", desc := "(LNightjar$Lines;I)V" } : Jvm.MethodName), Jvm.Cond.selects "Nightjar$Scenes" ({ cls := "Nightjar$Scenes", name := "look", desc := "(LNightjar$Lines;I)V" } : Jvm.MethodName) ({ cls := "Nightjar$Scenes", name := "look", desc := "(LNightjar$Lines;I)V" } : Jvm.MethodName), Jvm.Cond.methodLink "Nightjar" (355 : Nat) ({ cls := "Nightjar$Scenes", name := "tally", desc := "(LNightjar$Lines;I)V" } : Jvm.MethodName), Jvm.Cond.code ({ cls := "Nightjar$Scenes", name := "tally", desc := "(LNightjar$Lines;I)V" } : Jvm.MethodName) prog_4_method_5_code (6 : Nat) (Option.none : Option Jvm.ClassFile.FieldType), Jvm.Cond.instanceMethod ({ cls := "Nightjar$Scenes", name := "tally", desc := "(LNightjar$Lines;I)V" } : Jvm.MethodName), Jvm.Cond.selects "Nightjar$Scenes" ({ cls := "Nightjar$Scenes", name := "tally", desc := "(LNightjar$Lines;I)V" } : Jvm.MethodName) ({ cls := "Nightjar$Scenes", name := "tally", desc := "(LNightjar$Lines;I)V" } : Jvm.MethodName), Jvm.Cond.fieldLink "Nightjar" (101 : Nat) "Nightjar$Lines" "learned" "I", Jvm.Cond.methodLink "Nightjar" (358 : Nat) ({ cls := "Nightjar$Scenes", name := "rankCauses", desc := "(II)V" } : Jvm.MethodName), Jvm.Cond.code ({ cls := "Nightjar$Scenes", name := "rankCauses", desc := "(II)V" } : Jvm.MethodName) prog_4_method_6_code (7 : Nat) (Option.none : Option Jvm.ClassFile.FieldType), Jvm.Cond.instanceMethod ({ cls := "Nightjar$Scenes", name := "rankCauses", desc := "(II)V" } : Jvm.MethodName), Jvm.Cond.selects "Nightjar$Scenes" ({ cls := "Nightjar$Scenes", name := "rankCauses", desc := "(II)V" } : Jvm.MethodName) ({ cls := "Nightjar$Scenes", name := "rankCauses", desc := "(II)V" } : Jvm.MethodName), Jvm.Cond.fieldLink "NightjarModel" (19 : Nat) "NightjarModel" "many" "[I", Jvm.Cond.fieldLink "NightjarModel" (136 : Nat) "NightjarModel" "causes" "I", Jvm.Cond.methodLink "NightjarModel" (139 : Nat) ({ cls := "NightjarModel", name := "lastInScene", desc := "(II)I" } : Jvm.MethodName), Jvm.Cond.code ({ cls := "NightjarModel", name := "lastInScene", desc := "(II)I" } : Jvm.MethodName) prog_9_method_30_code (4 : Nat) (Option.some Jvm.ClassFile.FieldType.int), Jvm.Cond.instanceMethod ({ cls := "NightjarModel", name := "lastInScene", desc := "(II)I" } : Jvm.MethodName), Cond.selects "NightjarModel" ⟨"NightjarModel", "lastInScene", "(II)I"⟩ ⟨"NightjarModel", "lastInScene", "(II)I"⟩, Jvm.Cond.methodLink "NightjarModel" (142 : Nat) ({ cls := "NightjarModel", name := "put", desc := "(IIII)V" } : Jvm.MethodName), Jvm.Cond.code ({ cls := "NightjarModel", name := "put", desc := "(IIII)V" } : Jvm.MethodName) prog_9_method_32_code (7 : Nat) (Option.none : Option Jvm.ClassFile.FieldType), Jvm.Cond.instanceMethod ({ cls := "NightjarModel", name := "put", desc := "(IIII)V" } : Jvm.MethodName), Cond.selects "NightjarModel" ⟨"NightjarModel", "put", "(IIII)V"⟩ ⟨"NightjarModel", "put", "(IIII)V"⟩, Jvm.Cond.fieldLink "NightjarModel" (37 : Nat) "NightjarModel" "sessionOf" "[I", Jvm.Cond.fieldLink "Nightjar$Scenes" (23 : Nat) "Nightjar$Scenes" "together" "LNightjar$Row;", Jvm.Cond.fieldLink "Nightjar$Sessions" (38 : Nat) "Nightjar$Sessions" "users" "LNightjar$Row;", Jvm.Cond.fieldLink "Nightjar$Sessions" (35 : Nat) "Nightjar$Sessions" "paths" "LNightjar$Row;", Jvm.Cond.methodLink "Nightjar$Sessions" (55 : Nat) ({ cls := "Nightjar$Row", name := "at", desc := "(I)I" } : Jvm.MethodName), Jvm.Cond.methodLink "NightjarModel" (80 : Nat) ({ cls := "NightjarModel", name := "nearest", desc := "(II)I" } : Jvm.MethodName), Jvm.Cond.code ({ cls := "NightjarModel", name := "nearest", desc := "(II)I" } : Jvm.MethodName) prog_9_method_10_code (5 : Nat) (Option.some Jvm.ClassFile.FieldType.int), Jvm.Cond.instanceMethod ({ cls := "NightjarModel", name := "nearest", desc := "(II)I" } : Jvm.MethodName), Cond.selects "NightjarModel" ⟨"NightjarModel", "nearest", "(II)I"⟩ ⟨"NightjarModel", "nearest", "(II)I"⟩, Jvm.Cond.methodLink "NightjarModel" (83 : Nat) ({ cls := "NightjarModel", name := "add", desc := "(I)I" } : Jvm.MethodName), Jvm.Cond.code ({ cls := "NightjarModel", name := "add", desc := "(I)I" } : Jvm.MethodName) prog_9_method_12_code (2 : Nat) (Option.some Jvm.ClassFile.FieldType.int), Jvm.Cond.instanceMethod ({ cls := "NightjarModel", name := "add", desc := "(I)I" } : Jvm.MethodName), Cond.selects "NightjarModel" ⟨"NightjarModel", "add", "(I)I"⟩ ⟨"NightjarModel", "add", "(I)I"⟩, Jvm.Cond.fieldLink "NightjarModel" (9 : Nat) "NightjarModel" "time" "[I", Jvm.Cond.methodLink "NightjarModel" (132 : Nat) ({ cls := "NightjarModel", name := "isInScene", desc := "(II)Z" } : Jvm.MethodName), Jvm.Cond.code ({ cls := "NightjarModel", name := "isInScene", desc := "(II)Z" } : Jvm.MethodName) prog_9_method_28_code (3 : Nat) (Option.some Jvm.ClassFile.FieldType.boolean), Jvm.Cond.instanceMethod ({ cls := "NightjarModel", name := "isInScene", desc := "(II)Z" } : Jvm.MethodName), Cond.selects "NightjarModel" ⟨"NightjarModel", "isInScene", "(II)Z"⟩ ⟨"NightjarModel", "isInScene", "(II)Z"⟩, Jvm.Cond.fieldLink "Nightjar$Lines" (50 : Nat) "Nightjar$Lines" "learned" "I", Jvm.Cond.fieldLink "Nightjar$Lines" (14 : Nat) "Nightjar$Lines" "times" "LNightjar$Row;", Jvm.Cond.code ({ cls := "Nightjar", name := "quotient", desc := "(II)I" } : Jvm.MethodName) prog_1_method_34_code (2 : Nat) (Option.some Jvm.ClassFile.FieldType.int), Jvm.Cond.static ({ cls := "Nightjar", name := "quotient", desc := "(II)I" } : Jvm.MethodName), Jvm.Cond.initialized "Nightjar", Jvm.Cond.fieldLink "Nightjar$Lines" (32 : Nat) "Nightjar$Lines" "templateOf" "LNightjar$Row;"]
def zall_2 : List Jvm.Cond := [Jvm.Cond.fieldLink "Nightjar$Lines" (35 : Nat) "Nightjar$Lines" "keys" "LNightjar$Row;", Jvm.Cond.fieldLink "Nightjar$Lines" (20 : Nat) "Nightjar$Lines" "sources" "LNightjar$Row;", Jvm.Cond.fieldLink "Nightjar$Scenes" (26 : Nat) "Nightjar$Scenes" "all" "LNightjar$Row;", Jvm.Cond.methodLink "Nightjar$Scenes" (78 : Nat) ({ cls := "Nightjar$Scenes", name := "hits", desc := "(II)I" } : Jvm.MethodName), Jvm.Cond.code ({ cls := "Nightjar$Scenes", name := "hits", desc := "(II)I" } : Jvm.MethodName) prog_4_method_9_code (3 : Nat) (Option.some Jvm.ClassFile.FieldType.int), Jvm.Cond.instanceMethod ({ cls := "Nightjar$Scenes", name := "hits", desc := "(II)I" } : Jvm.MethodName), Jvm.Cond.selects "Nightjar$Scenes" ({ cls := "Nightjar$Scenes", name := "hits", desc := "(II)I" } : Jvm.MethodName) ({ cls := "Nightjar$Scenes", name := "hits", desc := "(II)I" } : Jvm.MethodName), Jvm.Cond.fieldLink "Nightjar$Scenes" (32 : Nat) "Nightjar$Scenes" "scores" "LNightjar$Row;", Jvm.Cond.methodLink "Nightjar$Templates" (3 : Nat) ({ cls := "java/lang/Object", name := "<init>", desc := "()V" } : Jvm.MethodName), Jvm.Cond.classLink "Nightjar$Templates" (9 : Nat) "Nightjar$Row", Jvm.Cond.instantiable "Nightjar$Row" (1 : Nat), Jvm.Cond.methodLink "Nightjar$Templates" (11 : Nat) ({ cls := "Nightjar$Row", name := "<init>", desc := "(I)V" } : Jvm.MethodName), Jvm.Cond.code ({ cls := "Nightjar$Row", name := "<init>", desc := "(I)V" } : Jvm.MethodName) prog_3_method_1_code (2 : Nat) (Option.none : Option Jvm.ClassFile.FieldType), Jvm.Cond.instanceMethod ({ cls := "Nightjar$Row", name := "<init>", desc := "(I)V" } : Jvm.MethodName), Jvm.Cond.fieldLink "Nightjar$Templates" (14 : Nat) "Nightjar$Templates" "sizes" "LNightjar$Row;", Jvm.Cond.methodLink "Nightjar$Templates" (27 : Nat) ({ cls := "Nightjar$Templates", name := "slotIn", desc := "(II)I" } : Jvm.MethodName), Jvm.Cond.code ({ cls := "Nightjar$Templates", name := "slotIn", desc := "(II)I" } : Jvm.MethodName) prog_7_method_2_code (3 : Nat) (Option.some Jvm.ClassFile.FieldType.int), Jvm.Cond.instanceMethod ({ cls := "Nightjar$Templates", name := "slotIn", desc := "(II)I" } : Jvm.MethodName), Jvm.Cond.selects "Nightjar$Templates" ({ cls := "Nightjar$Templates", name := "slotIn", desc := "(II)I" } : Jvm.MethodName) ({ cls := "Nightjar$Templates", name := "slotIn", desc := "(II)I" } : Jvm.MethodName), Jvm.Cond.initialized "Nightjar$Templates", Jvm.Cond.fieldLink "Nightjar$Templates" (31 : Nat) "Nightjar$Lines" "sizes" "LNightjar$Row;", Jvm.Cond.methodLink "Nightjar$Templates" (34 : Nat) ({ cls := "Nightjar$Lines", name := "wordIn", desc := "(II)I" } : Jvm.MethodName), Jvm.Cond.code ({ cls := "Nightjar$Lines", name := "wordIn", desc := "(II)I" } : Jvm.MethodName) prog_2_method_5_code (3 : Nat) (Option.some Jvm.ClassFile.FieldType.int), Jvm.Cond.instanceMethod ({ cls := "Nightjar$Lines", name := "wordIn", desc := "(II)I" } : Jvm.MethodName), Jvm.Cond.selects "Nightjar$Lines" ({ cls := "Nightjar$Lines", name := "wordIn", desc := "(II)I" } : Jvm.MethodName) ({ cls := "Nightjar$Lines", name := "wordIn", desc := "(II)I" } : Jvm.MethodName), Jvm.Cond.fieldLink "Nightjar$Templates" (37 : Nat) "Nightjar$Templates" "number" "I", Jvm.Cond.methodLink "Nightjar$Templates" (41 : Nat) ({ cls := "Nightjar$Templates", name := "likeness", desc := "(LNightjar$Lines;II)I" } : Jvm.MethodName), Jvm.Cond.code ({ cls := "Nightjar$Templates", name := "likeness", desc := "(LNightjar$Lines;II)I" } : Jvm.MethodName) prog_7_method_5_code (7 : Nat) (Option.some Jvm.ClassFile.FieldType.int), Jvm.Cond.instanceMethod ({ cls := "Nightjar$Templates", name := "likeness", desc := "(LNightjar$Lines;II)I" } : Jvm.MethodName), Jvm.Cond.selects "Nightjar$Templates" ({ cls := "Nightjar$Templates", name := "likeness", desc := "(LNightjar$Lines;II)I" } : Jvm.MethodName) ({ cls := "Nightjar$Templates", name := "likeness", desc := "(LNightjar$Lines;II)I" } : Jvm.MethodName), Jvm.Cond.methodLink "Nightjar$Templates" (45 : Nat) ({ cls := "Nightjar$Templates", name := "choose", desc := "(LNightjar$Lines;II)I" } : Jvm.MethodName), Jvm.Cond.code ({ cls := "Nightjar$Templates", name := "choose", desc := "(LNightjar$Lines;II)I" } : Jvm.MethodName) prog_7_method_6_code (8 : Nat) (Option.some Jvm.ClassFile.FieldType.int), Jvm.Cond.instanceMethod ({ cls := "Nightjar$Templates", name := "choose", desc := "(LNightjar$Lines;II)I" } : Jvm.MethodName), Jvm.Cond.selects "Nightjar$Templates" ({ cls := "Nightjar$Templates", name := "choose", desc := "(LNightjar$Lines;II)I" } : Jvm.MethodName) ({ cls := "Nightjar$Templates", name := "choose", desc := "(LNightjar$Lines;II)I" } : Jvm.MethodName), Jvm.Cond.methodLink "Nightjar$Templates" (48 : Nat) ({ cls := "Nightjar$Templates", name := "copy", desc := "(LNightjar$Lines;I)V" } : Jvm.MethodName), Jvm.Cond.code ({ cls := "Nightjar$Templates", name := "copy", desc := "(LNightjar$Lines;I)V" } : Jvm.MethodName) prog_7_method_8_code (5 : Nat) (Option.none : Option Jvm.ClassFile.FieldType), Jvm.Cond.instanceMethod ({ cls := "Nightjar$Templates", name := "copy", desc := "(LNightjar$Lines;I)V" } : Jvm.MethodName), Cond.selects "Nightjar$Templates" ⟨"Nightjar$Templates", "copy", "(LNightjar$Lines;I)V"⟩ ⟨"Nightjar$Templates", "copy", "(LNightjar$Lines;I)V"⟩, Jvm.Cond.methodLink "Nightjar$Templates" (52 : Nat) ({ cls := "Nightjar$Templates", name := "widen", desc := "(LNightjar$Lines;II)V" } : Jvm.MethodName), Jvm.Cond.code ({ cls := "Nightjar$Templates", name := "widen", desc := "(LNightjar$Lines;II)V" } : Jvm.MethodName) prog_7_method_9_code (5 : Nat) (Option.none : Option Jvm.ClassFile.FieldType), Jvm.Cond.instanceMethod ({ cls := "Nightjar$Templates", name := "widen", desc := "(LNightjar$Lines;II)V" } : Jvm.MethodName), Cond.selects "Nightjar$Templates" ⟨"Nightjar$Templates", "widen", "(LNightjar$Lines;II)V"⟩ ⟨"Nightjar$Templates", "widen", "(LNightjar$Lines;II)V"⟩, Jvm.Cond.fieldLink "Nightjar" (129 : Nat) "Nightjar$Sessions" "number" "I", Jvm.Cond.fieldLink "NightjarModel" (99 : Nat) "NightjarModel" "sessions" "I", Jvm.Cond.methodLink "NightjarModel" (102 : Nat) ({ cls := "NightjarModel", name := "key", desc := "(I)I" } : Jvm.MethodName), Jvm.Cond.code ({ cls := "NightjarModel", name := "key", desc := "(I)I" } : Jvm.MethodName) prog_9_method_18_code (4 : Nat) (Option.some Jvm.ClassFile.FieldType.int), Jvm.Cond.instanceMethod ({ cls := "NightjarModel", name := "key", desc := "(I)I" } : Jvm.MethodName), Cond.selects "NightjarModel" ⟨"NightjarModel", "key", "(I)I"⟩ ⟨"NightjarModel", "key", "(I)I"⟩, Jvm.Cond.fieldLink "NightjarModel" (40 : Nat) "NightjarModel" "first" "[I", Jvm.Cond.fieldLink "NightjarModel" (43 : Nat) "NightjarModel" "last" "[I", Jvm.Cond.fieldLink "NightjarModel" (111 : Nat) "NightjarModel" "spikes" "I", Jvm.Cond.methodLink "NightjarModel" (114 : Nat) ({ cls := "NightjarModel", name := "countNow", desc := "(II)I" } : Jvm.MethodName), Jvm.Cond.code ({ cls := "NightjarModel", name := "countNow", desc := "(II)I" } : Jvm.MethodName) prog_9_method_23_code (5 : Nat) (Option.some Jvm.ClassFile.FieldType.int), Jvm.Cond.instanceMethod ({ cls := "NightjarModel", name := "countNow", desc := "(II)I" } : Jvm.MethodName), Cond.selects "NightjarModel" ⟨"NightjarModel", "countNow", "(II)I"⟩ ⟨"NightjarModel", "countNow", "(II)I"⟩, Jvm.Cond.fieldLink "NightjarModel" (46 : Nat) "NightjarModel" "spikeWindow" "[I", Jvm.Cond.fieldLink "NightjarModel" (49 : Nat) "NightjarModel" "spikeTemplate" "[I", Jvm.Cond.methodLink "NightjarModel" (117 : Nat) ({ cls := "NightjarModel", name := "isBroken", desc := "(I)Z" } : Jvm.MethodName), Jvm.Cond.code ({ cls := "NightjarModel", name := "isBroken", desc := "(I)Z" } : Jvm.MethodName) prog_9_method_21_code (3 : Nat) (Option.some Jvm.ClassFile.FieldType.boolean), Jvm.Cond.instanceMethod ({ cls := "NightjarModel", name := "isBroken", desc := "(I)Z" } : Jvm.MethodName)]
def zall_3 : List Jvm.Cond := [Cond.selects "NightjarModel" ⟨"NightjarModel", "isBroken", "(I)Z"⟩ ⟨"NightjarModel", "isBroken", "(I)Z"⟩, Jvm.Cond.methodLink "NightjarModel" (121 : Nat) ({ cls := "NightjarModel", name := "tellSessions", desc := "()V" } : Jvm.MethodName), Jvm.Cond.code ({ cls := "NightjarModel", name := "tellSessions", desc := "()V" } : Jvm.MethodName) prog_9_method_20_code (1 : Nat) (Option.none : Option Jvm.ClassFile.FieldType), Jvm.Cond.instanceMethod ({ cls := "NightjarModel", name := "tellSessions", desc := "()V" } : Jvm.MethodName), Cond.selects "NightjarModel" ⟨"NightjarModel", "tellSessions", "()V"⟩ ⟨"NightjarModel", "tellSessions", "()V"⟩, Jvm.Cond.methodLink "NightjarModel" (123 : Nat) ({ cls := "NightjarModel", name := "tellSpikes", desc := "()V" } : Jvm.MethodName), Jvm.Cond.code ({ cls := "NightjarModel", name := "tellSpikes", desc := "()V" } : Jvm.MethodName) prog_9_method_24_code (7 : Nat) (Option.none : Option Jvm.ClassFile.FieldType), Jvm.Cond.instanceMethod ({ cls := "NightjarModel", name := "tellSpikes", desc := "()V" } : Jvm.MethodName), Cond.selects "NightjarModel" ⟨"NightjarModel", "tellSpikes", "()V"⟩ ⟨"NightjarModel", "tellSpikes", "()V"⟩, Jvm.Cond.fieldLink "NightjarModel" (13 : Nat) "NightjarModel" "source" "[I", Jvm.Cond.methodLink "NightjarModel" (146 : Nat) ({ cls := "NightjarModel", name := "tellCauses", desc := "(I)V" } : Jvm.MethodName), Jvm.Cond.code ({ cls := "NightjarModel", name := "tellCauses", desc := "(I)V" } : Jvm.MethodName) prog_9_method_31_code (7 : Nat) (Option.none : Option Jvm.ClassFile.FieldType), Jvm.Cond.instanceMethod ({ cls := "NightjarModel", name := "tellCauses", desc := "(I)V" } : Jvm.MethodName), Cond.selects "NightjarModel" ⟨"NightjarModel", "tellCauses", "(I)V"⟩ ⟨"NightjarModel", "tellCauses", "(I)V"⟩, Jvm.Cond.fieldLink "NightjarModel" (52 : Nat) "NightjarModel" "cause" "[I", Jvm.Cond.fieldLink "NightjarModel" (16 : Nat) "NightjarModel" "level" "[I", Jvm.Cond.methodLink "NightjarModel" (150 : Nat) ({ cls := "NightjarModel", name := "sceneNow", desc := "(I)I" } : Jvm.MethodName), Jvm.Cond.code ({ cls := "NightjarModel", name := "sceneNow", desc := "(I)I" } : Jvm.MethodName) prog_9_method_29_code (4 : Nat) (Option.some Jvm.ClassFile.FieldType.int), Jvm.Cond.instanceMethod ({ cls := "NightjarModel", name := "sceneNow", desc := "(I)I" } : Jvm.MethodName), Cond.selects "NightjarModel" ⟨"NightjarModel", "sceneNow", "(I)I"⟩ ⟨"NightjarModel", "sceneNow", "(I)I"⟩, Jvm.Cond.methodLink "NightjarModel" (159 : Nat) ({ cls := "NightjarModel", name := "holes", desc := "(I)I" } : Jvm.MethodName), Jvm.Cond.code ({ cls := "NightjarModel", name := "holes", desc := "(I)I" } : Jvm.MethodName) prog_9_method_13_code (4 : Nat) (Option.some Jvm.ClassFile.FieldType.int), Jvm.Cond.instanceMethod ({ cls := "NightjarModel", name := "holes", desc := "(I)I" } : Jvm.MethodName), Cond.selects "NightjarModel" ⟨"NightjarModel", "holes", "(I)I"⟩ ⟨"NightjarModel", "holes", "(I)I"⟩, Jvm.Cond.methodLink "NightjarModel" (162 : Nat) ({ cls := "java/lang/Math", name := "max", desc := "(II)I" } : Jvm.MethodName), Jvm.Cond.static ({ cls := "java/lang/Math", name := "max", desc := "(II)I" } : Jvm.MethodName), Jvm.Cond.initialized "java/lang/Math", Jvm.Cond.code ({ cls := "java/lang/Math", name := "max", desc := "(II)I" } : Jvm.MethodName) prog_15_method_65_code (2 : Nat) (Option.some Jvm.ClassFile.FieldType.int), Jvm.Cond.methodLink "NightjarModel" (173 : Nat) ({ cls := "NightjarModel", name := "placeOf", desc := "(II)I" } : Jvm.MethodName), Jvm.Cond.code ({ cls := "NightjarModel", name := "placeOf", desc := "(II)I" } : Jvm.MethodName) prog_9_method_40_code (5 : Nat) (Option.some Jvm.ClassFile.FieldType.int), Jvm.Cond.instanceMethod ({ cls := "NightjarModel", name := "placeOf", desc := "(II)I" } : Jvm.MethodName), Cond.selects "NightjarModel" ⟨"NightjarModel", "placeOf", "(II)I"⟩ ⟨"NightjarModel", "placeOf", "(II)I"⟩, Jvm.Cond.arrayClass Jvm.ClassFile.FieldType.boolean, Jvm.Cond.methodLink "NightjarModel" (182 : Nat) ({ cls := "NightjarModel", name := "haveOnePath", desc := "(II)Z" } : Jvm.MethodName), Jvm.Cond.code ({ cls := "NightjarModel", name := "haveOnePath", desc := "(II)Z" } : Jvm.MethodName) prog_9_method_44_code (5 : Nat) (Option.some Jvm.ClassFile.FieldType.boolean), Jvm.Cond.instanceMethod ({ cls := "NightjarModel", name := "haveOnePath", desc := "(II)Z" } : Jvm.MethodName), Cond.selects "NightjarModel" ⟨"NightjarModel", "haveOnePath", "(II)Z"⟩ ⟨"NightjarModel", "haveOnePath", "(II)Z"⟩, Jvm.Cond.methodLink "NightjarModel" (185 : Nat) ({ cls := "NightjarModel", name := "paths", desc := "(I)I" } : Jvm.MethodName), Jvm.Cond.code ({ cls := "NightjarModel", name := "paths", desc := "(I)I" } : Jvm.MethodName) prog_9_method_46_code (4 : Nat) (Option.some Jvm.ClassFile.FieldType.int), Jvm.Cond.instanceMethod ({ cls := "NightjarModel", name := "paths", desc := "(I)I" } : Jvm.MethodName), Cond.selects "NightjarModel" ⟨"NightjarModel", "paths", "(I)I"⟩ ⟨"NightjarModel", "paths", "(I)I"⟩, Jvm.Cond.classLink "NightjarModel" (201 : Nat) "[I", Jvm.Cond.methodLink "NightjarModel" (86 : Nat) ({ cls := "java/lang/System", name := "arraycopy", desc := "(Ljava/lang/Object;ILjava/lang/Object;II)V" } : Jvm.MethodName), Jvm.Cond.native ({ cls := "java/lang/System", name := "arraycopy", desc := "(Ljava/lang/Object;ILjava/lang/Object;II)V" } : Jvm.MethodName), Jvm.Cond.static ({ cls := "java/lang/System", name := "arraycopy", desc := "(Ljava/lang/Object;ILjava/lang/Object;II)V" } : Jvm.MethodName), Jvm.Cond.initialized "java/lang/System", Jvm.Cond.methodLink "Nightjar$Lines" (3 : Nat) ({ cls := "java/lang/Object", name := "<init>", desc := "()V" } : Jvm.MethodName), Jvm.Cond.classLink "Nightjar$Lines" (9 : Nat) "Nightjar$Row", Jvm.Cond.methodLink "Nightjar$Lines" (11 : Nat) ({ cls := "Nightjar$Row", name := "<init>", desc := "(I)V" } : Jvm.MethodName), Jvm.Cond.fieldLink "Nightjar$Lines" (23 : Nat) "Nightjar$Lines" "levels" "LNightjar$Row;", Jvm.Cond.fieldLink "Nightjar$Lines" (26 : Nat) "Nightjar$Lines" "sizes" "LNightjar$Row;", Jvm.Cond.fieldLink "Nightjar$Lines" (38 : Nat) "Nightjar$Lines" "number" "I", Jvm.Cond.methodLink "Nightjar$Lines" (42 : Nat) ({ cls := "Nightjar$Row", name := "put", desc := "(II)V" } : Jvm.MethodName), Jvm.Cond.code ({ cls := "Nightjar$Row", name := "put", desc := "(II)V" } : Jvm.MethodName) prog_3_method_3_code (3 : Nat) (Option.none : Option Jvm.ClassFile.FieldType), Jvm.Cond.instanceMethod ({ cls := "Nightjar$Row", name := "put", desc := "(II)V" } : Jvm.MethodName), Jvm.Cond.selects "Nightjar$Row" ({ cls := "Nightjar$Row", name := "put", desc := "(II)V" } : Jvm.MethodName) ({ cls := "Nightjar$Row", name := "put", desc := "(II)V" } : Jvm.MethodName), Jvm.Cond.methodLink "Nightjar$Lines" (53 : Nat) ({ cls := "Nightjar$Templates", name := "placeOfHole", desc := "(II)I" } : Jvm.MethodName), Jvm.Cond.code ({ cls := "Nightjar$Templates", name := "placeOfHole", desc := "(II)I" } : Jvm.MethodName) prog_7_method_4_code (5 : Nat) (Option.some Jvm.ClassFile.FieldType.int), Jvm.Cond.instanceMethod ({ cls := "Nightjar$Templates", name := "placeOfHole", desc := "(II)I" } : Jvm.MethodName), Jvm.Cond.selects "Nightjar$Templates" ({ cls := "Nightjar$Templates", name := "placeOfHole", desc := "(II)I" } : Jvm.MethodName) ({ cls := "Nightjar$Templates", name := "placeOfHole", desc := "(II)I" } : Jvm.MethodName)]
def zall_4 : List Jvm.Cond := [Jvm.Cond.methodLink "Nightjar$Lines" (59 : Nat) ({ cls := "Nightjar$Lines", name := "wordIn", desc := "(II)I" } : Jvm.MethodName), Jvm.Cond.methodLink "Nightjar$Lines" (62 : Nat) ({ cls := "Nightjar$Lines", name := "isNewWord", desc := "(II)Z" } : Jvm.MethodName), Jvm.Cond.code ({ cls := "Nightjar$Lines", name := "isNewWord", desc := "(II)Z" } : Jvm.MethodName) prog_2_method_11_code (4 : Nat) (Option.some Jvm.ClassFile.FieldType.boolean), Jvm.Cond.instanceMethod ({ cls := "Nightjar$Lines", name := "isNewWord", desc := "(II)Z" } : Jvm.MethodName), Cond.selects "Nightjar$Lines" ⟨"Nightjar$Lines", "isNewWord", "(II)Z"⟩ ⟨"Nightjar$Lines", "isNewWord", "(II)Z"⟩, Jvm.Cond.methodLink "Nightjar$Scenes" (3 : Nat) ({ cls := "java/lang/Object", name := "<init>", desc := "()V" } : Jvm.MethodName), Jvm.Cond.classLink "Nightjar$Scenes" (9 : Nat) "Nightjar$Row", Jvm.Cond.methodLink "Nightjar$Scenes" (11 : Nat) ({ cls := "Nightjar$Row", name := "<init>", desc := "(I)V" } : Jvm.MethodName), Jvm.Cond.fieldLink "Nightjar$Scenes" (14 : Nat) "Nightjar$Scenes" "sizes" "LNightjar$Row;", Jvm.Cond.fieldLink "Nightjar$Scenes" (20 : Nat) "Nightjar$Scenes" "masks" "LNightjar$Row;", Jvm.Cond.fieldLink "Nightjar$Scenes" (29 : Nat) "Nightjar$Scenes" "lineNumbers" "LNightjar$Row;", Jvm.Cond.fieldLink "Nightjar$Scenes" (38 : Nat) "Nightjar$Scenes" "causeNumbers" "LNightjar$Row;", Jvm.Cond.fieldLink "Nightjar$Scenes" (41 : Nat) "Nightjar$Lines" "number" "I", Jvm.Cond.methodLink "Nightjar$Scenes" (47 : Nat) ({ cls := "Nightjar$Lines", name := "isInScene", desc := "(III)Z" } : Jvm.MethodName), Jvm.Cond.code ({ cls := "Nightjar$Lines", name := "isInScene", desc := "(III)Z" } : Jvm.MethodName) prog_2_method_14_code (5 : Nat) (Option.some Jvm.ClassFile.FieldType.boolean), Jvm.Cond.instanceMethod ({ cls := "Nightjar$Lines", name := "isInScene", desc := "(III)Z" } : Jvm.MethodName), Jvm.Cond.selects "Nightjar$Lines" ({ cls := "Nightjar$Lines", name := "isInScene", desc := "(III)Z" } : Jvm.MethodName) ({ cls := "Nightjar$Lines", name := "isInScene", desc := "(III)Z" } : Jvm.MethodName), Jvm.Cond.fieldLink "Nightjar$Scenes" (51 : Nat) "Nightjar$Lines" "templateOf" "LNightjar$Row;", Jvm.Cond.methodLink "Nightjar$Scenes" (58 : Nat) ({ cls := "Nightjar$Scenes", name := "bitOf", desc := "(I)I" } : Jvm.MethodName), Jvm.Cond.code ({ cls := "Nightjar$Scenes", name := "bitOf", desc := "(I)I" } : Jvm.MethodName) prog_4_method_3_code (1 : Nat) (Option.some Jvm.ClassFile.FieldType.int), Jvm.Cond.static ({ cls := "Nightjar$Scenes", name := "bitOf", desc := "(I)I" } : Jvm.MethodName), Jvm.Cond.methodLink "Nightjar$Scenes" (61 : Nat) ({ cls := "Nightjar$Row", name := "put", desc := "(II)V" } : Jvm.MethodName), Jvm.Cond.methodLink "Nightjar$Scenes" (65 : Nat) ({ cls := "Nightjar$Row", name := "clear", desc := "()V" } : Jvm.MethodName), Jvm.Cond.code ({ cls := "Nightjar$Row", name := "clear", desc := "()V" } : Jvm.MethodName) prog_3_method_5_code (2 : Nat) (Option.none : Option Jvm.ClassFile.FieldType), Jvm.Cond.instanceMethod ({ cls := "Nightjar$Row", name := "clear", desc := "()V" } : Jvm.MethodName), Jvm.Cond.selects "Nightjar$Row" ({ cls := "Nightjar$Row", name := "clear", desc := "()V" } : Jvm.MethodName) ({ cls := "Nightjar$Row", name := "clear", desc := "()V" } : Jvm.MethodName), Jvm.Cond.fieldLink "Nightjar$Scenes" (68 : Nat) "Nightjar$Lines" "learned" "I", Jvm.Cond.methodLink "Nightjar$Scenes" (71 : Nat) ({ cls := "Nightjar$Row", name := "increase", desc := "(I)V" } : Jvm.MethodName), Jvm.Cond.code ({ cls := "Nightjar$Row", name := "increase", desc := "(I)V" } : Jvm.MethodName) prog_3_method_4_code (2 : Nat) (Option.none : Option Jvm.ClassFile.FieldType), Jvm.Cond.instanceMethod ({ cls := "Nightjar$Row", name := "increase", desc := "(I)V" } : Jvm.MethodName), Jvm.Cond.selects "Nightjar$Row" ({ cls := "Nightjar$Row", name := "increase", desc := "(I)V" } : Jvm.MethodName) ({ cls := "Nightjar$Row", name := "increase", desc := "(I)V" } : Jvm.MethodName), Jvm.Cond.methodLink "Nightjar$Scenes" (84 : Nat) ({ cls := "Nightjar$Scenes", name := "rest", desc := "(II)I" } : Jvm.MethodName), Jvm.Cond.code ({ cls := "Nightjar$Scenes", name := "rest", desc := "(II)I" } : Jvm.MethodName) prog_4_method_10_code (3 : Nat) (Option.some Jvm.ClassFile.FieldType.int), Jvm.Cond.instanceMethod ({ cls := "Nightjar$Scenes", name := "rest", desc := "(II)I" } : Jvm.MethodName), Jvm.Cond.selects "Nightjar$Scenes" ({ cls := "Nightjar$Scenes", name := "rest", desc := "(II)I" } : Jvm.MethodName) ({ cls := "Nightjar$Scenes", name := "rest", desc := "(II)I" } : Jvm.MethodName), Jvm.Cond.methodLink "Nightjar$Scenes" (87 : Nat) ({ cls := "Nightjar$Scenes", name := "enter", desc := "(III)V" } : Jvm.MethodName), Jvm.Cond.code ({ cls := "Nightjar$Scenes", name := "enter", desc := "(III)V" } : Jvm.MethodName) prog_4_method_7_code (5 : Nat) (Option.none : Option Jvm.ClassFile.FieldType), Jvm.Cond.instanceMethod ({ cls := "Nightjar$Scenes", name := "enter", desc := "(III)V" } : Jvm.MethodName), Cond.selects "Nightjar$Scenes" ⟨"Nightjar$Scenes", "enter", "(III)V"⟩ ⟨"Nightjar$Scenes", "enter", "(III)V"⟩, Jvm.Cond.methodLink "Nightjar$Scenes" (91 : Nat) ({ cls := "Nightjar$Scenes", name := "causeOf", desc := "(II)I" } : Jvm.MethodName), Jvm.Cond.code ({ cls := "Nightjar$Scenes", name := "causeOf", desc := "(II)I" } : Jvm.MethodName) prog_4_method_8_code (3 : Nat) (Option.some Jvm.ClassFile.FieldType.int), Jvm.Cond.instanceMethod ({ cls := "Nightjar$Scenes", name := "causeOf", desc := "(II)I" } : Jvm.MethodName), Jvm.Cond.selects "Nightjar$Scenes" ({ cls := "Nightjar$Scenes", name := "causeOf", desc := "(II)I" } : Jvm.MethodName) ({ cls := "Nightjar$Scenes", name := "causeOf", desc := "(II)I" } : Jvm.MethodName), Jvm.Cond.methodLink "Nightjar$Scenes" (94 : Nat) ({ cls := "Nightjar$Scenes", name := "score", desc := "(II)I" } : Jvm.MethodName), Jvm.Cond.code ({ cls := "Nightjar$Scenes", name := "score", desc := "(II)I" } : Jvm.MethodName) prog_4_method_11_code (3 : Nat) (Option.some Jvm.ClassFile.FieldType.int), Jvm.Cond.instanceMethod ({ cls := "Nightjar$Scenes", name := "score", desc := "(II)I" } : Jvm.MethodName), Jvm.Cond.selects "Nightjar$Scenes" ({ cls := "Nightjar$Scenes", name := "score", desc := "(II)I" } : Jvm.MethodName) ({ cls := "Nightjar$Scenes", name := "score", desc := "(II)I" } : Jvm.MethodName), Jvm.Cond.methodLink "Nightjar$Scenes" (97 : Nat) ({ cls := "Nightjar$Scenes", name := "lastInScene", desc := "(LNightjar$Lines;III)I" } : Jvm.MethodName), Jvm.Cond.code ({ cls := "Nightjar$Scenes", name := "lastInScene", desc := "(LNightjar$Lines;III)I" } : Jvm.MethodName) prog_4_method_13_code (5 : Nat) (Option.some Jvm.ClassFile.FieldType.int), Jvm.Cond.static ({ cls := "Nightjar$Scenes", name := "lastInScene", desc := "(LNightjar$Lines;III)I" } : Jvm.MethodName), Jvm.Cond.methodLink "Nightjar$Sessions" (3 : Nat) ({ cls := "java/lang/Object", name := "<init>", desc := "()V" } : Jvm.MethodName), Jvm.Cond.classLink "Nightjar$Sessions" (9 : Nat) "Nightjar$Row", Jvm.Cond.methodLink "Nightjar$Sessions" (11 : Nat) ({ cls := "Nightjar$Row", name := "<init>", desc := "(I)V" } : Jvm.MethodName), Jvm.Cond.fieldLink "Nightjar$Sessions" (14 : Nat) "Nightjar$Sessions" "sessionOf" "LNightjar$Row;", Jvm.Cond.fieldLink "Nightjar$Sessions" (20 : Nat) "Nightjar$Sessions" "nexts" "LNightjar$Row;", Jvm.Cond.fieldLink "Nightjar$Sessions" (23 : Nat) "Nightjar$Sessions" "firsts" "LNightjar$Row;", Jvm.Cond.fieldLink "Nightjar$Sessions" (26 : Nat) "Nightjar$Sessions" "lasts" "LNightjar$Row;", Jvm.Cond.fieldLink "Nightjar$Sessions" (29 : Nat) "Nightjar$Sessions" "sizes" "LNightjar$Row;", Jvm.Cond.fieldLink "Nightjar$Sessions" (32 : Nat) "Nightjar$Sessions" "worst" "LNightjar$Row;", Jvm.Cond.fieldLink "Nightjar$Sessions" (41 : Nat) "Nightjar$Sessions" "number" "I"]
def zall_5 : List Jvm.Cond := [Jvm.Cond.fieldLink "Nightjar$Sessions" (45 : Nat) "Nightjar$Lines" "number" "I", Jvm.Cond.methodLink "Nightjar$Sessions" (48 : Nat) ({ cls := "Nightjar$Row", name := "put", desc := "(II)V" } : Jvm.MethodName), Jvm.Cond.fieldLink "Nightjar$Sessions" (52 : Nat) "Nightjar$Lines" "keys" "LNightjar$Row;", Jvm.Cond.methodLink "Nightjar$Sessions" (59 : Nat) ({ cls := "Nightjar$Lines", name := "joined", desc := "(II)I" } : Jvm.MethodName), Jvm.Cond.code ({ cls := "Nightjar$Lines", name := "joined", desc := "(II)I" } : Jvm.MethodName) prog_2_method_13_code (4 : Nat) (Option.some Jvm.ClassFile.FieldType.int), Jvm.Cond.instanceMethod ({ cls := "Nightjar$Lines", name := "joined", desc := "(II)I" } : Jvm.MethodName), Jvm.Cond.selects "Nightjar$Lines" ({ cls := "Nightjar$Lines", name := "joined", desc := "(II)I" } : Jvm.MethodName) ({ cls := "Nightjar$Lines", name := "joined", desc := "(II)I" } : Jvm.MethodName), Jvm.Cond.methodLink "Nightjar$Sessions" (63 : Nat) ({ cls := "Nightjar$Sessions", name := "begin", desc := "(I)I" } : Jvm.MethodName), Jvm.Cond.code ({ cls := "Nightjar$Sessions", name := "begin", desc := "(I)I" } : Jvm.MethodName) prog_5_method_3_code (3 : Nat) (Option.some Jvm.ClassFile.FieldType.int), Jvm.Cond.instanceMethod ({ cls := "Nightjar$Sessions", name := "begin", desc := "(I)I" } : Jvm.MethodName), Cond.selects "Nightjar$Sessions" ⟨"Nightjar$Sessions", "begin", "(I)I"⟩ ⟨"Nightjar$Sessions", "begin", "(I)I"⟩, Jvm.Cond.methodLink "Nightjar$Sessions" (66 : Nat) ({ cls := "Nightjar$Sessions", name := "goOn", desc := "(II)I" } : Jvm.MethodName), Jvm.Cond.code ({ cls := "Nightjar$Sessions", name := "goOn", desc := "(II)I" } : Jvm.MethodName) prog_5_method_4_code (3 : Nat) (Option.some Jvm.ClassFile.FieldType.int), Jvm.Cond.instanceMethod ({ cls := "Nightjar$Sessions", name := "goOn", desc := "(II)I" } : Jvm.MethodName), Cond.selects "Nightjar$Sessions" ⟨"Nightjar$Sessions", "goOn", "(II)I"⟩ ⟨"Nightjar$Sessions", "goOn", "(II)I"⟩, Jvm.Cond.methodLink "Nightjar$Sessions" (69 : Nat) ({ cls := "Nightjar$Row", name := "increase", desc := "(I)V" } : Jvm.MethodName), Jvm.Cond.fieldLink "Nightjar$Sessions" (72 : Nat) "Nightjar$Lines" "levels" "LNightjar$Row;", Jvm.Cond.methodLink "Nightjar$Sessions" (75 : Nat) ({ cls := "Nightjar$Row", name := "clear", desc := "()V" } : Jvm.MethodName), Jvm.Cond.methodLink "Nightjar$Sessions" (78 : Nat) ({ cls := "Nightjar$Sessions", name := "isSamePath", desc := "(LNightjar$Lines;II)Z" } : Jvm.MethodName), Jvm.Cond.code ({ cls := "Nightjar$Sessions", name := "isSamePath", desc := "(LNightjar$Lines;II)Z" } : Jvm.MethodName) prog_5_method_6_code (7 : Nat) (Option.some Jvm.ClassFile.FieldType.boolean), Jvm.Cond.instanceMethod ({ cls := "Nightjar$Sessions", name := "isSamePath", desc := "(LNightjar$Lines;II)Z" } : Jvm.MethodName), Cond.selects "Nightjar$Sessions" ⟨"Nightjar$Sessions", "isSamePath", "(LNightjar$Lines;II)Z"⟩ ⟨"Nightjar$Sessions", "isSamePath", "(LNightjar$Lines;II)Z"⟩, Jvm.Cond.fieldLink "Nightjar$Sessions" (82 : Nat) "Nightjar$Lines" "templateOf" "LNightjar$Row;", Jvm.Cond.methodLink "Nightjar$Sessions" (85 : Nat) ({ cls := "java/lang/Integer", name := "bitCount", desc := "(I)I" } : Jvm.MethodName), Jvm.Cond.code ({ cls := "java/lang/Integer", name := "bitCount", desc := "(I)I" } : Jvm.MethodName) prog_14_method_49_code (1 : Nat) (Option.some Jvm.ClassFile.FieldType.int), Jvm.Cond.static ({ cls := "java/lang/Integer", name := "bitCount", desc := "(I)I" } : Jvm.MethodName), Jvm.Cond.initialized "java/lang/Integer", Jvm.Cond.methodLink "Nightjar$Sessions" (90 : Nat) ({ cls := "Nightjar$Sessions", name := "howManyAlike", desc := "(I)I" } : Jvm.MethodName), Jvm.Cond.code ({ cls := "Nightjar$Sessions", name := "howManyAlike", desc := "(I)I" } : Jvm.MethodName) prog_5_method_11_code (2 : Nat) (Option.some Jvm.ClassFile.FieldType.int), Jvm.Cond.instanceMethod ({ cls := "Nightjar$Sessions", name := "howManyAlike", desc := "(I)I" } : Jvm.MethodName), Jvm.Cond.selects "Nightjar$Sessions" ({ cls := "Nightjar$Sessions", name := "howManyAlike", desc := "(I)I" } : Jvm.MethodName) ({ cls := "Nightjar$Sessions", name := "howManyAlike", desc := "(I)I" } : Jvm.MethodName), Jvm.Cond.methodLink "Nightjar$Spikes" (3 : Nat) ({ cls := "java/lang/Object", name := "<init>", desc := "()V" } : Jvm.MethodName), Jvm.Cond.classLink "Nightjar$Spikes" (9 : Nat) "Nightjar$Row", Jvm.Cond.methodLink "Nightjar$Spikes" (11 : Nat) ({ cls := "Nightjar$Row", name := "<init>", desc := "(I)V" } : Jvm.MethodName), Jvm.Cond.fieldLink "Nightjar$Spikes" (14 : Nat) "Nightjar$Spikes" "windows" "LNightjar$Row;", Jvm.Cond.fieldLink "Nightjar$Spikes" (20 : Nat) "Nightjar$Spikes" "templates" "LNightjar$Row;", Jvm.Cond.fieldLink "Nightjar$Spikes" (23 : Nat) "Nightjar$Spikes" "counts" "LNightjar$Row;", Jvm.Cond.fieldLink "Nightjar$Spikes" (26 : Nat) "Nightjar$Spikes" "inWindow" "LNightjar$Row;", Jvm.Cond.fieldLink "Nightjar$Spikes" (29 : Nat) "Nightjar$Spikes" "number" "I", Jvm.Cond.methodLink "Nightjar$Spikes" (33 : Nat) ({ cls := "Nightjar$Row", name := "clear", desc := "()V" } : Jvm.MethodName), Jvm.Cond.fieldLink "Nightjar$Spikes" (36 : Nat) "Nightjar$Lines" "learned" "I", Jvm.Cond.fieldLink "Nightjar$Spikes" (41 : Nat) "Nightjar$Lines" "templateOf" "LNightjar$Row;", Jvm.Cond.methodLink "Nightjar$Spikes" (44 : Nat) ({ cls := "Nightjar$Row", name := "at", desc := "(I)I" } : Jvm.MethodName), Jvm.Cond.methodLink "Nightjar$Spikes" (48 : Nat) ({ cls := "Nightjar$Row", name := "increase", desc := "(I)V" } : Jvm.MethodName), Jvm.Cond.fieldLink "Nightjar$Spikes" (51 : Nat) "Nightjar$Lines" "times" "LNightjar$Row;", Jvm.Cond.methodLink "Nightjar$Spikes" (58 : Nat) ({ cls := "Nightjar$Spikes", name := "closeWindow", desc := "(LNightjar$Lines;III)V" } : Jvm.MethodName), Jvm.Cond.code ({ cls := "Nightjar$Spikes", name := "closeWindow", desc := "(LNightjar$Lines;III)V" } : Jvm.MethodName) prog_6_method_3_code (8 : Nat) (Option.none : Option Jvm.ClassFile.FieldType), Jvm.Cond.instanceMethod ({ cls := "Nightjar$Spikes", name := "closeWindow", desc := "(LNightjar$Lines;III)V" } : Jvm.MethodName), Cond.selects "Nightjar$Spikes" ⟨"Nightjar$Spikes", "closeWindow", "(LNightjar$Lines;III)V"⟩ ⟨"Nightjar$Spikes", "closeWindow", "(LNightjar$Lines;III)V"⟩, Jvm.Cond.methodLink "Nightjar$Spikes" (62 : Nat) ({ cls := "Nightjar$Lines", name := "howManyBetween", desc := "(IIII)I" } : Jvm.MethodName), Jvm.Cond.code ({ cls := "Nightjar$Lines", name := "howManyBetween", desc := "(IIII)I" } : Jvm.MethodName) prog_2_method_12_code (8 : Nat) (Option.some Jvm.ClassFile.FieldType.int), Jvm.Cond.instanceMethod ({ cls := "Nightjar$Lines", name := "howManyBetween", desc := "(IIII)I" } : Jvm.MethodName), Jvm.Cond.selects "Nightjar$Lines" ({ cls := "Nightjar$Lines", name := "howManyBetween", desc := "(IIII)I" } : Jvm.MethodName) ({ cls := "Nightjar$Lines", name := "howManyBetween", desc := "(IIII)I" } : Jvm.MethodName), Jvm.Cond.methodLink "Nightjar$Spikes" (66 : Nat) ({ cls := "Nightjar$Spikes", name := "enter", desc := "(III)V" } : Jvm.MethodName), Jvm.Cond.code ({ cls := "Nightjar$Spikes", name := "enter", desc := "(III)V" } : Jvm.MethodName) prog_6_method_4_code (4 : Nat) (Option.none : Option Jvm.ClassFile.FieldType), Jvm.Cond.instanceMethod ({ cls := "Nightjar$Spikes", name := "enter", desc := "(III)V" } : Jvm.MethodName), Cond.selects "Nightjar$Spikes" ⟨"Nightjar$Spikes", "enter", "(III)V"⟩ ⟨"Nightjar$Spikes", "enter", "(III)V"⟩, Jvm.Cond.methodLink "Nightjar$Spikes" (70 : Nat) ({ cls := "Nightjar$Row", name := "put", desc := "(II)V" } : Jvm.MethodName), Jvm.Cond.methodLink "Nightjar$Templates" (56 : Nat) ({ cls := "Nightjar$Row", name := "put", desc := "(II)V" } : Jvm.MethodName), Jvm.Cond.methodLink "Nightjar" (60 : Nat) ({ cls := "Nightjar", name := "isWithin", desc := "(II)Z" } : Jvm.MethodName)]
def zall_6 : List Jvm.Cond := [Jvm.Cond.code ({ cls := "Nightjar", name := "isWithin", desc := "(II)Z" } : Jvm.MethodName) prog_1_method_33_code (2 : Nat) (Option.some Jvm.ClassFile.FieldType.boolean), Jvm.Cond.static ({ cls := "Nightjar", name := "isWithin", desc := "(II)Z" } : Jvm.MethodName), Jvm.Cond.methodLink "Nightjar" (130 : Nat) ({ cls := "Nightjar$Sessions", name := "howManyBroken", desc := "()I" } : Jvm.MethodName), Jvm.Cond.code ({ cls := "Nightjar$Sessions", name := "howManyBroken", desc := "()I" } : Jvm.MethodName) prog_5_method_9_code (3 : Nat) (Option.some Jvm.ClassFile.FieldType.int), Jvm.Cond.instanceMethod ({ cls := "Nightjar$Sessions", name := "howManyBroken", desc := "()I" } : Jvm.MethodName), Jvm.Cond.selects "Nightjar$Sessions" ({ cls := "Nightjar$Sessions", name := "howManyBroken", desc := "()I" } : Jvm.MethodName) ({ cls := "Nightjar$Sessions", name := "howManyBroken", desc := "()I" } : Jvm.MethodName), Jvm.Cond.fieldLink "Nightjar" (134 : Nat) "Nightjar$Spikes" "number" "I", Jvm.Cond.methodLink "Nightjar" (135 : Nat) ({ cls := "Nightjar", name := "hasLine", desc := "(I)Z" } : Jvm.MethodName), Jvm.Cond.code ({ cls := "Nightjar", name := "hasLine", desc := "(I)Z" } : Jvm.MethodName) prog_1_method_30_code (2 : Nat) (Option.some Jvm.ClassFile.FieldType.boolean), Jvm.Cond.instanceMethod ({ cls := "Nightjar", name := "hasLine", desc := "(I)Z" } : Jvm.MethodName), Cond.selects "Nightjar" ⟨"Nightjar", "hasLine", "(I)Z"⟩ ⟨"Nightjar", "hasLine", "(I)Z"⟩, Jvm.Cond.fieldLink "Nightjar" (80 : Nat) "Nightjar$Lines" "times" "LNightjar$Row;", Jvm.Cond.fieldLink "Nightjar" (146 : Nat) "Nightjar$Lines" "sources" "LNightjar$Row;", Jvm.Cond.fieldLink "Nightjar" (149 : Nat) "Nightjar$Lines" "levels" "LNightjar$Row;", Jvm.Cond.fieldLink "Nightjar" (98 : Nat) "Nightjar$Lines" "sizes" "LNightjar$Row;", Jvm.Cond.fieldLink "Nightjar" (112 : Nat) "Nightjar$Lines" "templateOf" "LNightjar$Row;", Jvm.Cond.fieldLink "Nightjar" (152 : Nat) "Nightjar$Lines" "keys" "LNightjar$Row;", Jvm.Cond.fieldLink "Nightjar" (155 : Nat) "Nightjar$Sessions" "sessionOf" "LNightjar$Row;", Jvm.Cond.methodLink "Nightjar" (158 : Nat) ({ cls := "Nightjar", name := "quotient", desc := "(II)I" } : Jvm.MethodName), Jvm.Cond.fieldLink "Nightjar" (161 : Nat) "Nightjar$Scenes" "sizes" "LNightjar$Row;", Jvm.Cond.methodLink "Nightjar" (167 : Nat) ({ cls := "Nightjar", name := "hasTemplate", desc := "(I)Z" } : Jvm.MethodName), Jvm.Cond.code ({ cls := "Nightjar", name := "hasTemplate", desc := "(I)Z" } : Jvm.MethodName) prog_1_method_31_code (2 : Nat) (Option.some Jvm.ClassFile.FieldType.boolean), Jvm.Cond.instanceMethod ({ cls := "Nightjar", name := "hasTemplate", desc := "(I)Z" } : Jvm.MethodName), Cond.selects "Nightjar" ⟨"Nightjar", "hasTemplate", "(I)Z"⟩ ⟨"Nightjar", "hasTemplate", "(I)Z"⟩, Jvm.Cond.fieldLink "Nightjar" (174 : Nat) "Nightjar$Templates" "sizes" "LNightjar$Row;", Jvm.Cond.methodLink "Nightjar" (175 : Nat) ({ cls := "Nightjar$Templates", name := "howManyHoles", desc := "(I)I" } : Jvm.MethodName), Jvm.Cond.code ({ cls := "Nightjar$Templates", name := "howManyHoles", desc := "(I)I" } : Jvm.MethodName) prog_7_method_3_code (4 : Nat) (Option.some Jvm.ClassFile.FieldType.int), Jvm.Cond.instanceMethod ({ cls := "Nightjar$Templates", name := "howManyHoles", desc := "(I)I" } : Jvm.MethodName), Jvm.Cond.selects "Nightjar$Templates" ({ cls := "Nightjar$Templates", name := "howManyHoles", desc := "(I)I" } : Jvm.MethodName) ({ cls := "Nightjar$Templates", name := "howManyHoles", desc := "(I)I" } : Jvm.MethodName), Jvm.Cond.methodLink "Nightjar" (178 : Nat) ({ cls := "Nightjar$Lines", name := "howManyOf", desc := "(I)I" } : Jvm.MethodName), Jvm.Cond.code ({ cls := "Nightjar$Lines", name := "howManyOf", desc := "(I)I" } : Jvm.MethodName) prog_2_method_7_code (4 : Nat) (Option.some Jvm.ClassFile.FieldType.int), Jvm.Cond.instanceMethod ({ cls := "Nightjar$Lines", name := "howManyOf", desc := "(I)I" } : Jvm.MethodName), Jvm.Cond.selects "Nightjar$Lines" ({ cls := "Nightjar$Lines", name := "howManyOf", desc := "(I)I" } : Jvm.MethodName) ({ cls := "Nightjar$Lines", name := "howManyOf", desc := "(I)I" } : Jvm.MethodName), Jvm.Cond.methodLink "Nightjar" (181 : Nat) ({ cls := "Nightjar$Lines", name := "firstOf", desc := "(I)I" } : Jvm.MethodName), Jvm.Cond.code ({ cls := "Nightjar$Lines", name := "firstOf", desc := "(I)I" } : Jvm.MethodName) prog_2_method_8_code (3 : Nat) (Option.some Jvm.ClassFile.FieldType.int), Jvm.Cond.instanceMethod ({ cls := "Nightjar$Lines", name := "firstOf", desc := "(I)I" } : Jvm.MethodName), Jvm.Cond.selects "Nightjar$Lines" ({ cls := "Nightjar$Lines", name := "firstOf", desc := "(I)I" } : Jvm.MethodName) ({ cls := "Nightjar$Lines", name := "firstOf", desc := "(I)I" } : Jvm.MethodName), Jvm.Cond.methodLink "Nightjar" (184 : Nat) ({ cls := "Nightjar$Lines", name := "worstLevelOf", desc := "(I)I" } : Jvm.MethodName), Jvm.Cond.code ({ cls := "Nightjar$Lines", name := "worstLevelOf", desc := "(I)I" } : Jvm.MethodName) prog_2_method_9_code (4 : Nat) (Option.some Jvm.ClassFile.FieldType.int), Jvm.Cond.instanceMethod ({ cls := "Nightjar$Lines", name := "worstLevelOf", desc := "(I)I" } : Jvm.MethodName), Jvm.Cond.selects "Nightjar$Lines" ({ cls := "Nightjar$Lines", name := "worstLevelOf", desc := "(I)I" } : Jvm.MethodName) ({ cls := "Nightjar$Lines", name := "worstLevelOf", desc := "(I)I" } : Jvm.MethodName), Jvm.Cond.methodLink "Nightjar" (189 : Nat) ({ cls := "Nightjar$Templates", name := "slotIn", desc := "(II)I" } : Jvm.MethodName), Jvm.Cond.methodLink "Nightjar" (192 : Nat) ({ cls := "Nightjar$Templates", name := "placeOfHole", desc := "(II)I" } : Jvm.MethodName), Jvm.Cond.methodLink "Nightjar" (197 : Nat) ({ cls := "Nightjar$Lines", name := "howManyWordsOf", desc := "(II)I" } : Jvm.MethodName), Jvm.Cond.code ({ cls := "Nightjar$Lines", name := "howManyWordsOf", desc := "(II)I" } : Jvm.MethodName) prog_2_method_10_code (5 : Nat) (Option.some Jvm.ClassFile.FieldType.int), Jvm.Cond.instanceMethod ({ cls := "Nightjar$Lines", name := "howManyWordsOf", desc := "(II)I" } : Jvm.MethodName), Jvm.Cond.selects "Nightjar$Lines" ({ cls := "Nightjar$Lines", name := "howManyWordsOf", desc := "(II)I" } : Jvm.MethodName) ({ cls := "Nightjar$Lines", name := "howManyWordsOf", desc := "(II)I" } : Jvm.MethodName), Jvm.Cond.methodLink "Nightjar" (203 : Nat) ({ cls := "Nightjar", name := "hasSession", desc := "(I)Z" } : Jvm.MethodName), Jvm.Cond.code ({ cls := "Nightjar", name := "hasSession", desc := "(I)Z" } : Jvm.MethodName) prog_1_method_32_code (2 : Nat) (Option.some Jvm.ClassFile.FieldType.boolean), Jvm.Cond.instanceMethod ({ cls := "Nightjar", name := "hasSession", desc := "(I)Z" } : Jvm.MethodName), Cond.selects "Nightjar" ⟨"Nightjar", "hasSession", "(I)Z"⟩ ⟨"Nightjar", "hasSession", "(I)Z"⟩, Jvm.Cond.fieldLink "Nightjar" (210 : Nat) "Nightjar$Sessions" "firsts" "LNightjar$Row;", Jvm.Cond.fieldLink "Nightjar" (213 : Nat) "Nightjar$Sessions" "lasts" "LNightjar$Row;", Jvm.Cond.fieldLink "Nightjar" (216 : Nat) "Nightjar$Sessions" "sizes" "LNightjar$Row;", Jvm.Cond.fieldLink "Nightjar" (217 : Nat) "Nightjar$Sessions" "worst" "LNightjar$Row;", Jvm.Cond.methodLink "Nightjar" (220 : Nat) ({ cls := "Nightjar$Sessions", name := "howManyTemplates", desc := "(LNightjar$Lines;I)I" } : Jvm.MethodName), Jvm.Cond.code ({ cls := "Nightjar$Sessions", name := "howManyTemplates", desc := "(LNightjar$Lines;I)I" } : Jvm.MethodName) prog_5_method_8_code (6 : Nat) (Option.some Jvm.ClassFile.FieldType.int), Jvm.Cond.instanceMethod ({ cls := "Nightjar$Sessions", name := "howManyTemplates", desc := "(LNightjar$Lines;I)I" } : Jvm.MethodName), Jvm.Cond.selects "Nightjar$Sessions" ({ cls := "Nightjar$Sessions", name := "howManyTemplates", desc := "(LNightjar$Lines;I)I" } : Jvm.MethodName) ({ cls := "Nightjar$Sessions", name := "howManyTemplates", desc := "(LNightjar$Lines;I)I" } : Jvm.MethodName), Jvm.Cond.methodLink "Nightjar" (224 : Nat) ({ cls := "Nightjar$Sessions", name := "howManyAlike", desc := "(I)I" } : Jvm.MethodName)]
def zall_7 : List Jvm.Cond := [Jvm.Cond.methodLink "Nightjar" (232 : Nat) ({ cls := "Nightjar$Sessions", name := "mostAlike", desc := "()I" } : Jvm.MethodName), Jvm.Cond.code ({ cls := "Nightjar$Sessions", name := "mostAlike", desc := "()I" } : Jvm.MethodName) prog_5_method_12_code (4 : Nat) (Option.some Jvm.ClassFile.FieldType.int), Jvm.Cond.instanceMethod ({ cls := "Nightjar$Sessions", name := "mostAlike", desc := "()I" } : Jvm.MethodName), Jvm.Cond.selects "Nightjar$Sessions" ({ cls := "Nightjar$Sessions", name := "mostAlike", desc := "()I" } : Jvm.MethodName) ({ cls := "Nightjar$Sessions", name := "mostAlike", desc := "()I" } : Jvm.MethodName), Jvm.Cond.fieldLink "Nightjar" (248 : Nat) "Nightjar$Spikes" "windows" "LNightjar$Row;", Jvm.Cond.fieldLink "Nightjar" (251 : Nat) "Nightjar$Spikes" "templates" "LNightjar$Row;", Jvm.Cond.fieldLink "Nightjar" (253 : Nat) "Nightjar$Spikes" "counts" "LNightjar$Row;", Jvm.Cond.fieldLink "Nightjar" (256 : Nat) "Nightjar$Scenes" "causeNumbers" "LNightjar$Row;", Jvm.Cond.methodLink "Nightjar" (263 : Nat) ({ cls := "Nightjar$Scenes", name := "causeOf", desc := "(II)I" } : Jvm.MethodName), Jvm.Cond.methodLink "Nightjar" (266 : Nat) ({ cls := "Nightjar$Scenes", name := "hits", desc := "(II)I" } : Jvm.MethodName), Jvm.Cond.methodLink "Nightjar" (269 : Nat) ({ cls := "Nightjar$Scenes", name := "rest", desc := "(II)I" } : Jvm.MethodName), Jvm.Cond.methodLink "Nightjar" (272 : Nat) ({ cls := "Nightjar$Scenes", name := "score", desc := "(II)I" } : Jvm.MethodName), Jvm.Cond.methodLink "Nightjar" (275 : Nat) ({ cls := "Nightjar$Scenes", name := "lineBehind", desc := "(LNightjar$Lines;II)I" } : Jvm.MethodName), Jvm.Cond.code ({ cls := "Nightjar$Scenes", name := "lineBehind", desc := "(LNightjar$Lines;II)I" } : Jvm.MethodName) prog_4_method_12_code (7 : Nat) (Option.some Jvm.ClassFile.FieldType.int), Jvm.Cond.instanceMethod ({ cls := "Nightjar$Scenes", name := "lineBehind", desc := "(LNightjar$Lines;II)I" } : Jvm.MethodName), Jvm.Cond.selects "Nightjar$Scenes" ({ cls := "Nightjar$Scenes", name := "lineBehind", desc := "(LNightjar$Lines;II)I" } : Jvm.MethodName) ({ cls := "Nightjar$Scenes", name := "lineBehind", desc := "(LNightjar$Lines;II)I" } : Jvm.MethodName), Jvm.Cond.methodLink "Nightjar" (314 : Nat) ({ cls := "Nightjar", name := "ofLine", desc := "(II)I" } : Jvm.MethodName), Jvm.Cond.code ({ cls := "Nightjar", name := "ofLine", desc := "(II)I" } : Jvm.MethodName) prog_1_method_8_code (3 : Nat) (Option.some Jvm.ClassFile.FieldType.int), Jvm.Cond.instanceMethod ({ cls := "Nightjar", name := "ofLine", desc := "(II)I" } : Jvm.MethodName), Jvm.Cond.selects "Nightjar" ({ cls := "Nightjar", name := "ofLine", desc := "(II)I" } : Jvm.MethodName) ({ cls := "Nightjar", name := "ofLine", desc := "(II)I" } : Jvm.MethodName), Jvm.Cond.methodLink "Nightjar" (295 : Nat) ({ cls := "Nightjar", name := "mix", desc := "(JI)J" } : Jvm.MethodName), Jvm.Cond.code ({ cls := "Nightjar", name := "mix", desc := "(JI)J" } : Jvm.MethodName) prog_1_method_29_code (3 : Nat) (Option.some Jvm.ClassFile.FieldType.long), Jvm.Cond.static ({ cls := "Nightjar", name := "mix", desc := "(JI)J" } : Jvm.MethodName), Jvm.Cond.methodLink "Nightjar" (317 : Nat) ({ cls := "Nightjar", name := "because", desc := "(I)I" } : Jvm.MethodName), Jvm.Cond.code ({ cls := "Nightjar", name := "because", desc := "(I)I" } : Jvm.MethodName) prog_1_method_22_code (2 : Nat) (Option.some Jvm.ClassFile.FieldType.int), Jvm.Cond.instanceMethod ({ cls := "Nightjar", name := "because", desc := "(I)I" } : Jvm.MethodName), Jvm.Cond.selects "Nightjar" ({ cls := "Nightjar", name := "because", desc := "(I)I" } : Jvm.MethodName) ({ cls := "Nightjar", name := "because", desc := "(I)I" } : Jvm.MethodName), Jvm.Cond.methodLink "Nightjar" (320 : Nat) ({ cls := "Nightjar", name := "ofTemplate", desc := "(II)I" } : Jvm.MethodName), Jvm.Cond.code ({ cls := "Nightjar", name := "ofTemplate", desc := "(II)I" } : Jvm.MethodName) prog_1_method_10_code (3 : Nat) (Option.some Jvm.ClassFile.FieldType.int), Jvm.Cond.instanceMethod ({ cls := "Nightjar", name := "ofTemplate", desc := "(II)I" } : Jvm.MethodName), Jvm.Cond.selects "Nightjar" ({ cls := "Nightjar", name := "ofTemplate", desc := "(II)I" } : Jvm.MethodName) ({ cls := "Nightjar", name := "ofTemplate", desc := "(II)I" } : Jvm.MethodName), Jvm.Cond.methodLink "Nightjar" (323 : Nat) ({ cls := "Nightjar", name := "slot", desc := "(II)I" } : Jvm.MethodName), Jvm.Cond.code ({ cls := "Nightjar", name := "slot", desc := "(II)I" } : Jvm.MethodName) prog_1_method_11_code (3 : Nat) (Option.some Jvm.ClassFile.FieldType.int), Jvm.Cond.instanceMethod ({ cls := "Nightjar", name := "slot", desc := "(II)I" } : Jvm.MethodName), Jvm.Cond.selects "Nightjar" ({ cls := "Nightjar", name := "slot", desc := "(II)I" } : Jvm.MethodName) ({ cls := "Nightjar", name := "slot", desc := "(II)I" } : Jvm.MethodName), Jvm.Cond.methodLink "Nightjar" (326 : Nat) ({ cls := "Nightjar", name := "values", desc := "(II)I" } : Jvm.MethodName), Jvm.Cond.code ({ cls := "Nightjar", name := "values", desc := "(II)I" } : Jvm.MethodName) prog_1_method_12_code (4 : Nat) (Option.some Jvm.ClassFile.FieldType.int), Jvm.Cond.instanceMethod ({ cls := "Nightjar", name := "values", desc := "(II)I" } : Jvm.MethodName), Jvm.Cond.selects "Nightjar" ({ cls := "Nightjar", name := "values", desc := "(II)I" } : Jvm.MethodName) ({ cls := "Nightjar", name := "values", desc := "(II)I" } : Jvm.MethodName), Jvm.Cond.methodLink "Nightjar" (329 : Nat) ({ cls := "Nightjar", name := "causes", desc := "(I)I" } : Jvm.MethodName), Jvm.Cond.code ({ cls := "Nightjar", name := "causes", desc := "(I)I" } : Jvm.MethodName) prog_1_method_20_code (2 : Nat) (Option.some Jvm.ClassFile.FieldType.int), Jvm.Cond.instanceMethod ({ cls := "Nightjar", name := "causes", desc := "(I)I" } : Jvm.MethodName), Jvm.Cond.selects "Nightjar" ({ cls := "Nightjar", name := "causes", desc := "(I)I" } : Jvm.MethodName) ({ cls := "Nightjar", name := "causes", desc := "(I)I" } : Jvm.MethodName), Jvm.Cond.methodLink "Nightjar" (332 : Nat) ({ cls := "Nightjar", name := "cause", desc := "(III)I" } : Jvm.MethodName), Jvm.Cond.code ({ cls := "Nightjar", name := "cause", desc := "(III)I" } : Jvm.MethodName) prog_1_method_21_code (5 : Nat) (Option.some Jvm.ClassFile.FieldType.int), Jvm.Cond.instanceMethod ({ cls := "Nightjar", name := "cause", desc := "(III)I" } : Jvm.MethodName), Jvm.Cond.selects "Nightjar" ({ cls := "Nightjar", name := "cause", desc := "(III)I" } : Jvm.MethodName) ({ cls := "Nightjar", name := "cause", desc := "(III)I" } : Jvm.MethodName), Jvm.Cond.methodLink "NightjarModel" (76 : Nat) ({ cls := "NightjarModel", name := "alikeNow", desc := "(II)I" } : Jvm.MethodName), Jvm.Cond.code ({ cls := "NightjarModel", name := "alikeNow", desc := "(II)I" } : Jvm.MethodName) prog_9_method_9_code (5 : Nat) (Option.some Jvm.ClassFile.FieldType.int), Jvm.Cond.instanceMethod ({ cls := "NightjarModel", name := "alikeNow", desc := "(II)I" } : Jvm.MethodName), Cond.selects "NightjarModel" ⟨"NightjarModel", "alikeNow", "(II)I"⟩ ⟨"NightjarModel", "alikeNow", "(II)I"⟩, Jvm.Cond.methodLink "NightjarModel" (179 : Nat) ({ cls := "NightjarModel", name := "nextIn", desc := "(II)I" } : Jvm.MethodName), Jvm.Cond.code ({ cls := "NightjarModel", name := "nextIn", desc := "(II)I" } : Jvm.MethodName) prog_9_method_45_code (4 : Nat) (Option.some Jvm.ClassFile.FieldType.int), Jvm.Cond.instanceMethod ({ cls := "NightjarModel", name := "nextIn", desc := "(II)I" } : Jvm.MethodName), Cond.selects "NightjarModel" ⟨"NightjarModel", "nextIn", "(II)I"⟩ ⟨"NightjarModel", "nextIn", "(II)I"⟩, Jvm.Cond.constant "java/lang/Integer" (265 : Nat) (1431655765 : Int32), Jvm.Cond.constant "java/lang/Integer" (266 : Nat) (858993459 : Int32), Jvm.Cond.constant "java/lang/Integer" (267 : Nat) (252645135 : Int32), Jvm.Cond.methodLink "Nightjar" (3 : Nat) ({ cls := "java/lang/Object", name := "<init>", desc := "()V" } : Jvm.MethodName), Jvm.Cond.classLink "Nightjar" (9 : Nat) "Nightjar$Lines"]
def zall_8 : List Jvm.Cond := [Jvm.Cond.instantiable "Nightjar$Lines" (9 : Nat), Jvm.Cond.code ({ cls := "Nightjar$Lines", name := "<init>", desc := "()V" } : Jvm.MethodName) prog_2_method_1_code (1 : Nat) (Option.none : Option Jvm.ClassFile.FieldType), Jvm.Cond.instanceMethod ({ cls := "Nightjar$Lines", name := "<init>", desc := "()V" } : Jvm.MethodName), Jvm.Cond.classLink "Nightjar" (16 : Nat) "Nightjar$Templates", Jvm.Cond.instantiable "Nightjar$Templates" (3 : Nat), Jvm.Cond.code ({ cls := "Nightjar$Templates", name := "<init>", desc := "()V" } : Jvm.MethodName) prog_7_method_1_code (1 : Nat) (Option.none : Option Jvm.ClassFile.FieldType), Jvm.Cond.instanceMethod ({ cls := "Nightjar$Templates", name := "<init>", desc := "()V" } : Jvm.MethodName), Jvm.Cond.fieldLink "Nightjar" (23 : Nat) "Nightjar" "trial" "LNightjar$Templates;", Jvm.Cond.classLink "Nightjar" (26 : Nat) "Nightjar$Sessions", Jvm.Cond.instantiable "Nightjar$Sessions" (9 : Nat), Jvm.Cond.code ({ cls := "Nightjar$Sessions", name := "<init>", desc := "()V" } : Jvm.MethodName) prog_5_method_1_code (1 : Nat) (Option.none : Option Jvm.ClassFile.FieldType), Jvm.Cond.instanceMethod ({ cls := "Nightjar$Sessions", name := "<init>", desc := "()V" } : Jvm.MethodName), Jvm.Cond.classLink "Nightjar" (33 : Nat) "Nightjar$Spikes", Jvm.Cond.instantiable "Nightjar$Spikes" (5 : Nat), Jvm.Cond.code ({ cls := "Nightjar$Spikes", name := "<init>", desc := "()V" } : Jvm.MethodName) prog_6_method_1_code (1 : Nat) (Option.none : Option Jvm.ClassFile.FieldType), Jvm.Cond.instanceMethod ({ cls := "Nightjar$Spikes", name := "<init>", desc := "()V" } : Jvm.MethodName), Jvm.Cond.classLink "Nightjar" (40 : Nat) "Nightjar$Scenes", Jvm.Cond.instantiable "Nightjar$Scenes" (8 : Nat), Jvm.Cond.code ({ cls := "Nightjar$Scenes", name := "<init>", desc := "()V" } : Jvm.MethodName) prog_4_method_1_code (1 : Nat) (Option.none : Option Jvm.ClassFile.FieldType), Jvm.Cond.instanceMethod ({ cls := "Nightjar$Scenes", name := "<init>", desc := "()V" } : Jvm.MethodName), Jvm.Cond.classLink "Nightjar" (47 : Nat) "Nightjar$Row", Jvm.Cond.methodLink "Nightjar" (49 : Nat) ({ cls := "Nightjar$Row", name := "<init>", desc := "(I)V" } : Jvm.MethodName), Jvm.Cond.methodLink "Nightjar" (56 : Nat) ({ cls := "Nightjar$Row", name := "put", desc := "(II)V" } : Jvm.MethodName), Jvm.Cond.methodLink "Nightjar" (89 : Nat) ({ cls := "Nightjar$Lines", name := "append", desc := "(III)I" } : Jvm.MethodName), Jvm.Cond.code ({ cls := "Nightjar$Lines", name := "append", desc := "(III)I" } : Jvm.MethodName) prog_2_method_2_code (5 : Nat) (Option.some Jvm.ClassFile.FieldType.int), Jvm.Cond.instanceMethod ({ cls := "Nightjar$Lines", name := "append", desc := "(III)I" } : Jvm.MethodName), Jvm.Cond.selects "Nightjar$Lines" ({ cls := "Nightjar$Lines", name := "append", desc := "(III)I" } : Jvm.MethodName) ({ cls := "Nightjar$Lines", name := "append", desc := "(III)I" } : Jvm.MethodName), Jvm.Cond.methodLink "Nightjar" (93 : Nat) ({ cls := "Nightjar", name := "recompute", desc := "()V" } : Jvm.MethodName), Jvm.Cond.code ({ cls := "Nightjar", name := "recompute", desc := "()V" } : Jvm.MethodName) prog_1_method_35_code (1 : Nat) (Option.none : Option Jvm.ClassFile.FieldType), Jvm.Cond.instanceMethod ({ cls := "Nightjar", name := "recompute", desc := "()V" } : Jvm.MethodName), Cond.selects "Nightjar" ⟨"Nightjar", "recompute", "()V"⟩ ⟨"Nightjar", "recompute", "()V"⟩, Jvm.Cond.methodLink "Nightjar" (106 : Nat) ({ cls := "Nightjar$Lines", name := "appendWord", desc := "(II)I" } : Jvm.MethodName), Jvm.Cond.code ({ cls := "Nightjar$Lines", name := "appendWord", desc := "(II)I" } : Jvm.MethodName) prog_2_method_3_code (4 : Nat) (Option.some Jvm.ClassFile.FieldType.int), Jvm.Cond.instanceMethod ({ cls := "Nightjar$Lines", name := "appendWord", desc := "(II)I" } : Jvm.MethodName), Jvm.Cond.selects "Nightjar$Lines" ({ cls := "Nightjar$Lines", name := "appendWord", desc := "(II)I" } : Jvm.MethodName) ({ cls := "Nightjar$Lines", name := "appendWord", desc := "(II)I" } : Jvm.MethodName), Jvm.Cond.methodLink "Nightjar" (115 : Nat) ({ cls := "Nightjar$Templates", name := "take", desc := "(LNightjar$Lines;II)I" } : Jvm.MethodName), Jvm.Cond.code ({ cls := "Nightjar$Templates", name := "take", desc := "(LNightjar$Lines;II)I" } : Jvm.MethodName) prog_7_method_7_code (5 : Nat) (Option.some Jvm.ClassFile.FieldType.int), Jvm.Cond.instanceMethod ({ cls := "Nightjar$Templates", name := "take", desc := "(LNightjar$Lines;II)I" } : Jvm.MethodName), Jvm.Cond.selects "Nightjar$Templates" ({ cls := "Nightjar$Templates", name := "take", desc := "(LNightjar$Lines;II)I" } : Jvm.MethodName) ({ cls := "Nightjar$Templates", name := "take", desc := "(LNightjar$Lines;II)I" } : Jvm.MethodName), Jvm.Cond.methodLink "Nightjar" (123 : Nat) ({ cls := "Nightjar$Lines", name := "unlearn", desc := "()V" } : Jvm.MethodName), Jvm.Cond.code ({ cls := "Nightjar$Lines", name := "unlearn", desc := "()V" } : Jvm.MethodName) prog_2_method_4_code (2 : Nat) (Option.none : Option Jvm.ClassFile.FieldType), Jvm.Cond.instanceMethod ({ cls := "Nightjar$Lines", name := "unlearn", desc := "()V" } : Jvm.MethodName), Jvm.Cond.selects "Nightjar$Lines" ({ cls := "Nightjar$Lines", name := "unlearn", desc := "()V" } : Jvm.MethodName) ({ cls := "Nightjar$Lines", name := "unlearn", desc := "()V" } : Jvm.MethodName), Jvm.Cond.methodLink "Nightjar" (164 : Nat) ({ cls := "Nightjar$Lines", name := "wordIn", desc := "(II)I" } : Jvm.MethodName), Jvm.Cond.methodLink "Nightjar" (200 : Nat) ({ cls := "Nightjar$Templates", name := "likeness", desc := "(LNightjar$Lines;II)I" } : Jvm.MethodName), Jvm.Cond.methodLink "Nightjar" (229 : Nat) ({ cls := "Nightjar$Sessions", name := "lineIn", desc := "(II)I" } : Jvm.MethodName), Jvm.Cond.code ({ cls := "Nightjar$Sessions", name := "lineIn", desc := "(II)I" } : Jvm.MethodName) prog_5_method_7_code (5 : Nat) (Option.some Jvm.ClassFile.FieldType.int), Jvm.Cond.instanceMethod ({ cls := "Nightjar$Sessions", name := "lineIn", desc := "(II)I" } : Jvm.MethodName), Jvm.Cond.selects "Nightjar$Sessions" ({ cls := "Nightjar$Sessions", name := "lineIn", desc := "(II)I" } : Jvm.MethodName) ({ cls := "Nightjar$Sessions", name := "lineIn", desc := "(II)I" } : Jvm.MethodName), Jvm.Cond.methodLink "Nightjar" (235 : Nat) ({ cls := "Nightjar$Sessions", name := "howManyLines", desc := "()I" } : Jvm.MethodName), Jvm.Cond.code ({ cls := "Nightjar$Sessions", name := "howManyLines", desc := "()I" } : Jvm.MethodName) prog_5_method_10_code (3 : Nat) (Option.some Jvm.ClassFile.FieldType.int), Jvm.Cond.instanceMethod ({ cls := "Nightjar$Sessions", name := "howManyLines", desc := "()I" } : Jvm.MethodName), Jvm.Cond.selects "Nightjar$Sessions" ({ cls := "Nightjar$Sessions", name := "howManyLines", desc := "()I" } : Jvm.MethodName) ({ cls := "Nightjar$Sessions", name := "howManyLines", desc := "()I" } : Jvm.MethodName), Jvm.Cond.methodLink "Nightjar" (240 : Nat) ({ cls := "Nightjar$Lines", name := "howManyBetween", desc := "(IIII)I" } : Jvm.MethodName), Jvm.Cond.methodLink "Nightjar" (282 : Nat) ({ cls := "Nightjar$Lines", name := "joined", desc := "(II)I" } : Jvm.MethodName), Jvm.Cond.methodLink "Nightjar" (287 : Nat) ({ cls := "Nightjar$Templates", name := "choose", desc := "(LNightjar$Lines;II)I" } : Jvm.MethodName), Jvm.Cond.constantLong "Nightjar" (290 : Nat) (58085 : Int64), Jvm.Cond.methodLink "Nightjar" (292 : Nat) ({ cls := "Nightjar", name := "many", desc := "(I)I" } : Jvm.MethodName), Jvm.Cond.code ({ cls := "Nightjar", name := "many", desc := "(I)I" } : Jvm.MethodName) prog_1_method_7_code (2 : Nat) (Option.some Jvm.ClassFile.FieldType.int), Jvm.Cond.instanceMethod ({ cls := "Nightjar", name := "many", desc := "(I)I" } : Jvm.MethodName)]
def zall_9 : List Jvm.Cond := [Jvm.Cond.selects "Nightjar" ({ cls := "Nightjar", name := "many", desc := "(I)I" } : Jvm.MethodName) ({ cls := "Nightjar", name := "many", desc := "(I)I" } : Jvm.MethodName), Jvm.Cond.methodLink "Nightjar" (299 : Nat) ({ cls := "Nightjar", name := "mixLine", desc := "(JI)J" } : Jvm.MethodName), Jvm.Cond.code ({ cls := "Nightjar", name := "mixLine", desc := "(JI)J" } : Jvm.MethodName) prog_1_method_27_code (7 : Nat) (Option.some Jvm.ClassFile.FieldType.long), Jvm.Cond.instanceMethod ({ cls := "Nightjar", name := "mixLine", desc := "(JI)J" } : Jvm.MethodName), Cond.selects "Nightjar" ⟨"Nightjar", "mixLine", "(JI)J"⟩ ⟨"Nightjar", "mixLine", "(JI)J"⟩, Jvm.Cond.methodLink "Nightjar" (302 : Nat) ({ cls := "Nightjar", name := "mixTemplate", desc := "(JI)J" } : Jvm.MethodName), Jvm.Cond.code ({ cls := "Nightjar", name := "mixTemplate", desc := "(JI)J" } : Jvm.MethodName) prog_1_method_28_code (11 : Nat) (Option.some Jvm.ClassFile.FieldType.long), Jvm.Cond.instanceMethod ({ cls := "Nightjar", name := "mixTemplate", desc := "(JI)J" } : Jvm.MethodName), Cond.selects "Nightjar" ⟨"Nightjar", "mixTemplate", "(JI)J"⟩ ⟨"Nightjar", "mixTemplate", "(JI)J"⟩, Jvm.Cond.methodLink "Nightjar" (305 : Nat) ({ cls := "Nightjar", name := "ofSession", desc := "(II)I" } : Jvm.MethodName), Jvm.Cond.code ({ cls := "Nightjar", name := "ofSession", desc := "(II)I" } : Jvm.MethodName) prog_1_method_14_code (3 : Nat) (Option.some Jvm.ClassFile.FieldType.int), Jvm.Cond.instanceMethod ({ cls := "Nightjar", name := "ofSession", desc := "(II)I" } : Jvm.MethodName), Jvm.Cond.selects "Nightjar" ({ cls := "Nightjar", name := "ofSession", desc := "(II)I" } : Jvm.MethodName) ({ cls := "Nightjar", name := "ofSession", desc := "(II)I" } : Jvm.MethodName), Jvm.Cond.methodLink "Nightjar" (308 : Nat) ({ cls := "Nightjar", name := "usual", desc := "()I" } : Jvm.MethodName), Jvm.Cond.code ({ cls := "Nightjar", name := "usual", desc := "()I" } : Jvm.MethodName) prog_1_method_16_code (1 : Nat) (Option.some Jvm.ClassFile.FieldType.int), Jvm.Cond.instanceMethod ({ cls := "Nightjar", name := "usual", desc := "()I" } : Jvm.MethodName), Jvm.Cond.selects "Nightjar" ({ cls := "Nightjar", name := "usual", desc := "()I" } : Jvm.MethodName) ({ cls := "Nightjar", name := "usual", desc := "()I" } : Jvm.MethodName), Jvm.Cond.methodLink "Nightjar" (311 : Nat) ({ cls := "Nightjar", name := "spike", desc := "(II)I" } : Jvm.MethodName), Jvm.Cond.code ({ cls := "Nightjar", name := "spike", desc := "(II)I" } : Jvm.MethodName) prog_1_method_19_code (3 : Nat) (Option.some Jvm.ClassFile.FieldType.int), Jvm.Cond.instanceMethod ({ cls := "Nightjar", name := "spike", desc := "(II)I" } : Jvm.MethodName), Jvm.Cond.selects "Nightjar" ({ cls := "Nightjar", name := "spike", desc := "(II)I" } : Jvm.MethodName) ({ cls := "Nightjar", name := "spike", desc := "(II)I" } : Jvm.MethodName), Jvm.Cond.methodLink "NightjarModel" (1 : Nat) ({ cls := "java/lang/Object", name := "<init>", desc := "()V" } : Jvm.MethodName), Jvm.Cond.methodLink "NightjarModel" (69 : Nat) ({ cls := "NightjarModel", name := "no", desc := "(I)I" } : Jvm.MethodName), Jvm.Cond.code ({ cls := "NightjarModel", name := "no", desc := "(I)I" } : Jvm.MethodName) prog_9_method_3_code (2 : Nat) (Option.some Jvm.ClassFile.FieldType.int), Jvm.Cond.instanceMethod ({ cls := "NightjarModel", name := "no", desc := "(I)I" } : Jvm.MethodName), Cond.selects "NightjarModel" ⟨"NightjarModel", "no", "(I)I"⟩ ⟨"NightjarModel", "no", "(I)I"⟩, Jvm.Cond.methodLink "NightjarModel" (92 : Nat) ({ cls := "NightjarModel", name := "learnLine", desc := "(II)V" } : Jvm.MethodName), Jvm.Cond.code ({ cls := "NightjarModel", name := "learnLine", desc := "(II)V" } : Jvm.MethodName) prog_9_method_11_code (5 : Nat) (Option.none : Option Jvm.ClassFile.FieldType), Jvm.Cond.instanceMethod ({ cls := "NightjarModel", name := "learnLine", desc := "(II)V" } : Jvm.MethodName), Cond.selects "NightjarModel" ⟨"NightjarModel", "learnLine", "(II)V"⟩ ⟨"NightjarModel", "learnLine", "(II)V"⟩, Jvm.Cond.methodLink "NightjarModel" (126 : Nat) ({ cls := "NightjarModel", name := "tellAll", desc := "()V" } : Jvm.MethodName), Jvm.Cond.code ({ cls := "NightjarModel", name := "tellAll", desc := "()V" } : Jvm.MethodName) prog_9_method_26_code (1 : Nat) (Option.none : Option Jvm.ClassFile.FieldType), Jvm.Cond.instanceMethod ({ cls := "NightjarModel", name := "tellAll", desc := "()V" } : Jvm.MethodName), Cond.selects "NightjarModel" ⟨"NightjarModel", "tellAll", "()V"⟩ ⟨"NightjarModel", "tellAll", "()V"⟩, Jvm.Cond.methodLink "NightjarModel" (129 : Nat) ({ cls := "NightjarModel", name := "manyNow", desc := "(I)I" } : Jvm.MethodName), Jvm.Cond.code ({ cls := "NightjarModel", name := "manyNow", desc := "(I)I" } : Jvm.MethodName) prog_9_method_25_code (4 : Nat) (Option.some Jvm.ClassFile.FieldType.int), Jvm.Cond.instanceMethod ({ cls := "NightjarModel", name := "manyNow", desc := "(I)I" } : Jvm.MethodName), Cond.selects "NightjarModel" ⟨"NightjarModel", "manyNow", "(I)I"⟩ ⟨"NightjarModel", "manyNow", "(I)I"⟩, Jvm.Cond.methodLink "NightjarModel" (153 : Nat) ({ cls := "NightjarModel", name := "isLine", desc := "(I)Z" } : Jvm.MethodName), Jvm.Cond.code ({ cls := "NightjarModel", name := "isLine", desc := "(I)Z" } : Jvm.MethodName) prog_9_method_5_code (2 : Nat) (Option.some Jvm.ClassFile.FieldType.boolean), Jvm.Cond.instanceMethod ({ cls := "NightjarModel", name := "isLine", desc := "(I)Z" } : Jvm.MethodName), Cond.selects "NightjarModel" ⟨"NightjarModel", "isLine", "(I)Z"⟩ ⟨"NightjarModel", "isLine", "(I)Z"⟩, Jvm.Cond.methodLink "NightjarModel" (156 : Nat) ({ cls := "NightjarModel", name := "ofLineNow", desc := "(II)I" } : Jvm.MethodName), Jvm.Cond.code ({ cls := "NightjarModel", name := "ofLineNow", desc := "(II)I" } : Jvm.MethodName) prog_9_method_34_code (3 : Nat) (Option.some Jvm.ClassFile.FieldType.int), Jvm.Cond.instanceMethod ({ cls := "NightjarModel", name := "ofLineNow", desc := "(II)I" } : Jvm.MethodName), Cond.selects "NightjarModel" ⟨"NightjarModel", "ofLineNow", "(II)I"⟩ ⟨"NightjarModel", "ofLineNow", "(II)I"⟩, Jvm.Cond.methodLink "NightjarModel" (167 : Nat) ({ cls := "NightjarModel", name := "isTemplate", desc := "(I)Z" } : Jvm.MethodName), Jvm.Cond.code ({ cls := "NightjarModel", name := "isTemplate", desc := "(I)Z" } : Jvm.MethodName) prog_9_method_6_code (2 : Nat) (Option.some Jvm.ClassFile.FieldType.boolean), Jvm.Cond.instanceMethod ({ cls := "NightjarModel", name := "isTemplate", desc := "(I)Z" } : Jvm.MethodName), Cond.selects "NightjarModel" ⟨"NightjarModel", "isTemplate", "(I)Z"⟩ ⟨"NightjarModel", "isTemplate", "(I)Z"⟩, Jvm.Cond.methodLink "NightjarModel" (170 : Nat) ({ cls := "NightjarModel", name := "ofTemplateNow", desc := "(II)I" } : Jvm.MethodName), Jvm.Cond.code ({ cls := "NightjarModel", name := "ofTemplateNow", desc := "(II)I" } : Jvm.MethodName) prog_9_method_37_code (7 : Nat) (Option.some Jvm.ClassFile.FieldType.int), Jvm.Cond.instanceMethod ({ cls := "NightjarModel", name := "ofTemplateNow", desc := "(II)I" } : Jvm.MethodName), Cond.selects "NightjarModel" ⟨"NightjarModel", "ofTemplateNow", "(II)I"⟩ ⟨"NightjarModel", "ofTemplateNow", "(II)I"⟩, Jvm.Cond.methodLink "NightjarModel" (176 : Nat) ({ cls := "NightjarModel", name := "valuesNow", desc := "(II)I" } : Jvm.MethodName), Jvm.Cond.code ({ cls := "NightjarModel", name := "valuesNow", desc := "(II)I" } : Jvm.MethodName) prog_9_method_41_code (7 : Nat) (Option.some Jvm.ClassFile.FieldType.int), Jvm.Cond.instanceMethod ({ cls := "NightjarModel", name := "valuesNow", desc := "(II)I" } : Jvm.MethodName), Cond.selects "NightjarModel" ⟨"NightjarModel", "valuesNow", "(II)I"⟩ ⟨"NightjarModel", "valuesNow", "(II)I"⟩, Jvm.Cond.methodLink "NightjarModel" (188 : Nat) ({ cls := "NightjarModel", name := "ofSessionNow", desc := "(II)I" } : Jvm.MethodName), Jvm.Cond.code ({ cls := "NightjarModel", name := "ofSessionNow", desc := "(II)I" } : Jvm.MethodName) prog_9_method_47_code (7 : Nat) (Option.some Jvm.ClassFile.FieldType.int)]
def zall_10 : List Jvm.Cond := [Jvm.Cond.instanceMethod ({ cls := "NightjarModel", name := "ofSessionNow", desc := "(II)I" } : Jvm.MethodName), Cond.selects "NightjarModel" ⟨"NightjarModel", "ofSessionNow", "(II)I"⟩ ⟨"NightjarModel", "ofSessionNow", "(II)I"⟩, Jvm.Cond.methodLink "NightjarModel" (191 : Nat) ({ cls := "NightjarModel", name := "usualNow", desc := "()I" } : Jvm.MethodName), Jvm.Cond.code ({ cls := "NightjarModel", name := "usualNow", desc := "()I" } : Jvm.MethodName) prog_9_method_50_code (5 : Nat) (Option.some Jvm.ClassFile.FieldType.int), Jvm.Cond.instanceMethod ({ cls := "NightjarModel", name := "usualNow", desc := "()I" } : Jvm.MethodName), Cond.selects "NightjarModel" ⟨"NightjarModel", "usualNow", "()I"⟩ ⟨"NightjarModel", "usualNow", "()I"⟩, Jvm.Cond.methodLink "NightjarModel" (195 : Nat) ({ cls := "NightjarModel", name := "spikeNow", desc := "(II)I" } : Jvm.MethodName), Jvm.Cond.code ({ cls := "NightjarModel", name := "spikeNow", desc := "(II)I" } : Jvm.MethodName) prog_9_method_54_code (3 : Nat) (Option.some Jvm.ClassFile.FieldType.int), Jvm.Cond.instanceMethod ({ cls := "NightjarModel", name := "spikeNow", desc := "(II)I" } : Jvm.MethodName), Cond.selects "NightjarModel" ⟨"NightjarModel", "spikeNow", "(II)I"⟩ ⟨"NightjarModel", "spikeNow", "(II)I"⟩, Jvm.Cond.methodLink "NightjarModel" (198 : Nat) ({ cls := "NightjarModel", name := "becauseNow", desc := "(I)I" } : Jvm.MethodName), Jvm.Cond.code ({ cls := "NightjarModel", name := "becauseNow", desc := "(I)I" } : Jvm.MethodName) prog_9_method_33_code (4 : Nat) (Option.some Jvm.ClassFile.FieldType.int), Jvm.Cond.instanceMethod ({ cls := "NightjarModel", name := "becauseNow", desc := "(I)I" } : Jvm.MethodName), Cond.selects "NightjarModel" ⟨"NightjarModel", "becauseNow", "(I)I"⟩ ⟨"NightjarModel", "becauseNow", "(I)I"⟩, Jvm.Cond.methodLink "NightjarModel" (202 : Nat) ({ cls := "NightjarModel", name := "putBy", desc := "(Z)[[I" } : Jvm.MethodName), Jvm.Cond.code ({ cls := "NightjarModel", name := "putBy", desc := "(Z)[[I" } : Jvm.MethodName) prog_9_method_59_code (3 : Nat) (Option.some (Jvm.ClassFile.FieldType.array (Jvm.ClassFile.FieldType.array Jvm.ClassFile.FieldType.int))), Jvm.Cond.instanceMethod ({ cls := "NightjarModel", name := "putBy", desc := "(Z)[[I" } : Jvm.MethodName), Cond.selects "NightjarModel" ⟨"NightjarModel", "putBy", "(Z)[[I"⟩ ⟨"NightjarModel", "putBy", "(Z)[[I"⟩, Jvm.Cond.methodLink "NightjarModel" (206 : Nat) ({ cls := "NightjarModel", name := "takeAgain", desc := "([[I)V" } : Jvm.MethodName), Jvm.Cond.code ({ cls := "NightjarModel", name := "takeAgain", desc := "([[I)V" } : Jvm.MethodName) prog_9_method_60_code (2 : Nat) (Option.none : Option Jvm.ClassFile.FieldType), Jvm.Cond.instanceMethod ({ cls := "NightjarModel", name := "takeAgain", desc := "([[I)V" } : Jvm.MethodName), Cond.selects "NightjarModel" ⟨"NightjarModel", "takeAgain", "([[I)V"⟩ ⟨"NightjarModel", "takeAgain", "([[I)V"⟩, Jvm.Cond.constantLong "NightjarModel" (210 : Nat) (58085 : Int64), Jvm.Cond.constantLong "NightjarModel" (212 : Nat) (31 : Int64), Jvm.Cond.laysFinal "Nightjar$Lines" "Nightjar$Lines" "times" "LNightjar$Row;", Jvm.Cond.laysFinal "Nightjar$Lines" "Nightjar$Lines" "sources" "LNightjar$Row;", Jvm.Cond.laysFinal "Nightjar$Lines" "Nightjar$Lines" "levels" "LNightjar$Row;", Jvm.Cond.laysFinal "Nightjar$Lines" "Nightjar$Lines" "sizes" "LNightjar$Row;", Jvm.Cond.laysFinal "Nightjar$Lines" "Nightjar$Lines" "words" "LNightjar$Row;", Jvm.Cond.laysFinal "Nightjar$Lines" "Nightjar$Lines" "templateOf" "LNightjar$Row;", Jvm.Cond.laysFinal "Nightjar$Lines" "Nightjar$Lines" "keys" "LNightjar$Row;", Jvm.Cond.lays "Nightjar$Lines" "Nightjar$Lines" "number" "I", Jvm.Cond.lays "Nightjar$Lines" "Nightjar$Lines" "learned" "I", Jvm.Cond.laysFinal "Nightjar$Row" "Nightjar$Row" "cells" "[I", Jvm.Cond.laysFinal "Nightjar$Scenes" "Nightjar$Scenes" "sizes" "LNightjar$Row;", Jvm.Cond.laysFinal "Nightjar$Scenes" "Nightjar$Scenes" "masks" "LNightjar$Row;", Jvm.Cond.laysFinal "Nightjar$Scenes" "Nightjar$Scenes" "together" "LNightjar$Row;", Jvm.Cond.laysFinal "Nightjar$Scenes" "Nightjar$Scenes" "all" "LNightjar$Row;", Jvm.Cond.laysFinal "Nightjar$Scenes" "Nightjar$Scenes" "lineNumbers" "LNightjar$Row;", Jvm.Cond.laysFinal "Nightjar$Scenes" "Nightjar$Scenes" "scores" "LNightjar$Row;", Jvm.Cond.laysFinal "Nightjar$Scenes" "Nightjar$Scenes" "ranking" "LNightjar$Row;", Jvm.Cond.laysFinal "Nightjar$Scenes" "Nightjar$Scenes" "causeNumbers" "LNightjar$Row;", Jvm.Cond.laysFinal "Nightjar$Sessions" "Nightjar$Sessions" "sessionOf" "LNightjar$Row;", Jvm.Cond.laysFinal "Nightjar$Sessions" "Nightjar$Sessions" "nexts" "LNightjar$Row;", Jvm.Cond.laysFinal "Nightjar$Sessions" "Nightjar$Sessions" "firsts" "LNightjar$Row;", Jvm.Cond.laysFinal "Nightjar$Sessions" "Nightjar$Sessions" "lasts" "LNightjar$Row;", Jvm.Cond.laysFinal "Nightjar$Sessions" "Nightjar$Sessions" "sizes" "LNightjar$Row;", Jvm.Cond.laysFinal "Nightjar$Sessions" "Nightjar$Sessions" "worst" "LNightjar$Row;", Jvm.Cond.laysFinal "Nightjar$Sessions" "Nightjar$Sessions" "paths" "LNightjar$Row;", Jvm.Cond.laysFinal "Nightjar$Sessions" "Nightjar$Sessions" "users" "LNightjar$Row;", Jvm.Cond.lays "Nightjar$Sessions" "Nightjar$Sessions" "number" "I", Jvm.Cond.laysFinal "Nightjar$Spikes" "Nightjar$Spikes" "windows" "LNightjar$Row;", Jvm.Cond.laysFinal "Nightjar$Spikes" "Nightjar$Spikes" "templates" "LNightjar$Row;", Jvm.Cond.laysFinal "Nightjar$Spikes" "Nightjar$Spikes" "counts" "LNightjar$Row;", Jvm.Cond.laysFinal "Nightjar$Spikes" "Nightjar$Spikes" "inWindow" "LNightjar$Row;", Jvm.Cond.lays "Nightjar$Spikes" "Nightjar$Spikes" "number" "I", Jvm.Cond.laysFinal "Nightjar$Templates" "Nightjar$Templates" "sizes" "LNightjar$Row;", Jvm.Cond.laysFinal "Nightjar$Templates" "Nightjar$Templates" "slots" "LNightjar$Row;", Jvm.Cond.lays "Nightjar$Templates" "Nightjar$Templates" "number" "I", Jvm.Cond.laysFinal "Nightjar" "Nightjar" "lines" "LNightjar$Lines;"]
def zall_11 : List Jvm.Cond := [Jvm.Cond.laysFinal "Nightjar" "Nightjar" "templates" "LNightjar$Templates;", Jvm.Cond.laysFinal "Nightjar" "Nightjar" "trial" "LNightjar$Templates;", Jvm.Cond.laysFinal "Nightjar" "Nightjar" "sessions" "LNightjar$Sessions;", Jvm.Cond.laysFinal "Nightjar" "Nightjar" "spikes" "LNightjar$Spikes;", Jvm.Cond.laysFinal "Nightjar" "Nightjar" "scenes" "LNightjar$Scenes;", Jvm.Cond.laysFinal "Nightjar" "Nightjar" "settings" "LNightjar$Row;", Jvm.Cond.lays "NightjarModel" "NightjarModel" "thrown" "I", Jvm.Cond.lays "NightjarModel" "NightjarModel" "lines" "I", Jvm.Cond.laysFinal "NightjarModel" "NightjarModel" "time" "[I", Jvm.Cond.laysFinal "NightjarModel" "NightjarModel" "source" "[I", Jvm.Cond.laysFinal "NightjarModel" "NightjarModel" "level" "[I", Jvm.Cond.laysFinal "NightjarModel" "NightjarModel" "many" "[I", Jvm.Cond.laysFinal "NightjarModel" "NightjarModel" "word" "[I", Jvm.Cond.laysFinal "NightjarModel" "NightjarModel" "setting" "[I", Jvm.Cond.lays "NightjarModel" "NightjarModel" "learned" "I", Jvm.Cond.lays "NightjarModel" "NightjarModel" "of" "[I", Jvm.Cond.lays "NightjarModel" "NightjarModel" "templates" "I", Jvm.Cond.lays "NightjarModel" "NightjarModel" "places" "[I", Jvm.Cond.lays "NightjarModel" "NightjarModel" "slot" "[I", Jvm.Cond.lays "NightjarModel" "NightjarModel" "sessions" "I", Jvm.Cond.laysFinal "NightjarModel" "NightjarModel" "sessionOf" "[I", Jvm.Cond.laysFinal "NightjarModel" "NightjarModel" "first" "[I", Jvm.Cond.laysFinal "NightjarModel" "NightjarModel" "last" "[I", Jvm.Cond.lays "NightjarModel" "NightjarModel" "spikes" "I", Jvm.Cond.laysFinal "NightjarModel" "NightjarModel" "spikeWindow" "[I", Jvm.Cond.laysFinal "NightjarModel" "NightjarModel" "spikeTemplate" "[I", Jvm.Cond.lays "NightjarModel" "NightjarModel" "causes" "I", Jvm.Cond.laysFinal "NightjarModel" "NightjarModel" "cause" "[I", Jvm.Cond.code ({ cls := "Nightjar", name := "<init>", desc := "()V" } : Jvm.MethodName) prog_1_method_1_code (1 : Nat) (Option.none : Option Jvm.ClassFile.FieldType), Jvm.Cond.code ({ cls := "Nightjar", name := "line", desc := "(III)I" } : Jvm.MethodName) prog_1_method_2_code (5 : Nat) (Option.some Jvm.ClassFile.FieldType.int), Jvm.Cond.code ({ cls := "Nightjar", name := "word", desc := "(I)I" } : Jvm.MethodName) prog_1_method_3_code (3 : Nat) (Option.some Jvm.ClassFile.FieldType.int), Jvm.Cond.code ({ cls := "Nightjar", name := "learn", desc := "(I)I" } : Jvm.MethodName) prog_1_method_4_code (6 : Nat) (Option.some Jvm.ClassFile.FieldType.int), Jvm.Cond.code ({ cls := "Nightjar", name := "set", desc := "(II)I" } : Jvm.MethodName) prog_1_method_5_code (6 : Nat) (Option.some Jvm.ClassFile.FieldType.int), Jvm.Cond.code ({ cls := "Nightjar", name := "forget", desc := "()I" } : Jvm.MethodName) prog_1_method_6_code (2 : Nat) (Option.some Jvm.ClassFile.FieldType.int), Jvm.Cond.code ({ cls := "Nightjar", name := "wordAt", desc := "(II)I" } : Jvm.MethodName) prog_1_method_9_code (3 : Nat) (Option.some Jvm.ClassFile.FieldType.int), Jvm.Cond.code ({ cls := "Nightjar", name := "alike", desc := "(II)I" } : Jvm.MethodName) prog_1_method_13_code (3 : Nat) (Option.some Jvm.ClassFile.FieldType.int), Jvm.Cond.code ({ cls := "Nightjar", name := "inSession", desc := "(II)I" } : Jvm.MethodName) prog_1_method_15_code (3 : Nat) (Option.some Jvm.ClassFile.FieldType.int), Jvm.Cond.code ({ cls := "Nightjar", name := "meanSession", desc := "()D" } : Jvm.MethodName) prog_1_method_17_code (1 : Nat) (Option.some Jvm.ClassFile.FieldType.double), Jvm.Cond.code ({ cls := "Nightjar", name := "count", desc := "(II)I" } : Jvm.MethodName) prog_1_method_18_code (3 : Nat) (Option.some Jvm.ClassFile.FieldType.int), Jvm.Cond.code ({ cls := "Nightjar", name := "templatesWith", desc := "(I)I" } : Jvm.MethodName) prog_1_method_23_code (3 : Nat) (Option.some Jvm.ClassFile.FieldType.int), Jvm.Cond.code ({ cls := "Nightjar", name := "sessionsWith", desc := "(I)I" } : Jvm.MethodName) prog_1_method_24_code (4 : Nat) (Option.some Jvm.ClassFile.FieldType.int), Jvm.Cond.code ({ cls := "Nightjar", name := "wouldBe", desc := "(I)I" } : Jvm.MethodName) prog_1_method_25_code (2 : Nat) (Option.some Jvm.ClassFile.FieldType.int), Jvm.Cond.code ({ cls := "Nightjar", name := "digest", desc := "()J" } : Jvm.MethodName) prog_1_method_26_code (5 : Nat) (Option.some Jvm.ClassFile.FieldType.long), Jvm.Cond.code ({ cls := "NightjarModel", name := "<init>", desc := "()V" } : Jvm.MethodName) prog_9_method_1_code (1 : Nat) (Option.none : Option Jvm.ClassFile.FieldType), Jvm.Cond.code ({ cls := "NightjarModel", name := "thrown", desc := "()I" } : Jvm.MethodName) prog_9_method_2_code (1 : Nat) (Option.some Jvm.ClassFile.FieldType.int), Jvm.Cond.code ({ cls := "NightjarModel", name := "line", desc := "(III)I" } : Jvm.MethodName) prog_9_method_7_code (4 : Nat) (Option.some Jvm.ClassFile.FieldType.int), Jvm.Cond.code ({ cls := "NightjarModel", name := "word", desc := "(I)I" } : Jvm.MethodName) prog_9_method_8_code (2 : Nat) (Option.some Jvm.ClassFile.FieldType.int), Jvm.Cond.code ({ cls := "NightjarModel", name := "learn", desc := "(I)I" } : Jvm.MethodName) prog_9_method_14_code (3 : Nat) (Option.some Jvm.ClassFile.FieldType.int), Jvm.Cond.code ({ cls := "NightjarModel", name := "set", desc := "(II)I" } : Jvm.MethodName) prog_9_method_15_code (4 : Nat) (Option.some Jvm.ClassFile.FieldType.int), Jvm.Cond.code ({ cls := "NightjarModel", name := "forget", desc := "()I" } : Jvm.MethodName) prog_9_method_16_code (2 : Nat) (Option.some Jvm.ClassFile.FieldType.int), Jvm.Cond.code ({ cls := "NightjarModel", name := "many", desc := "(I)I" } : Jvm.MethodName) prog_9_method_27_code (2 : Nat) (Option.some Jvm.ClassFile.FieldType.int), Jvm.Cond.code ({ cls := "NightjarModel", name := "ofLine", desc := "(II)I" } : Jvm.MethodName) prog_9_method_35_code (3 : Nat) (Option.some Jvm.ClassFile.FieldType.int), Jvm.Cond.code ({ cls := "NightjarModel", name := "wordAt", desc := "(II)I" } : Jvm.MethodName) prog_9_method_36_code (3 : Nat) (Option.some Jvm.ClassFile.FieldType.int), Jvm.Cond.code ({ cls := "NightjarModel", name := "ofTemplate", desc := "(II)I" } : Jvm.MethodName) prog_9_method_38_code (3 : Nat) (Option.some Jvm.ClassFile.FieldType.int), Jvm.Cond.code ({ cls := "NightjarModel", name := "slot", desc := "(II)I" } : Jvm.MethodName) prog_9_method_39_code (3 : Nat) (Option.some Jvm.ClassFile.FieldType.int), Jvm.Cond.code ({ cls := "NightjarModel", name := "values", desc := "(II)I" } : Jvm.MethodName) prog_9_method_42_code (3 : Nat) (Option.some Jvm.ClassFile.FieldType.int), Jvm.Cond.code ({ cls := "NightjarModel", name := "alike", desc := "(II)I" } : Jvm.MethodName) prog_9_method_43_code (3 : Nat) (Option.some Jvm.ClassFile.FieldType.int), Jvm.Cond.code ({ cls := "NightjarModel", name := "ofSession", desc := "(II)I" } : Jvm.MethodName) prog_9_method_48_code (3 : Nat) (Option.some Jvm.ClassFile.FieldType.int), Jvm.Cond.code ({ cls := "NightjarModel", name := "inSession", desc := "(II)I" } : Jvm.MethodName) prog_9_method_49_code (5 : Nat) (Option.some Jvm.ClassFile.FieldType.int), Jvm.Cond.code ({ cls := "NightjarModel", name := "usual", desc := "()I" } : Jvm.MethodName) prog_9_method_51_code (1 : Nat) (Option.some Jvm.ClassFile.FieldType.int)]
def zall_12 : List Jvm.Cond := [Jvm.Cond.code ({ cls := "NightjarModel", name := "meanSession", desc := "()D" } : Jvm.MethodName) prog_9_method_52_code (3 : Nat) (Option.some Jvm.ClassFile.FieldType.double), Jvm.Cond.code ({ cls := "NightjarModel", name := "count", desc := "(II)I" } : Jvm.MethodName) prog_9_method_53_code (3 : Nat) (Option.some Jvm.ClassFile.FieldType.int), Jvm.Cond.code ({ cls := "NightjarModel", name := "spike", desc := "(II)I" } : Jvm.MethodName) prog_9_method_55_code (3 : Nat) (Option.some Jvm.ClassFile.FieldType.int), Jvm.Cond.code ({ cls := "NightjarModel", name := "causes", desc := "(I)I" } : Jvm.MethodName) prog_9_method_56_code (2 : Nat) (Option.some Jvm.ClassFile.FieldType.int), Jvm.Cond.code ({ cls := "NightjarModel", name := "cause", desc := "(III)I" } : Jvm.MethodName) prog_9_method_57_code (4 : Nat) (Option.some Jvm.ClassFile.FieldType.int), Jvm.Cond.code ({ cls := "NightjarModel", name := "because", desc := "(I)I" } : Jvm.MethodName) prog_9_method_58_code (2 : Nat) (Option.some Jvm.ClassFile.FieldType.int), Jvm.Cond.code ({ cls := "NightjarModel", name := "templatesWith", desc := "(I)I" } : Jvm.MethodName) prog_9_method_61_code (4 : Nat) (Option.some Jvm.ClassFile.FieldType.int), Jvm.Cond.code ({ cls := "NightjarModel", name := "sessionsWith", desc := "(I)I" } : Jvm.MethodName) prog_9_method_62_code (2 : Nat) (Option.some Jvm.ClassFile.FieldType.int), Jvm.Cond.code ({ cls := "NightjarModel", name := "wouldBe", desc := "(I)I" } : Jvm.MethodName) prog_9_method_63_code (4 : Nat) (Option.some Jvm.ClassFile.FieldType.int), Jvm.Cond.code ({ cls := "NightjarModel", name := "digest", desc := "()J" } : Jvm.MethodName) prog_9_method_64_code (5 : Nat) (Option.some Jvm.ClassFile.FieldType.long)]
def zall : List Jvm.Cond := zall_0 ++ zall_1 ++ zall_2 ++ zall_3 ++ zall_4 ++ zall_5 ++ zall_6 ++ zall_7 ++ zall_8 ++ zall_9 ++ zall_10 ++ zall_11 ++ zall_12
def zchk : List (List Jvm.Cond) := [zall_0, zall_1, zall_2, zall_3, zall_4, zall_5, zall_6, zall_7, zall_8, zall_9, zall_10, zall_11, zall_12]
theorem zall_in_0 : ∀ w ∈ zall_0, w ∈ lw_tbl := by
  have h : zall_0 = [90, 870, 89, 76, 77, 94, 542, 106, 312, 315, 313, 314, 55, 274, 154, 880, 945, 947, 946, 60, 1007, 1010, 1009, 25, 881, 882, 876, 877, 999, 1002, 1001, 23, 152, 320, 273, 118, 871, 878, 879, 1015, 1018, 1017, 27, 247, 407, 409, 408, 59, 396, 308, 311, 309, 310, 54, 276, 279, 329, 330, 333, 331].filterMap (fun i => lw_tbl[i]?) := by decide +kernel
  intro w hw
  rw [h] at hw
  obtain ⟨i, -, hi⟩ := List.mem_filterMap.mp hw
  exact List.mem_of_getElem? hi
theorem zall_in_1 : ∀ w ∈ zall_1, w ∈ lw_tbl := by
  have h : zall_1 = [332, 57, 352, 355, 353, 354, 277, 364, 367, 365, 366, 58, 278, 388, 391, 389, 390, 401, 404, 402, 403, 120, 410, 413, 411, 412, 875, 890, 1151, 1154, 1153, 47, 1155, 1158, 1157, 48, 884, 243, 182, 181, 335, 964, 967, 966, 18, 972, 975, 974, 20, 872, 1047, 1050, 1049, 34, 121, 95, 373, 372, 53, 107].filterMap (fun i => lw_tbl[i]?) := by decide +kernel
  intro w hw
  rw [h] at hw
  obtain ⟨i, -, hi⟩ := List.mem_filterMap.mp hw
  exact List.mem_of_getElem? hi
theorem zall_in_2 : ∀ w ∈ zall_2, w ∈ lw_tbl := by
  have h : zall_2 = [112, 98, 244, 414, 417, 415, 416, 246, 147, 148, 85, 149, 88, 87, 150, 321, 324, 322, 323, 56, 105, 740, 328, 326, 327, 153, 736, 739, 737, 738, 732, 735, 733, 734, 741, 744, 743, 14, 746, 749, 748, 15, 184, 883, 1003, 1006, 1005, 24, 885, 886, 887, 1019, 1022, 1021, 28, 888, 889, 1027, 1030, 1029].filterMap (fun i => lw_tbl[i]?) := by decide +kernel
  intro w hw
  rw [h] at hw
  obtain ⟨i, -, hi⟩ := List.mem_filterMap.mp hw
  exact List.mem_of_getElem? hi
theorem zall_in_3 : ∀ w ∈ zall_3, w ∈ lw_tbl := by
  have h : zall_3 = [30, 995, 998, 997, 22, 1011, 1014, 1013, 26, 873, 1147, 1150, 1149, 46, 891, 874, 1043, 1046, 1045, 33, 1067, 1070, 1069, 37, 1071, 1072, 68, 1073, 1086, 1089, 1088, 39, 1090, 1107, 1110, 1109, 42, 1103, 1106, 1105, 41, 1179, 976, 978, 977, 66, 83, 84, 86, 100, 103, 115, 303, 272, 270, 271, 316, 319, 317, 318].filterMap (fun i => lw_tbl[i]?) := by decide +kernel
  intro w hw
  rw [h] at hw
  obtain ⟨i, -, hi⟩ := List.mem_filterMap.mp hw
  exact List.mem_of_getElem? hi
theorem zall_in_4 : ∀ w ∈ zall_4, w ∈ lw_tbl := by
  have h : zall_4 = [325, 630, 633, 632, 12, 237, 238, 239, 240, 242, 245, 248, 116, 392, 395, 393, 394, 109, 397, 399, 398, 400, 405, 359, 357, 358, 122, 406, 351, 349, 350, 419, 422, 420, 421, 423, 426, 425, 6, 427, 430, 428, 429, 431, 434, 432, 433, 581, 583, 582, 167, 168, 169, 170, 172, 173, 175, 177, 179, 183].filterMap (fun i => lw_tbl[i]?) := by decide +kernel
  intro w hw
  rw [h] at hw
  obtain ⟨i, -, hi⟩ := List.mem_filterMap.mp hw
  exact List.mem_of_getElem? hi
theorem zall_in_5 : ∀ w ∈ zall_5, w ∈ lw_tbl := by
  have h : zall_5 = [117, 334, 113, 336, 339, 337, 338, 340, 343, 342, 1, 344, 347, 346, 2, 348, 101, 356, 360, 363, 362, 3, 111, 662, 664, 663, 69, 443, 446, 444, 445, 209, 210, 211, 212, 214, 216, 218, 219, 368, 119, 108, 369, 370, 96, 374, 377, 376, 4, 378, 381, 379, 380, 383, 386, 385, 5, 387, 745, 464].filterMap (fun i => lw_tbl[i]?) := by decide +kernel
  intro w hw
  rw [h] at hw
  obtain ⟨i, -, hi⟩ := List.mem_filterMap.mp hw
  exact List.mem_of_getElem? hi
theorem zall_in_6 : ∀ w ∈ zall_6, w ∈ lw_tbl := by
  have h : zall_6 = [466, 465, 535, 538, 536, 537, 220, 551, 554, 553, 9, 97, 99, 102, 104, 110, 114, 171, 572, 241, 592, 595, 594, 11, 151, 598, 601, 599, 600, 602, 605, 603, 604, 606, 609, 607, 608, 610, 613, 611, 612, 619, 624, 626, 629, 627, 628, 652, 655, 654, 13, 174, 176, 178, 180, 658, 661, 659, 660, 668].filterMap (fun i => lw_tbl[i]?) := by decide +kernel
  intro w hw
  rw [h] at hw
  obtain ⟨i, -, hi⟩ := List.mem_filterMap.mp hw
  exact List.mem_of_getElem? hi
theorem zall_in_7 : ∀ w ∈ zall_7, w ∈ lw_tbl := by
  have h : zall_7 = [439, 442, 440, 441, 213, 215, 217, 249, 644, 645, 646, 647, 577, 580, 578, 579, 547, 550, 548, 549, 539, 541, 540, 573, 576, 574, 575, 588, 591, 589, 590, 614, 617, 615, 616, 620, 623, 621, 622, 634, 637, 635, 636, 638, 641, 639, 640, 968, 971, 970, 19, 1111, 1114, 1113, 43, 665, 666, 667, 75, 78].filterMap (fun i => lw_tbl[i]?) := by decide +kernel
  intro w hw
  rw [h] at hw
  obtain ⟨i, -, hi⟩ := List.mem_filterMap.mp hw
  exact List.mem_of_getElem? hi
theorem zall_in_8 : ∀ w ∈ zall_8, w ∈ lw_tbl := by
  have h : zall_8 = [79, 82, 81, 142, 143, 146, 145, 275, 162, 163, 166, 165, 204, 205, 208, 207, 232, 233, 236, 235, 267, 268, 269, 703, 706, 704, 705, 304, 307, 306, 0, 716, 719, 717, 718, 728, 731, 729, 730, 299, 302, 300, 301, 776, 796, 809, 812, 810, 811, 451, 454, 452, 453, 821, 854, 863, 459, 460, 463, 461].filterMap (fun i => lw_tbl[i]?) := by decide +kernel
  intro w hw
  rw [h] at hw
  obtain ⟨i, -, hi⟩ := List.mem_filterMap.mp hw
  exact List.mem_of_getElem? hi
theorem zall_in_9 : ∀ w ∈ zall_9, w ∈ lw_tbl := by
  have h : zall_9 = [462, 543, 546, 545, 8, 584, 587, 586, 10, 648, 651, 649, 650, 669, 438, 436, 437, 670, 673, 671, 672, 869, 948, 951, 950, 16, 960, 963, 962, 17, 991, 994, 993, 21, 1023, 1026, 1025, 29, 1035, 1038, 1037, 31, 1039, 1042, 1041, 32, 1059, 1062, 1061, 35, 1063, 1066, 1065, 36, 1082, 1085, 1084, 38, 1099, 1102].filterMap (fun i => lw_tbl[i]?) := by decide +kernel
  intro w hw
  rw [h] at hw
  obtain ⟨i, -, hi⟩ := List.mem_filterMap.mp hw
  exact List.mem_of_getElem? hi
theorem zall_in_10 : ∀ w ∈ zall_10, w ∈ lw_tbl := by
  have h : zall_10 = [1101, 40, 1123, 1126, 1125, 44, 1139, 1142, 1141, 45, 1167, 1170, 1169, 49, 1175, 1178, 1177, 50, 1181, 1184, 1183, 51, 1197, 1198, 123, 125, 127, 129, 131, 133, 135, 137, 139, 91, 250, 252, 254, 256, 258, 260, 262, 264, 185, 187, 189, 191, 193, 195, 197, 199, 201, 221, 223, 225, 227, 229, 155, 157, 159, 280].filterMap (fun i => lw_tbl[i]?) := by decide +kernel
  intro w hw
  rw [h] at hw
  obtain ⟨i, -, hi⟩ := List.mem_filterMap.mp hw
  exact List.mem_of_getElem? hi
theorem zall_in_11 : ∀ w ∈ zall_11, w ∈ lw_tbl := by
  have h : zall_11 = [282, 284, 286, 288, 290, 292, 892, 894, 896, 898, 900, 902, 904, 906, 908, 910, 912, 914, 916, 918, 920, 922, 924, 926, 928, 930, 932, 934, 74, 684, 713, 726, 756, 298, 774, 795, 807, 450, 819, 844, 852, 861, 458, 868, 940, 944, 955, 959, 982, 986, 990, 1034, 1054, 1058, 1077, 1081, 1094, 1098, 1118, 1122].filterMap (fun i => lw_tbl[i]?) := by decide +kernel
  intro w hw
  rw [h] at hw
  obtain ⟨i, -, hi⟩ := List.mem_filterMap.mp hw
  exact List.mem_of_getElem? hi
theorem zall_in_12 : ∀ w ∈ zall_12, w ∈ lw_tbl := by
  have h : zall_12 = [1130, 1134, 1138, 1146, 1162, 1166, 1174, 1188, 1192, 1196].filterMap (fun i => lw_tbl[i]?) := by decide +kernel
  intro w hw
  rw [h] at hw
  obtain ⟨i, -, hi⟩ := List.mem_filterMap.mp hw
  exact List.mem_of_getElem? hi
theorem zall_in : ∀ w ∈ zall, w ∈ lw_tbl := by
  intro w hw
  simp only [zall, List.mem_append] at hw
  rcases hw with (((((((((((h0 | h1) | h2) | h3) | h4) | h5) | h6) | h7) | h8) | h9) | h10) | h11) | h12
  · exact zall_in_0 w h0
  · exact zall_in_1 w h1
  · exact zall_in_2 w h2
  · exact zall_in_3 w h3
  · exact zall_in_4 w h4
  · exact zall_in_5 w h5
  · exact zall_in_6 w h6
  · exact zall_in_7 w h7
  · exact zall_in_8 w h8
  · exact zall_in_9 w h9
  · exact zall_in_10 w h10
  · exact zall_in_11 w h11
  · exact zall_in_12 w h12
theorem zchk_in : ∀ k, ∀ w ∈ zchk.getD k [], w ∈ zall := by
  intro k w hw
  simp only [zall, List.mem_append]
  rcases k with _ | k
  · exact Or.inl (Or.inl (Or.inl (Or.inl (Or.inl (Or.inl (Or.inl (Or.inl (Or.inl (Or.inl (Or.inl (Or.inl (hw))))))))))))
  rcases k with _ | k
  · exact Or.inl (Or.inl (Or.inl (Or.inl (Or.inl (Or.inl (Or.inl (Or.inl (Or.inl (Or.inl (Or.inl (Or.inr hw)))))))))))
  rcases k with _ | k
  · exact Or.inl (Or.inl (Or.inl (Or.inl (Or.inl (Or.inl (Or.inl (Or.inl (Or.inl (Or.inl (Or.inr hw))))))))))
  rcases k with _ | k
  · exact Or.inl (Or.inl (Or.inl (Or.inl (Or.inl (Or.inl (Or.inl (Or.inl (Or.inl (Or.inr hw)))))))))
  rcases k with _ | k
  · exact Or.inl (Or.inl (Or.inl (Or.inl (Or.inl (Or.inl (Or.inl (Or.inl (Or.inr hw))))))))
  rcases k with _ | k
  · exact Or.inl (Or.inl (Or.inl (Or.inl (Or.inl (Or.inl (Or.inl (Or.inr hw)))))))
  rcases k with _ | k
  · exact Or.inl (Or.inl (Or.inl (Or.inl (Or.inl (Or.inl (Or.inr hw))))))
  rcases k with _ | k
  · exact Or.inl (Or.inl (Or.inl (Or.inl (Or.inl (Or.inr hw)))))
  rcases k with _ | k
  · exact Or.inl (Or.inl (Or.inl (Or.inl (Or.inr hw))))
  rcases k with _ | k
  · exact Or.inl (Or.inl (Or.inl (Or.inr hw)))
  rcases k with _ | k
  · exact Or.inl (Or.inl (Or.inr hw))
  rcases k with _ | k
  · exact Or.inl (Or.inr hw)
  rcases k with _ | k
  · exact Or.inr hw
  · simp [zchk] at hw
theorem zall_good : zall.all goodWord = true := by decide +kernel
def znest : List (String × Nat × MethodName × String) := [("Nightjar$Lines", 66, ⟨"Nightjar", "quotient", "(II)I"⟩, "Nightjar"), ("Nightjar$Scenes", 81, ⟨"Nightjar", "quotient", "(II)I"⟩, "Nightjar"), ("Nightjar$Spikes", 54, ⟨"Nightjar", "quotient", "(II)I"⟩, "Nightjar"), ("Nightjar", 11, ⟨"Nightjar$Lines", "<init>", "()V"⟩, "Nightjar"), ("Nightjar", 18, ⟨"Nightjar$Templates", "<init>", "()V"⟩, "Nightjar"), ("Nightjar", 28, ⟨"Nightjar$Sessions", "<init>", "()V"⟩, "Nightjar"), ("Nightjar", 35, ⟨"Nightjar$Spikes", "<init>", "()V"⟩, "Nightjar"), ("Nightjar", 42, ⟨"Nightjar$Scenes", "<init>", "()V"⟩, "Nightjar")]
theorem znest_in : ∀ q ∈ znest, Cond.methodLinkNest q.1 q.2.1 q.2.2.1 q.2.2.2 ∈ lw_tbl := by
  have h : znest.map (fun q => Cond.methodLinkNest q.1 q.2.1 q.2.2.1 q.2.2.2) = [382, 418, 371, 80, 144, 164, 206, 234].filterMap (fun i => lw_tbl[i]?) := by decide +kernel
  intro q hq
  have h2 : Cond.methodLinkNest q.1 q.2.1 q.2.2.1 q.2.2.2 ∈ [382, 418, 371, 80, 144, 164, 206, 234].filterMap (fun i => lw_tbl[i]?) := by
    rw [← h]
    exact List.mem_map.mpr ⟨q, hq, rfl⟩
  obtain ⟨i, -, hi⟩ := List.mem_filterMap.mp h2
  exact List.mem_of_getElem? hi
def zF0 : u_T := fun k => match k with
  | 0 => ("Nightjar$Lines", "times", "LNightjar$Row;", true)
  | 1 => ("Nightjar$Lines", "sources", "LNightjar$Row;", true)
  | 2 => ("Nightjar$Lines", "levels", "LNightjar$Row;", true)
  | 3 => ("Nightjar$Lines", "sizes", "LNightjar$Row;", true)
  | 4 => ("Nightjar$Lines", "words", "LNightjar$Row;", true)
  | 5 => ("Nightjar$Lines", "templateOf", "LNightjar$Row;", true)
  | 6 => ("Nightjar$Lines", "keys", "LNightjar$Row;", true)
  | 7 => ("Nightjar$Lines", "number", "I", false)
  | _ => ("Nightjar$Lines", "learned", "I", false)
def zF1 : u_T := fun k => match k with
  | _ => ("Nightjar$Row", "cells", "[I", true)
def zF2 : u_T := fun k => match k with
  | 0 => ("Nightjar$Scenes", "sizes", "LNightjar$Row;", true)
  | 1 => ("Nightjar$Scenes", "masks", "LNightjar$Row;", true)
  | 2 => ("Nightjar$Scenes", "together", "LNightjar$Row;", true)
  | 3 => ("Nightjar$Scenes", "all", "LNightjar$Row;", true)
  | 4 => ("Nightjar$Scenes", "lineNumbers", "LNightjar$Row;", true)
  | 5 => ("Nightjar$Scenes", "scores", "LNightjar$Row;", true)
  | 6 => ("Nightjar$Scenes", "ranking", "LNightjar$Row;", true)
  | _ => ("Nightjar$Scenes", "causeNumbers", "LNightjar$Row;", true)
def zF3 : u_T := fun k => match k with
  | 0 => ("Nightjar$Sessions", "sessionOf", "LNightjar$Row;", true)
  | 1 => ("Nightjar$Sessions", "nexts", "LNightjar$Row;", true)
  | 2 => ("Nightjar$Sessions", "firsts", "LNightjar$Row;", true)
  | 3 => ("Nightjar$Sessions", "lasts", "LNightjar$Row;", true)
  | 4 => ("Nightjar$Sessions", "sizes", "LNightjar$Row;", true)
  | 5 => ("Nightjar$Sessions", "worst", "LNightjar$Row;", true)
  | 6 => ("Nightjar$Sessions", "paths", "LNightjar$Row;", true)
  | 7 => ("Nightjar$Sessions", "users", "LNightjar$Row;", true)
  | _ => ("Nightjar$Sessions", "number", "I", false)
def zF4 : u_T := fun k => match k with
  | 0 => ("Nightjar$Spikes", "windows", "LNightjar$Row;", true)
  | 1 => ("Nightjar$Spikes", "templates", "LNightjar$Row;", true)
  | 2 => ("Nightjar$Spikes", "counts", "LNightjar$Row;", true)
  | 3 => ("Nightjar$Spikes", "inWindow", "LNightjar$Row;", true)
  | _ => ("Nightjar$Spikes", "number", "I", false)
def zF5 : u_T := fun k => match k with
  | 0 => ("Nightjar$Templates", "sizes", "LNightjar$Row;", true)
  | 1 => ("Nightjar$Templates", "slots", "LNightjar$Row;", true)
  | _ => ("Nightjar$Templates", "number", "I", false)
def zF6 : u_T := fun k => match k with
  | 0 => ("Nightjar", "lines", "LNightjar$Lines;", true)
  | 1 => ("Nightjar", "templates", "LNightjar$Templates;", true)
  | 2 => ("Nightjar", "trial", "LNightjar$Templates;", true)
  | 3 => ("Nightjar", "sessions", "LNightjar$Sessions;", true)
  | 4 => ("Nightjar", "spikes", "LNightjar$Spikes;", true)
  | 5 => ("Nightjar", "scenes", "LNightjar$Scenes;", true)
  | _ => ("Nightjar", "settings", "LNightjar$Row;", true)
def zF7 : u_T := fun k => match k with
  | 0 => ("NightjarModel", "thrown", "I", false)
  | 1 => ("NightjarModel", "lines", "I", false)
  | 2 => ("NightjarModel", "time", "[I", true)
  | 3 => ("NightjarModel", "source", "[I", true)
  | 4 => ("NightjarModel", "level", "[I", true)
  | 5 => ("NightjarModel", "many", "[I", true)
  | 6 => ("NightjarModel", "word", "[I", true)
  | 7 => ("NightjarModel", "setting", "[I", true)
  | 8 => ("NightjarModel", "learned", "I", false)
  | 9 => ("NightjarModel", "of", "[I", false)
  | 10 => ("NightjarModel", "templates", "I", false)
  | 11 => ("NightjarModel", "places", "[I", false)
  | 12 => ("NightjarModel", "slot", "[I", false)
  | 13 => ("NightjarModel", "sessions", "I", false)
  | 14 => ("NightjarModel", "sessionOf", "[I", true)
  | 15 => ("NightjarModel", "first", "[I", true)
  | 16 => ("NightjarModel", "last", "[I", true)
  | 17 => ("NightjarModel", "spikes", "I", false)
  | 18 => ("NightjarModel", "spikeWindow", "[I", true)
  | 19 => ("NightjarModel", "spikeTemplate", "[I", true)
  | 20 => ("NightjarModel", "causes", "I", false)
  | _ => ("NightjarModel", "cause", "[I", true)
def zcl : List vw_C := [("Nightjar$Lines", zF0, 9), ("Nightjar$Row", zF1, 1), ("Nightjar$Scenes", zF2, 8), ("Nightjar$Sessions", zF3, 9), ("Nightjar$Spikes", zF4, 5), ("Nightjar$Templates", zF5, 3), ("Nightjar", zF6, 7), ("NightjarModel", zF7, 22)]
def zty0 : List FieldType := [.object "Nightjar$Row", .object "Nightjar$Row", .object "Nightjar$Row", .object "Nightjar$Row", .object "Nightjar$Row", .object "Nightjar$Row", .object "Nightjar$Row", .int, .int]
def zty1 : List FieldType := [.array .int]
def zty2 : List FieldType := [.object "Nightjar$Row", .object "Nightjar$Row", .object "Nightjar$Row", .object "Nightjar$Row", .object "Nightjar$Row", .object "Nightjar$Row", .object "Nightjar$Row", .object "Nightjar$Row"]
def zty3 : List FieldType := [.object "Nightjar$Row", .object "Nightjar$Row", .object "Nightjar$Row", .object "Nightjar$Row", .object "Nightjar$Row", .object "Nightjar$Row", .object "Nightjar$Row", .object "Nightjar$Row", .int]
def zty4 : List FieldType := [.object "Nightjar$Row", .object "Nightjar$Row", .object "Nightjar$Row", .object "Nightjar$Row", .int]
def zty5 : List FieldType := [.object "Nightjar$Row", .object "Nightjar$Row", .int]
def zty6 : List FieldType := [.object "Nightjar$Lines", .object "Nightjar$Templates", .object "Nightjar$Templates", .object "Nightjar$Sessions", .object "Nightjar$Spikes", .object "Nightjar$Scenes", .object "Nightjar$Row"]
def zty7 : List FieldType := [.int, .int, .array .int, .array .int, .array .int, .array .int, .array .int, .array .int, .int, .array .int, .int, .array .int, .array .int, .int, .array .int, .array .int, .array .int, .int, .array .int, .array .int, .int, .array .int]
def ztyp (c k : Nat) : FieldType := (([zty0, zty1, zty2, zty3, zty4, zty5, zty6, zty7] : List (List FieldType)).getD c []).getD k .int
def zlay : List (List Nat) := [[624, 625, 626, 627, 628, 629, 630, 631, 632], [633], [634, 635, 636, 637, 638, 639, 640, 641], [642, 643, 644, 645, 646, 647, 648, 649, 650], [651, 652, 653, 654, 655], [656, 657, 658], [659, 660, 661, 662, 663, 664, 665], [666, 667, 668, 669, 670, 671, 672, 673, 674, 675, 676, 677, 678, 679, 680, 681, 682, 683, 684, 685, 686, 687]]
def zm_0 : zM := (⟨"Nightjar$Row", "at", "(I)I"⟩, prog_3_method_2_code, 2, (Option.some Jvm.ClassFile.FieldType.int), 0, 0)
def zc_0 : List (Nat × Instr × List Nat) := [(0, .iload_n 1, []), (1, .ifCond .lt 21, [22]), (4, .iload_n 1, []), (5, .aload_n 0, []), (6, .getfield 9, [1, 0, 0]), (9, .arraylength, []), (10, .if_icmp .ge 12, [22]), (13, .aload_n 0, []), (14, .getfield 9, [1, 0, 0]), (17, .iload_n 1, []), (18, .iaload, []), (19, .goto 4, [23]), (22, .iconst (-1), []), (23, .ireturn, [])]
def zm_1 : zM := (⟨"Nightjar$Row", "put", "(II)V"⟩, prog_3_method_3_code, 3, (Option.none : Option Jvm.ClassFile.FieldType), 0, 0)
def zc_1 : List (Nat × Instr × List Nat) := [(0, .iload_n 1, []), (1, .ifCond .lt 19, [20]), (4, .iload_n 1, []), (5, .aload_n 0, []), (6, .getfield 9, [1, 0, 0]), (9, .arraylength, []), (10, .if_icmp .ge 10, [20]), (13, .aload_n 0, []), (14, .getfield 9, [1, 0, 0]), (17, .iload_n 1, []), (18, .iload_n 2, []), (19, .iastore, []), (20, .return_, [])]
def zm_2 : zM := (⟨"NightjarModel", "no", "(I)I"⟩, prog_9_method_3_code, 2, (Option.some Jvm.ClassFile.FieldType.int), 0, 0)
def zc_2 : List (Nat × Instr × List Nat) := [(0, .aload_n 0, []), (1, .iload_n 1, []), (2, .putfield 55, [7, 0, 0, 1]), (5, .iconst 0, []), (6, .ireturn, [])]
def zm_3 : zM := (⟨"Nightjar$Row", "<init>", "(I)V"⟩, prog_3_method_1_code, 2, (Option.none : Option Jvm.ClassFile.FieldType), 1, 20)
def zc_3 : List (Nat × Instr × List Nat) := [(0, .aload_n 0, []), (1, .invokespecial 3, [0, 5, 2, 3, 4]), (4, .aload_n 0, []), (5, .iload_n 1, []), (6, .ifCond .le 7, [13]), (9, .iload_n 1, []), (10, .goto 4, [14]), (13, .iconst 0, []), (14, .newarray .int, [0, 5]), (16, .putfield 9, [1, 0, 1, 0]), (19, .return_, [])]
def zm_4 : zM := (⟨"NightjarModel", "isIn", "(III)Z"⟩, prog_9_method_4_code, 3, (Option.some Jvm.ClassFile.FieldType.boolean), 0, 0)
def zc_4 : List (Nat × Instr × List Nat) := [(0, .iload_n 0, []), (1, .iload_n 1, []), (2, .if_icmp .lt 12, [14]), (5, .iload_n 0, []), (6, .iload_n 2, []), (7, .if_icmp .gt 7, [14]), (10, .iconst 1, []), (11, .goto 4, [15]), (14, .iconst 0, []), (15, .ireturn, [])]
def zm_5 : zM := (⟨"Nightjar", "isWithin", "(II)Z"⟩, prog_1_method_33_code, 2, (Option.some Jvm.ClassFile.FieldType.boolean), 0, 0)
def zc_5 : List (Nat × Instr × List Nat) := [(0, .iload_n 0, []), (1, .ifCond .lt 12, [13]), (4, .iload_n 0, []), (5, .iload_n 1, []), (6, .if_icmp .gt 7, [13]), (9, .iconst 1, []), (10, .goto 4, [14]), (13, .iconst 0, []), (14, .ireturn, [])]
def zm_6 : zM := (⟨"Nightjar", "mix", "(JI)J"⟩, prog_1_method_29_code, 3, (Option.some Jvm.ClassFile.FieldType.long), 0, 0)
def zc_6 : List (Nat × Instr × List Nat) := [(0, .lload_n 0, []), (1, .ldc2_w 335, [31, 6]), (4, .lmul, []), (5, .iload_n 2, []), (6, .i2l, []), (7, .ladd, []), (8, .lreturn, [])]
def zm_7 : zM := (⟨"Nightjar$Row", "increase", "(I)V"⟩, prog_3_method_4_code, 2, (Option.none : Option Jvm.ClassFile.FieldType), 0, 0)
def zc_7 : List (Nat × Instr × List Nat) := [(0, .iload_n 1, []), (1, .ifCond .lt 22, [23]), (4, .iload_n 1, []), (5, .aload_n 0, []), (6, .getfield 9, [1, 0, 0]), (9, .arraylength, []), (10, .if_icmp .ge 13, [23]), (13, .aload_n 0, []), (14, .getfield 9, [1, 0, 0]), (17, .iload_n 1, []), (18, .dup2, []), (19, .iaload, []), (20, .iconst 1, []), (21, .iadd, []), (22, .iastore, []), (23, .return_, [])]
def zm_8 : zM := (⟨"Nightjar$Lines", "wordIn", "(II)I"⟩, prog_2_method_5_code, 3, (Option.some Jvm.ClassFile.FieldType.int), 1, 21)
def zc_8 : List (Nat × Instr × List Nat) := [(0, .aload_n 0, []), (1, .getfield 29, [0, 4, 7]), (4, .iload_n 1, []), (5, .bipush 8, []), (7, .imul, []), (8, .iload_n 2, []), (9, .iadd, []), (10, .invokevirtual 46, [0, 0, 1, 1, 10, 11, 12, 9, 0, 8]), (13, .ireturn, [])]
def zm_9 : zM := (⟨"Nightjar$Scenes", "pair", "(II)I"⟩, prog_4_method_4_code, 2, (Option.some Jvm.ClassFile.FieldType.int), 0, 0)
def zc_9 : List (Nat × Instr × List Nat) := [(0, .iload_n 0, []), (1, .bipush 20, []), (3, .imul, []), (4, .iload_n 1, []), (5, .iadd, []), (6, .ireturn, [])]
def zm_10 : zM := (⟨"Nightjar", "hasTemplate", "(I)Z"⟩, prog_1_method_31_code, 2, (Option.some Jvm.ClassFile.FieldType.boolean), 0, 0)
def zc_10 : List (Nat × Instr × List Nat) := [(0, .iload_n 1, []), (1, .ifCond .lt 18, [19]), (4, .iload_n 1, []), (5, .aload_n 0, []), (6, .getfield 19, [6, 1, 13]), (9, .getfield 126, [5, 2, 14]), (12, .if_icmp .ge 7, [19]), (15, .iconst 1, []), (16, .goto 4, [20]), (19, .iconst 0, []), (20, .ireturn, [])]
def zm_11 : zM := (⟨"NightjarModel", "isTemplate", "(I)Z"⟩, prog_9_method_6_code, 2, (Option.some Jvm.ClassFile.FieldType.boolean), 1, 22)
def zc_11 : List (Nat × Instr × List Nat) := [(0, .iload_n 1, []), (1, .iconst 0, []), (2, .aload_n 0, []), (3, .getfield 66, [7, 10, 15]), (6, .iconst 1, []), (7, .isub, []), (8, .invokestatic 62, [4, 1, 3, 0, 18, 0, 19, 17, 0, 16]), (11, .ireturn, [])]
def zm_12 : zM := (⟨"NightjarModel", "key", "(I)I"⟩, prog_9_method_18_code, 4, (Option.some Jvm.ClassFile.FieldType.int), 1, 21)
def zc_12 : List (Nat × Instr × List Nat) := [(0, .aload_n 0, []), (1, .iload_n 1, []), (2, .invokevirtual 96, [23, 0, 1, 7, 22, 23, 19, 21, 0, 20]), (5, .istore_n 2, []), (6, .iconst 0, []), (7, .istore_n 3, []), (8, .iload_n 2, []), (9, .iconst (-1), []), (10, .if_icmp .eq 46, [56]), (13, .iload_n 3, []), (14, .aload_n 0, []), (15, .getfield 31, [7, 11, 24]), (18, .iload_n 2, []), (19, .iaload, []), (20, .if_icmp .ge 36, [56]), (23, .aload_n 0, []), (24, .getfield 34, [7, 12, 25]), (27, .iload_n 2, []), (28, .bipush 8, []), (30, .imul, []), (31, .iload_n 3, []), (32, .iadd, []), (33, .iaload, []), (34, .iconst (-1), []), (35, .if_icmp .ne 15, [50]), (38, .aload_n 0, []), (39, .getfield 22, [7, 6, 26]), (42, .iload_n 1, []), (43, .bipush 8, []), (45, .imul, []), (46, .iload_n 3, []), (47, .iadd, []), (48, .iaload, []), (49, .ireturn, []), (50, .iinc 3 1, []), (53, .goto (-45), [8]), (56, .iconst (-1), []), (57, .ireturn, [])]
def zm_13 : zM := (⟨"Nightjar", "quotient", "(II)I"⟩, prog_1_method_34_code, 2, (Option.some Jvm.ClassFile.FieldType.int), 0, 0)
def zc_13 : List (Nat × Instr × List Nat) := [(0, .iload_n 1, []), (1, .ifCond .ne 7, [8]), (4, .iconst 0, []), (5, .goto 6, [11]), (8, .iload_n 0, []), (9, .iload_n 1, []), (10, .idiv, []), (11, .ireturn, [])]
def zm_14 : zM := (⟨"NightjarModel", "tellSessions", "()V"⟩, prog_9_method_20_code, 1, (Option.none : Option Jvm.ClassFile.FieldType), 3, 68)
def zc_14 : List (Nat × Instr × List Nat) := [(0, .aload_n 0, []), (1, .aload_n 0, []), (2, .getfield 25, [7, 7, 27]), (5, .iconst 1, []), (6, .iaload, []), (7, .invokevirtual 105, [45, 0, 1, 7, 30, 31, 19, 29, 0, 28]), (10, .pop, []), (11, .return_, [])]
def zm_15 : zM := (⟨"Nightjar$Row", "clear", "()V"⟩, prog_3_method_5_code, 2, (Option.none : Option Jvm.ClassFile.FieldType), 0, 0)
def zc_15 : List (Nat × Instr × List Nat) := [(0, .iconst 0, []), (1, .istore_n 1, []), (2, .iload_n 1, []), (3, .aload_n 0, []), (4, .getfield 9, [1, 0, 0]), (7, .arraylength, []), (8, .if_icmp .ge 16, [24]), (11, .aload_n 0, []), (12, .getfield 9, [1, 0, 0]), (15, .iload_n 1, []), (16, .iconst 0, []), (17, .iastore, []), (18, .iinc 1 1, []), (21, .goto (-19), [2]), (24, .return_, [])]
def zm_16 : zM := (⟨"Nightjar$Templates", "slotIn", "(II)I"⟩, prog_7_method_2_code, 3, (Option.some Jvm.ClassFile.FieldType.int), 1, 21)
def zc_16 : List (Nat × Instr × List Nat) := [(0, .aload_n 0, []), (1, .getfield 20, [5, 1, 32]), (4, .iload_n 1, []), (5, .bipush 8, []), (7, .imul, []), (8, .iload_n 2, []), (9, .iadd, []), (10, .invokevirtual 23, [0, 0, 1, 1, 10, 11, 12, 9, 0, 33]), (13, .ireturn, [])]
def zm_17 : zM := (⟨"Nightjar", "hasLine", "(I)Z"⟩, prog_1_method_30_code, 2, (Option.some Jvm.ClassFile.FieldType.boolean), 0, 0)
def zc_17 : List (Nat × Instr × List Nat) := [(0, .iload_n 1, []), (1, .ifCond .lt 18, [19]), (4, .iload_n 1, []), (5, .aload_n 0, []), (6, .getfield 12, [6, 0, 34]), (9, .getfield 71, [0, 7, 35]), (12, .if_icmp .ge 7, [19]), (15, .iconst 1, []), (16, .goto 4, [20]), (19, .iconst 0, []), (20, .ireturn, [])]
def zm_18 : zM := (⟨"NightjarModel", "isLine", "(I)Z"⟩, prog_9_method_5_code, 2, (Option.some Jvm.ClassFile.FieldType.boolean), 1, 22)
def zc_18 : List (Nat × Instr × List Nat) := [(0, .iload_n 1, []), (1, .iconst 0, []), (2, .aload_n 0, []), (3, .getfield 59, [7, 1, 36]), (6, .iconst 1, []), (7, .isub, []), (8, .invokestatic 62, [4, 1, 3, 0, 18, 0, 19, 17, 0, 16]), (11, .ireturn, [])]
def zm_19 : zM := (⟨"NightjarModel", "countNow", "(II)I"⟩, prog_9_method_23_code, 5, (Option.some Jvm.ClassFile.FieldType.int), 1, 21)
def zc_19 : List (Nat × Instr × List Nat) := [(0, .iconst 0, []), (1, .istore_n 3, []), (2, .iconst 0, []), (3, .istore 4, []), (5, .iload 4, []), (7, .aload_n 0, []), (8, .getfield 73, [7, 8, 37]), (11, .if_icmp .ge 38, [49]), (14, .iload_n 3, []), (15, .aload_n 0, []), (16, .getfield 28, [7, 9, 38]), (19, .iload 4, []), (21, .iaload, []), (22, .iload_n 1, []), (23, .if_icmp .ne 17, [40]), (26, .aload_n 0, []), (27, .iload 4, []), (29, .invokevirtual 108, [31, 0, 1, 7, 41, 42, 19, 40, 0, 39]), (32, .iload_n 2, []), (33, .if_icmp .ne 7, [40]), (36, .iconst 1, []), (37, .goto 4, [41]), (40, .iconst 0, []), (41, .iadd, []), (42, .istore_n 3, []), (43, .iinc 4 1, []), (46, .goto (-41), [5]), (49, .iload_n 3, []), (50, .ireturn, [])]
def zm_20 : zM := (⟨"Nightjar$Scenes", "causeOf", "(II)I"⟩, prog_4_method_8_code, 3, (Option.some Jvm.ClassFile.FieldType.int), 1, 21)
def zc_20 : List (Nat × Instr × List Nat) := [(0, .aload_n 0, []), (1, .getfield 35, [2, 6, 43]), (4, .iload_n 1, []), (5, .iload_n 2, []), (6, .invokestatic 74, [9, 1, 2, 0, 46, 0, 47, 45, 0, 44]), (9, .invokevirtual 54, [0, 0, 1, 1, 10, 11, 12, 9, 0, 48]), (12, .ireturn, [])]
def zm_21 : zM := (⟨"Nightjar", "recompute", "()V"⟩, prog_1_method_35_code, 1, (Option.none : Option Jvm.ClassFile.FieldType), 4, 100)
def zc_21 : List (Nat × Instr × List Nat) := [(0, .aload_n 0, []), (1, .getfield 12, [6, 0, 34]), (4, .aload_n 0, []), (5, .getfield 19, [6, 1, 13]), (8, .invokevirtual 337, [64, 0, 1, 0, 51, 52, 53, 50, 0, 49]), (11, .aload_n 0, []), (12, .getfield 29, [6, 3, 54]), (15, .aload_n 0, []), (16, .getfield 12, [6, 0, 34]), (19, .aload_n 0, []), (20, .getfield 52, [6, 6, 55]), (23, .iconst 1, []), (24, .invokevirtual 83, [0, 0, 1, 1, 10, 11, 12, 9, 0, 56]), (27, .invokevirtual 341, [78, 0, 2, 3, 59, 60, 61, 58, 0, 57]), (30, .aload_n 0, []), (31, .getfield 29, [6, 3, 54]), (34, .aload_n 0, []), (35, .getfield 12, [6, 0, 34]), (38, .invokevirtual 345, [81, 0, 1, 3, 64, 65, 61, 63, 0, 62]), (41, .aload_n 0, []), (42, .getfield 36, [6, 4, 66]), (45, .aload_n 0, []), (46, .getfield 12, [6, 0, 34]), (49, .aload_n 0, []), (50, .getfield 19, [6, 1, 13]), (53, .getfield 126, [5, 2, 14]), (56, .aload_n 0, []), (57, .getfield 52, [6, 6, 55]), (60, .iconst 2, []), (61, .invokevirtual 83, [0, 0, 1, 1, 10, 11, 12, 9, 0, 56]), (64, .invokevirtual 349, [89, 0, 3, 4, 69, 70, 71, 68, 0, 67]), (67, .aload_n 0, []), (68, .getfield 43, [6, 5, 72]), (71, .aload_n 0, []), (72, .getfield 12, [6, 0, 34]), (75, .aload_n 0, []), (76, .getfield 52, [6, 6, 55]), (79, .iconst 3, []), (80, .invokevirtual 83, [0, 0, 1, 1, 10, 11, 12, 9, 0, 56]), (83, .invokevirtual 352, [71, 0, 2, 2, 75, 76, 47, 74, 0, 73]), (86, .aload_n 0, []), (87, .getfield 43, [6, 5, 72]), (90, .aload_n 0, []), (91, .getfield 12, [6, 0, 34]), (94, .aload_n 0, []), (95, .getfield 19, [6, 1, 13]), (98, .getfield 126, [5, 2, 14]), (101, .invokevirtual 355, [72, 0, 2, 2, 79, 80, 47, 78, 0, 77]), (104, .aload_n 0, []), (105, .getfield 43, [6, 5, 72]), (108, .aload_n 0, []), (109, .getfield 19, [6, 1, 13]), (112, .getfield 126, [5, 2, 14]), (115, .aload_n 0, []), (116, .getfield 12, [6, 0, 34]), (119, .getfield 101, [0, 8, 81]), (122, .invokevirtual 358, [73, 0, 2, 2, 84, 85, 47, 83, 0, 82]), (125, .return_, [])]
def zm_22 : zM := (⟨"NightjarModel", "alikeNow", "(II)I"⟩, prog_9_method_9_code, 5, (Option.some Jvm.ClassFile.FieldType.int), 0, 0)
def zc_22 : List (Nat × Instr × List Nat) := [(0, .iconst 0, []), (1, .istore_n 3, []), (2, .iconst 0, []), (3, .istore 4, []), (5, .iload 4, []), (7, .aload_n 0, []), (8, .getfield 19, [7, 5, 86]), (11, .iload_n 1, []), (12, .iaload, []), (13, .if_icmp .ge 44, [57]), (16, .iload_n 3, []), (17, .aload_n 0, []), (18, .getfield 34, [7, 12, 25]), (21, .iload_n 2, []), (22, .bipush 8, []), (24, .imul, []), (25, .iload 4, []), (27, .iadd, []), (28, .iaload, []), (29, .aload_n 0, []), (30, .getfield 22, [7, 6, 26]), (33, .iload_n 1, []), (34, .bipush 8, []), (36, .imul, []), (37, .iload 4, []), (39, .iadd, []), (40, .iaload, []), (41, .if_icmp .ne 7, [48]), (44, .iconst 1, []), (45, .goto 4, [49]), (48, .iconst 0, []), (49, .iadd, []), (50, .istore_n 3, []), (51, .iinc 4 1, []), (54, .goto (-49), [5]), (57, .iload_n 3, []), (58, .ireturn, [])]
def zm_23 : zM := (⟨"NightjarModel", "templateOf", "(I)I"⟩, prog_9_method_17_code, 2, (Option.some Jvm.ClassFile.FieldType.int), 0, 0)
def zc_23 : List (Nat × Instr × List Nat) := [(0, .iload_n 1, []), (1, .aload_n 0, []), (2, .getfield 73, [7, 8, 37]), (5, .if_icmp .ge 12, [17]), (8, .aload_n 0, []), (9, .getfield 28, [7, 9, 38]), (12, .iload_n 1, []), (13, .iaload, []), (14, .goto 4, [18]), (17, .iconst (-1), []), (18, .ireturn, [])]
def zm_24 : zM := (⟨"NightjarModel", "tellCauses", "(I)V"⟩, prog_9_method_31_code, 7, (Option.none : Option Jvm.ClassFile.FieldType), 4, 94)
def zc_24 : List (Nat × Instr × List Nat) := [(0, .aload_n 0, []), (1, .iconst 0, []), (2, .putfield 136, [7, 20, 0, 87]), (5, .iconst 0, []), (6, .istore_n 2, []), (7, .iconst 0, []), (8, .istore_n 3, []), (9, .iload_n 3, []), (10, .aload_n 0, []), (11, .getfield 73, [7, 8, 37]), (14, .if_icmp .ge 27, [41]), (17, .iload_n 2, []), (18, .aload_n 0, []), (19, .getfield 28, [7, 9, 38]), (22, .iload_n 3, []), (23, .iaload, []), (24, .iload_n 1, []), (25, .if_icmp .ne 7, [32]), (28, .iconst 1, []), (29, .goto 4, [33]), (32, .iconst 0, []), (33, .iadd, []), (34, .istore_n 2, []), (35, .iinc 3 1, []), (38, .goto (-29), [9]), (41, .iconst 0, []), (42, .istore_n 3, []), (43, .iload_n 3, []), (44, .aload_n 0, []), (45, .getfield 66, [7, 10, 15]), (48, .if_icmp .ge 127, [175]), (51, .iload_n 3, []), (52, .iload_n 1, []), (53, .if_icmp .ne 6, [59]), (56, .goto 113, [169]), (59, .iconst 0, []), (60, .istore 4, []), (62, .iconst 0, []), (63, .istore 5, []), (65, .iconst 0, []), (66, .istore 6, []), (68, .iload 6, []), (70, .aload_n 0, []), (71, .getfield 73, [7, 8, 37]), (74, .if_icmp .ge 43, [117]), (77, .aload_n 0, []), (78, .iload 6, []), (80, .iload_n 3, []), (81, .invokevirtual 139, [32, 0, 2, 7, 90, 91, 19, 89, 0, 88]), (84, .iconst (-1), []), (85, .if_icmp .ne 6, [91]), (88, .goto 23, [111]), (91, .aload_n 0, []), (92, .getfield 28, [7, 9, 38]), (95, .iload 6, []), (97, .iaload, []), (98, .iload_n 1, []), (99, .if_icmp .ne 9, [108]), (102, .iinc 4 1, []), (105, .goto 6, [111]), (108, .iinc 5 1, []), (111, .iinc 6 1, []), (114, .goto (-46), [68]), (117, .sipush 1000, []), (120, .iload 4, []), (122, .imul, []), (123, .iload_n 2, []), (124, .idiv, []), (125, .aload_n 0, []), (126, .getfield 73, [7, 8, 37]), (129, .iload_n 2, []), (130, .if_icmp .ne 7, [137]), (133, .iconst 0, []), (134, .goto 16, [150]), (137, .sipush 1000, []), (140, .iload 5, []), (142, .imul, []), (143, .aload_n 0, []), (144, .getfield 73, [7, 8, 37]), (147, .iload_n 2, []), (148, .isub, []), (149, .idiv, []), (150, .isub, []), (151, .istore 6, []), (153, .iload 6, []), (155, .ifCond .le 14, [169]), (158, .aload_n 0, []), (159, .iload_n 3, []), (160, .iload 4, []), (162, .iload 5, []), (164, .iload 6, []), (166, .invokevirtual 142, [111, 0, 4, 7, 94, 95, 19, 93, 0, 92]), (169, .iinc 3 1, []), (172, .goto (-129), [43]), (175, .return_, [])]
def zm_25 : zM := (⟨"NightjarModel", "nextIn", "(II)I"⟩, prog_9_method_45_code, 4, (Option.some Jvm.ClassFile.FieldType.int), 0, 0)
def zc_25 : List (Nat × Instr × List Nat) := [(0, .iload_n 2, []), (1, .iconst 1, []), (2, .iadd, []), (3, .istore_n 3, []), (4, .iload_n 3, []), (5, .aload_n 0, []), (6, .getfield 59, [7, 1, 36]), (9, .if_icmp .ge 21, [30]), (12, .aload_n 0, []), (13, .getfield 37, [7, 14, 96]), (16, .iload_n 3, []), (17, .iaload, []), (18, .iload_n 1, []), (19, .if_icmp .ne 5, [24]), (22, .iload_n 3, []), (23, .ireturn, []), (24, .iinc 3 1, []), (27, .goto (-23), [4]), (30, .iconst (-1), []), (31, .ireturn, [])]
def zm_26 : zM := (⟨"Nightjar$Scenes", "bitOf", "(I)I"⟩, prog_4_method_3_code, 1, (Option.some Jvm.ClassFile.FieldType.int), 0, 0)
def zc_26 : List (Nat × Instr × List Nat) := [(0, .iload_n 0, []), (1, .ifCond .ge 7, [8]), (4, .iconst 0, []), (5, .goto 6, [11]), (8, .iconst 1, []), (9, .iload_n 0, []), (10, .ishl, []), (11, .ireturn, [])]
def zm_27 : zM := (⟨"Nightjar$Scenes", "hits", "(II)I"⟩, prog_4_method_9_code, 3, (Option.some Jvm.ClassFile.FieldType.int), 1, 21)
def zc_27 : List (Nat × Instr × List Nat) := [(0, .aload_n 0, []), (1, .getfield 23, [2, 2, 97]), (4, .iload_n 1, []), (5, .iload_n 2, []), (6, .invokestatic 74, [9, 1, 2, 0, 46, 0, 47, 45, 0, 44]), (9, .invokevirtual 54, [0, 0, 1, 1, 10, 11, 12, 9, 0, 48]), (12, .ireturn, [])]
def zm_28 : zM := (⟨"Nightjar$Sessions", "howManyAlike", "(I)I"⟩, prog_5_method_11_code, 2, (Option.some Jvm.ClassFile.FieldType.int), 1, 21)
def zc_28 : List (Nat × Instr × List Nat) := [(0, .aload_n 0, []), (1, .getfield 38, [3, 7, 98]), (4, .aload_n 0, []), (5, .getfield 35, [3, 6, 99]), (8, .iload_n 1, []), (9, .invokevirtual 55, [0, 0, 1, 1, 10, 11, 12, 9, 0, 100]), (12, .invokevirtual 55, [0, 0, 1, 1, 10, 11, 12, 9, 0, 100]), (15, .ireturn, [])]
def zm_29 : zM := (⟨"NightjarModel", "learnLine", "(II)V"⟩, prog_9_method_11_code, 5, (Option.none : Option Jvm.ClassFile.FieldType), 2, 89)
def zc_29 : List (Nat × Instr × List Nat) := [(0, .aload_n 0, []), (1, .iload_n 1, []), (2, .iload_n 2, []), (3, .invokevirtual 80, [107, 0, 2, 7, 103, 104, 19, 102, 0, 101]), (6, .istore_n 3, []), (7, .iload_n 3, []), (8, .iconst (-1), []), (9, .if_icmp .ne 28, [37]), (12, .aload_n 0, []), (13, .getfield 28, [7, 9, 38]), (16, .iload_n 1, []), (17, .aload_n 0, []), (18, .getfield 66, [7, 10, 15]), (21, .bipush 20, []), (23, .if_icmp .ge 11, [34]), (26, .aload_n 0, []), (27, .iload_n 1, []), (28, .invokevirtual 83, [108, 0, 1, 7, 107, 108, 19, 106, 0, 105]), (31, .goto 4, [35]), (34, .iconst (-1), []), (35, .iastore, []), (36, .return_, []), (37, .aload_n 0, []), (38, .getfield 28, [7, 9, 38]), (41, .iload_n 1, []), (42, .iload_n 3, []), (43, .iastore, []), (44, .iconst 0, []), (45, .istore 4, []), (47, .iload 4, []), (49, .aload_n 0, []), (50, .getfield 31, [7, 11, 24]), (53, .iload_n 3, []), (54, .iaload, []), (55, .if_icmp .ge 49, [104]), (58, .aload_n 0, []), (59, .getfield 34, [7, 12, 25]), (62, .iload_n 3, []), (63, .bipush 8, []), (65, .imul, []), (66, .iload 4, []), (68, .iadd, []), (69, .iaload, []), (70, .aload_n 0, []), (71, .getfield 22, [7, 6, 26]), (74, .iload_n 1, []), (75, .bipush 8, []), (77, .imul, []), (78, .iload 4, []), (80, .iadd, []), (81, .iaload, []), (82, .if_icmp .eq 16, [98]), (85, .aload_n 0, []), (86, .getfield 34, [7, 12, 25]), (89, .iload_n 3, []), (90, .bipush 8, []), (92, .imul, []), (93, .iload 4, []), (95, .iadd, []), (96, .iconst (-1), []), (97, .iastore, []), (98, .iinc 4 1, []), (101, .goto (-54), [47]), (104, .return_, [])]
def zm_30 : zM := (⟨"NightjarModel", "holes", "(I)I"⟩, prog_9_method_13_code, 4, (Option.some Jvm.ClassFile.FieldType.int), 0, 0)
def zc_30 : List (Nat × Instr × List Nat) := [(0, .iconst 0, []), (1, .istore_n 2, []), (2, .iconst 0, []), (3, .istore_n 3, []), (4, .iload_n 3, []), (5, .aload_n 0, []), (6, .getfield 31, [7, 11, 24]), (9, .iload_n 1, []), (10, .iaload, []), (11, .if_icmp .ge 32, [43]), (14, .iload_n 2, []), (15, .aload_n 0, []), (16, .getfield 34, [7, 12, 25]), (19, .iload_n 1, []), (20, .bipush 8, []), (22, .imul, []), (23, .iload_n 3, []), (24, .iadd, []), (25, .iaload, []), (26, .iconst (-1), []), (27, .if_icmp .ne 7, [34]), (30, .iconst 1, []), (31, .goto 4, [35]), (34, .iconst 0, []), (35, .iadd, []), (36, .istore_n 2, []), (37, .iinc 3 1, []), (40, .goto (-36), [4]), (43, .iload_n 2, []), (44, .ireturn, [])]
def zm_31 : zM := (⟨"NightjarModel", "window", "(I)I"⟩, prog_9_method_22_code, 2, (Option.some Jvm.ClassFile.FieldType.int), 0, 0)
def zc_31 : List (Nat × Instr × List Nat) := [(0, .aload_n 0, []), (1, .getfield 9, [7, 2, 109]), (4, .iload_n 1, []), (5, .iaload, []), (6, .aload_n 0, []), (7, .getfield 25, [7, 7, 27]), (10, .iconst 2, []), (11, .iaload, []), (12, .idiv, []), (13, .ireturn, [])]
def zm_32 : zM := (⟨"NightjarModel", "lastInScene", "(II)I"⟩, prog_9_method_30_code, 4, (Option.some Jvm.ClassFile.FieldType.int), 3, 66)
def zc_32 : List (Nat × Instr × List Nat) := [(0, .iload_n 1, []), (1, .iconst 1, []), (2, .isub, []), (3, .istore_n 3, []), (4, .iload_n 3, []), (5, .ifCond .lt 29, [34]), (8, .aload_n 0, []), (9, .iload_n 3, []), (10, .invokevirtual 96, [23, 0, 1, 7, 22, 23, 19, 21, 0, 20]), (13, .iload_n 2, []), (14, .if_icmp .ne 14, [28]), (17, .aload_n 0, []), (18, .iload_n 3, []), (19, .iload_n 1, []), (20, .invokevirtual 132, [49, 0, 2, 7, 112, 113, 19, 111, 0, 110]), (23, .ifCond .eq 5, [28]), (26, .iload_n 3, []), (27, .ireturn, []), (28, .iinc 3 (-1), []), (31, .goto (-27), [4]), (34, .iconst (-1), []), (35, .ireturn, [])]
def zm_33 : zM := (⟨"Nightjar$Lines", "howManyBetween", "(IIII)I"⟩, prog_2_method_12_code, 8, (Option.some Jvm.ClassFile.FieldType.int), 1, 21)
def zc_33 : List (Nat × Instr × List Nat) := [(0, .iconst 0, []), (1, .istore 5, []), (3, .iconst 0, []), (4, .istore 6, []), (6, .iload 6, []), (8, .aload_n 0, []), (9, .getfield 50, [0, 8, 114]), (12, .if_icmp .ge 53, [65]), (15, .aload_n 0, []), (16, .getfield 14, [0, 0, 115]), (19, .iload 6, []), (21, .invokevirtual 46, [0, 0, 1, 1, 10, 11, 12, 9, 0, 8]), (24, .iload 4, []), (26, .invokestatic 66, [13, 1, 2, 0, 117, 0, 118, 116, 1, 0]), (29, .istore 7, []), (31, .aload_n 0, []), (32, .getfield 32, [0, 5, 119]), (35, .iload 6, []), (37, .invokevirtual 46, [0, 0, 1, 1, 10, 11, 12, 9, 0, 8]), (40, .iload_n 1, []), (41, .if_icmp .ne 18, [59]), (44, .iload 7, []), (46, .iload_n 2, []), (47, .if_icmp .lt 12, [59]), (50, .iload 7, []), (52, .iload_n 3, []), (53, .if_icmp .gt 6, [59]), (56, .iinc 5 1, []), (59, .iinc 6 1, []), (62, .goto (-56), [6]), (65, .iload 5, []), (67, .ireturn, [])]
def zm_34 : zM := (⟨"Nightjar$Lines", "joined", "(II)I"⟩, prog_2_method_13_code, 4, (Option.some Jvm.ClassFile.FieldType.int), 1, 21)
def zc_34 : List (Nat × Instr × List Nat) := [(0, .iload_n 1, []), (1, .iconst 1, []), (2, .isub, []), (3, .istore_n 3, []), (4, .iload_n 3, []), (5, .ifCond .lt 55, [60]), (8, .aload_n 0, []), (9, .getfield 35, [0, 6, 120]), (12, .iload_n 3, []), (13, .invokevirtual 46, [0, 0, 1, 1, 10, 11, 12, 9, 0, 8]), (16, .aload_n 0, []), (17, .getfield 35, [0, 6, 120]), (20, .iload_n 1, []), (21, .invokevirtual 46, [0, 0, 1, 1, 10, 11, 12, 9, 0, 8]), (24, .if_icmp .ne 30, [54]), (27, .aload_n 0, []), (28, .getfield 14, [0, 0, 115]), (31, .iload_n 1, []), (32, .invokevirtual 46, [0, 0, 1, 1, 10, 11, 12, 9, 0, 8]), (35, .aload_n 0, []), (36, .getfield 14, [0, 0, 115]), (39, .iload_n 3, []), (40, .invokevirtual 46, [0, 0, 1, 1, 10, 11, 12, 9, 0, 8]), (43, .isub, []), (44, .iload_n 2, []), (45, .if_icmp .gt 7, [52]), (48, .iload_n 3, []), (49, .goto 4, [53]), (52, .iconst (-1), []), (53, .ireturn, []), (54, .iinc 3 (-1), []), (57, .goto (-53), [4]), (60, .iconst (-1), []), (61, .ireturn, [])]
def zm_35 : zM := (⟨"Nightjar$Lines", "isInScene", "(III)Z"⟩, prog_2_method_14_code, 5, (Option.some Jvm.ClassFile.FieldType.boolean), 1, 21)
def zc_35 : List (Nat × Instr × List Nat) := [(0, .iload_n 1, []), (1, .iload_n 2, []), (2, .if_icmp .ge 32, [34]), (5, .iload_n 1, []), (6, .aload_n 0, []), (7, .getfield 50, [0, 8, 114]), (10, .if_icmp .ge 24, [34]), (13, .aload_n 0, []), (14, .getfield 14, [0, 0, 115]), (17, .iload_n 1, []), (18, .invokevirtual 46, [0, 0, 1, 1, 10, 11, 12, 9, 0, 8]), (21, .aload_n 0, []), (22, .getfield 14, [0, 0, 115]), (25, .iload_n 2, []), (26, .invokevirtual 46, [0, 0, 1, 1, 10, 11, 12, 9, 0, 8]), (29, .iload_n 3, []), (30, .isub, []), (31, .if_icmp .ge 5, [36]), (34, .iconst 0, []), (35, .ireturn, []), (36, .aload_n 0, []), (37, .getfield 35, [0, 6, 120]), (40, .iload_n 2, []), (41, .invokevirtual 46, [0, 0, 1, 1, 10, 11, 12, 9, 0, 8]), (44, .ifCond .lt 26, [70]), (47, .aload_n 0, []), (48, .getfield 35, [0, 6, 120]), (51, .iload_n 1, []), (52, .invokevirtual 46, [0, 0, 1, 1, 10, 11, 12, 9, 0, 8]), (55, .aload_n 0, []), (56, .getfield 35, [0, 6, 120]), (59, .iload_n 2, []), (60, .invokevirtual 46, [0, 0, 1, 1, 10, 11, 12, 9, 0, 8]), (63, .if_icmp .ne 7, [70]), (66, .iconst 1, []), (67, .goto 4, [71]), (70, .iconst 0, []), (71, .istore 4, []), (73, .iload 4, []), (75, .ifCond .ne 22, [97]), (78, .aload_n 0, []), (79, .getfield 20, [0, 1, 121]), (82, .iload_n 1, []), (83, .invokevirtual 46, [0, 0, 1, 1, 10, 11, 12, 9, 0, 8]), (86, .aload_n 0, []), (87, .getfield 20, [0, 1, 121]), (90, .iload_n 2, []), (91, .invokevirtual 46, [0, 0, 1, 1, 10, 11, 12, 9, 0, 8]), (94, .if_icmp .ne 7, [101]), (97, .iconst 1, []), (98, .goto 4, [102]), (101, .iconst 0, []), (102, .ireturn, [])]
def zm_36 : zM := (⟨"Nightjar$Scenes", "rest", "(II)I"⟩, prog_4_method_10_code, 3, (Option.some Jvm.ClassFile.FieldType.int), 2, 43)
def zc_36 : List (Nat × Instr × List Nat) := [(0, .aload_n 0, []), (1, .getfield 26, [2, 3, 122]), (4, .iload_n 2, []), (5, .invokevirtual 54, [0, 0, 1, 1, 10, 11, 12, 9, 0, 48]), (8, .aload_n 0, []), (9, .iload_n 1, []), (10, .iload_n 2, []), (11, .invokevirtual 78, [27, 0, 2, 2, 125, 126, 47, 124, 0, 123]), (14, .isub, []), (15, .ireturn, [])]
def zm_37 : zM := (⟨"Nightjar$Scenes", "score", "(II)I"⟩, prog_4_method_11_code, 3, (Option.some Jvm.ClassFile.FieldType.int), 1, 21)
def zc_37 : List (Nat × Instr × List Nat) := [(0, .aload_n 0, []), (1, .getfield 32, [2, 5, 127]), (4, .iload_n 1, []), (5, .iload_n 2, []), (6, .invokestatic 74, [9, 1, 2, 0, 46, 0, 47, 45, 0, 44]), (9, .invokevirtual 54, [0, 0, 1, 1, 10, 11, 12, 9, 0, 48]), (12, .ireturn, [])]
def zm_38 : zM := (⟨"Nightjar$Templates", "<init>", "()V"⟩, prog_7_method_1_code, 1, (Option.none : Option Jvm.ClassFile.FieldType), 2, 41)
def zc_38 : List (Nat × Instr × List Nat) := [(0, .aload_n 0, []), (1, .invokespecial 3, [0, 5, 128, 3, 4]), (4, .aload_n 0, []), (5, .new 9, [1, 129, 130, 12, 1]), (8, .dup, []), (9, .bipush 20, []), (11, .invokespecial 11, [3, 2, 1, 0, 133, 0, 12, 132, 0, 131]), (14, .putfield 14, [5, 0, 1, 134]), (17, .aload_n 0, []), (18, .new 9, [1, 129, 130, 12, 1]), (21, .dup, []), (22, .sipush 160, []), (25, .invokespecial 11, [3, 2, 1, 0, 133, 0, 12, 132, 0, 131]), (28, .putfield 20, [5, 1, 1, 32]), (31, .return_, [])]
def zm_39 : zM := (⟨"Nightjar$Templates", "howManyHoles", "(I)I"⟩, prog_7_method_3_code, 4, (Option.some Jvm.ClassFile.FieldType.int), 2, 43)
def zc_39 : List (Nat × Instr × List Nat) := [(0, .iconst 0, []), (1, .istore_n 2, []), (2, .iconst 0, []), (3, .istore_n 3, []), (4, .iload_n 3, []), (5, .aload_n 0, []), (6, .getfield 14, [5, 0, 134]), (9, .iload_n 1, []), (10, .invokevirtual 23, [0, 0, 1, 1, 10, 11, 12, 9, 0, 33]), (13, .if_icmp .ge 22, [35]), (16, .aload_n 0, []), (17, .iload_n 1, []), (18, .iload_n 3, []), (19, .invokevirtual 27, [16, 0, 2, 5, 137, 138, 139, 136, 0, 135]), (22, .iconst (-1), []), (23, .if_icmp .ne 6, [29]), (26, .iinc 2 1, []), (29, .iinc 3 1, []), (32, .goto (-28), [4]), (35, .iload_n 2, []), (36, .ireturn, [])]
def zm_40 : zM := (⟨"Nightjar$Templates", "placeOfHole", "(II)I"⟩, prog_7_method_4_code, 5, (Option.some Jvm.ClassFile.FieldType.int), 2, 43)
def zc_40 : List (Nat × Instr × List Nat) := [(0, .iconst 0, []), (1, .istore_n 3, []), (2, .iconst 0, []), (3, .istore 4, []), (5, .iload 4, []), (7, .aload_n 0, []), (8, .getfield 14, [5, 0, 134]), (11, .iload_n 1, []), (12, .invokevirtual 23, [0, 0, 1, 1, 10, 11, 12, 9, 0, 33]), (15, .if_icmp .ge 31, [46]), (18, .aload_n 0, []), (19, .iload_n 1, []), (20, .iload 4, []), (22, .invokevirtual 27, [16, 0, 2, 5, 137, 138, 139, 136, 0, 135]), (25, .iconst (-1), []), (26, .if_icmp .ne 14, [40]), (29, .iload_n 3, []), (30, .iload_n 2, []), (31, .if_icmp .ne 6, [37]), (34, .iload 4, []), (36, .ireturn, []), (37, .iinc 3 1, []), (40, .iinc 4 1, []), (43, .goto (-38), [5]), (46, .iconst (-1), []), (47, .ireturn, [])]
def zm_41 : zM := (⟨"Nightjar$Templates", "likeness", "(LNightjar$Lines;II)I"⟩, prog_7_method_5_code, 7, (Option.some Jvm.ClassFile.FieldType.int), 2, 43)
def zc_41 : List (Nat × Instr × List Nat) := [(0, .aload_n 0, []), (1, .getfield 14, [5, 0, 134]), (4, .iload_n 3, []), (5, .invokevirtual 23, [0, 0, 1, 1, 10, 11, 12, 9, 0, 33]), (8, .istore 4, []), (10, .aload_n 1, []), (11, .getfield 31, [0, 3, 140]), (14, .iload_n 2, []), (15, .invokevirtual 23, [0, 0, 1, 1, 10, 11, 12, 9, 0, 33]), (18, .iload 4, []), (20, .if_icmp .eq 5, [25]), (23, .iconst (-1), []), (24, .ireturn, []), (25, .iconst 0, []), (26, .istore 5, []), (28, .iconst 0, []), (29, .istore 6, []), (31, .iload 6, []), (33, .iload 4, []), (35, .if_icmp .ge 29, [64]), (38, .aload_n 1, []), (39, .iload_n 2, []), (40, .iload 6, []), (42, .invokevirtual 34, [8, 0, 2, 0, 143, 144, 53, 142, 0, 141]), (45, .aload_n 0, []), (46, .iload_n 3, []), (47, .iload 6, []), (49, .invokevirtual 27, [16, 0, 2, 5, 137, 138, 139, 136, 0, 135]), (52, .if_icmp .ne 6, [58]), (55, .iinc 5 1, []), (58, .iinc 6 1, []), (61, .goto (-30), [31]), (64, .iload 5, []), (66, .ireturn, [])]
def zm_42 : zM := (⟨"Nightjar$Templates", "choose", "(LNightjar$Lines;II)I"⟩, prog_7_method_6_code, 8, (Option.some Jvm.ClassFile.FieldType.int), 3, 69)
def zc_42 : List (Nat × Instr × List Nat) := [(0, .iconst (-1), []), (1, .istore 4, []), (3, .iconst (-1), []), (4, .istore 5, []), (6, .iconst 0, []), (7, .istore 6, []), (9, .iload 6, []), (11, .aload_n 0, []), (12, .getfield 37, [5, 2, 145]), (15, .if_icmp .ge 34, [49]), (18, .aload_n 0, []), (19, .aload_n 1, []), (20, .iload_n 2, []), (21, .iload 6, []), (23, .invokevirtual 41, [41, 0, 3, 5, 148, 149, 139, 147, 0, 146]), (26, .istore 7, []), (28, .iload 7, []), (30, .iload 5, []), (32, .if_icmp .le 11, [43]), (35, .iload 7, []), (37, .istore 5, []), (39, .iload 6, []), (41, .istore 4, []), (43, .iinc 6 1, []), (46, .goto (-37), [9]), (49, .aload_n 1, []), (50, .getfield 31, [0, 3, 140]), (53, .iload_n 2, []), (54, .invokevirtual 23, [0, 0, 1, 1, 10, 11, 12, 9, 0, 33]), (57, .iload_n 3, []), (58, .imul, []), (59, .bipush 99, []), (61, .iadd, []), (62, .bipush 100, []), (64, .idiv, []), (65, .istore 6, []), (67, .iload 4, []), (69, .iconst (-1), []), (70, .if_icmp .eq 13, [83]), (73, .iload 5, []), (75, .iload 6, []), (77, .if_icmp .lt 6, [83]), (80, .iload 4, []), (82, .ireturn, []), (83, .aload_n 0, []), (84, .getfield 37, [5, 2, 145]), (87, .bipush 20, []), (89, .if_icmp .ge 10, [99]), (92, .aload_n 0, []), (93, .getfield 37, [5, 2, 145]), (96, .goto 4, [100]), (99, .iconst (-1), []), (100, .ireturn, [])]
def zm_43 : zM := (⟨"Nightjar$Templates", "take", "(LNightjar$Lines;II)I"⟩, prog_7_method_7_code, 5, (Option.some Jvm.ClassFile.FieldType.int), 4, 96)
def zc_43 : List (Nat × Instr × List Nat) := [(0, .aload_n 0, []), (1, .aload_n 1, []), (2, .iload_n 2, []), (3, .iload_n 3, []), (4, .invokevirtual 45, [42, 0, 3, 5, 152, 153, 139, 151, 0, 150]), (7, .istore 4, []), (9, .iload 4, []), (11, .iconst (-1), []), (12, .if_icmp .ne 5, [17]), (15, .iconst (-1), []), (16, .ireturn, []), (17, .iload 4, []), (19, .aload_n 0, []), (20, .getfield 37, [5, 2, 145]), (23, .if_icmp .ne 12, [35]), (26, .aload_n 0, []), (27, .aload_n 1, []), (28, .iload_n 2, []), (29, .invokevirtual 48, [92, 0, 2, 5, 156, 157, 139, 155, 0, 154]), (32, .goto 11, [43]), (35, .aload_n 0, []), (36, .aload_n 1, []), (37, .iload_n 2, []), (38, .iload 4, []), (40, .invokevirtual 52, [93, 0, 3, 5, 160, 161, 139, 159, 0, 158]), (43, .iload 4, []), (45, .ireturn, [])]
def zm_44 : zM := (⟨"Nightjar", "hasSession", "(I)Z"⟩, prog_1_method_32_code, 2, (Option.some Jvm.ClassFile.FieldType.boolean), 0, 0)
def zc_44 : List (Nat × Instr × List Nat) := [(0, .iload_n 1, []), (1, .ifCond .lt 18, [19]), (4, .iload_n 1, []), (5, .aload_n 0, []), (6, .getfield 29, [6, 3, 54]), (9, .getfield 129, [3, 8, 162]), (12, .if_icmp .ge 7, [19]), (15, .iconst 1, []), (16, .goto 4, [20]), (19, .iconst 0, []), (20, .ireturn, [])]
def zm_45 : zM := (⟨"NightjarModel", "tellSessions", "(I)I"⟩, prog_9_method_19_code, 5, (Option.some Jvm.ClassFile.FieldType.int), 2, 44)
def zc_45 : List (Nat × Instr × List Nat) := [(0, .aload_n 0, []), (1, .iconst 0, []), (2, .putfield 99, [7, 13, 0, 163]), (5, .iconst 0, []), (6, .istore_n 2, []), (7, .iload_n 2, []), (8, .aload_n 0, []), (9, .getfield 59, [7, 1, 36]), (12, .if_icmp .ge 173, [185]), (15, .aload_n 0, []), (16, .iload_n 2, []), (17, .invokevirtual 102, [12, 0, 1, 7, 166, 167, 19, 165, 0, 164]), (20, .istore_n 3, []), (21, .aload_n 0, []), (22, .getfield 37, [7, 14, 96]), (25, .iload_n 2, []), (26, .iconst (-1), []), (27, .iastore, []), (28, .iload_n 3, []), (29, .ifCond .ge 6, [35]), (32, .goto 147, [179]), (35, .aload_n 0, []), (36, .getfield 99, [7, 13, 163]), (39, .iconst 1, []), (40, .isub, []), (41, .istore 4, []), (43, .iload 4, []), (45, .ifCond .lt 72, [117]), (48, .aload_n 0, []), (49, .getfield 37, [7, 14, 96]), (52, .iload_n 2, []), (53, .iaload, []), (54, .iconst (-1), []), (55, .if_icmp .ne 62, [117]), (58, .aload_n 0, []), (59, .aload_n 0, []), (60, .getfield 40, [7, 15, 168]), (63, .iload 4, []), (65, .iaload, []), (66, .invokevirtual 102, [12, 0, 1, 7, 166, 167, 19, 165, 0, 164]), (69, .iload_n 3, []), (70, .if_icmp .ne 41, [111]), (73, .aload_n 0, []), (74, .getfield 37, [7, 14, 96]), (77, .iload_n 2, []), (78, .aload_n 0, []), (79, .getfield 9, [7, 2, 109]), (82, .iload_n 2, []), (83, .iaload, []), (84, .aload_n 0, []), (85, .getfield 9, [7, 2, 109]), (88, .aload_n 0, []), (89, .getfield 43, [7, 16, 169]), (92, .iload 4, []), (94, .iaload, []), (95, .iaload, []), (96, .isub, []), (97, .iload_n 1, []), (98, .if_icmp .gt 8, [106]), (101, .iload 4, []), (103, .goto 7, [110]), (106, .aload_n 0, []), (107, .getfield 99, [7, 13, 163]), (110, .iastore, []), (111, .iinc 4 (-1), []), (114, .goto (-71), [43]), (117, .aload_n 0, []), (118, .getfield 37, [7, 14, 96]), (121, .iload_n 2, []), (122, .iaload, []), (123, .iconst (-1), []), (124, .if_icmp .ne 13, [137]), (127, .aload_n 0, []), (128, .getfield 37, [7, 14, 96]), (131, .iload_n 2, []), (132, .aload_n 0, []), (133, .getfield 99, [7, 13, 163]), (136, .iastore, []), (137, .aload_n 0, []), (138, .getfield 37, [7, 14, 96]), (141, .iload_n 2, []), (142, .iaload, []), (143, .aload_n 0, []), (144, .getfield 99, [7, 13, 163]), (147, .if_icmp .ne 20, [167]), (150, .aload_n 0, []), (151, .getfield 40, [7, 15, 168]), (154, .aload_n 0, []), (155, .dup, []), (156, .getfield 99, [7, 13, 163]), (159, .dup_x1, []), (160, .iconst 1, []), (161, .iadd, []), (162, .putfield 99, [7, 13, 0, 163]), (165, .iload_n 2, []), (166, .iastore, []), (167, .aload_n 0, []), (168, .getfield 43, [7, 16, 169]), (171, .aload_n 0, []), (172, .getfield 37, [7, 14, 96]), (175, .iload_n 2, []), (176, .iaload, []), (177, .iload_n 2, []), (178, .iastore, []), (179, .iinc 2 1, []), (182, .goto (-175), [7]), (185, .aload_n 0, []), (186, .getfield 99, [7, 13, 163]), (189, .ireturn, [])]
def zm_46 : zM := (⟨"NightjarModel", "tellSpikes", "()V"⟩, prog_9_method_24_code, 7, (Option.none : Option Jvm.ClassFile.FieldType), 2, 45)
def zc_46 : List (Nat × Instr × List Nat) := [(0, .aload_n 0, []), (1, .iconst 0, []), (2, .putfield 111, [7, 17, 0, 170]), (5, .iconst (-1), []), (6, .istore_n 1, []), (7, .iconst 0, []), (8, .istore_n 2, []), (9, .iload_n 2, []), (10, .aload_n 0, []), (11, .getfield 73, [7, 8, 37]), (14, .if_icmp .ge 132, [146]), (17, .aload_n 0, []), (18, .iload_n 2, []), (19, .invokevirtual 108, [31, 0, 1, 7, 41, 42, 19, 40, 0, 39]), (22, .istore_n 3, []), (23, .iload_n 3, []), (24, .iload_n 1, []), (25, .if_icmp .ne 6, [31]), (28, .goto 112, [140]), (31, .iload_n 3, []), (32, .istore_n 1, []), (33, .iconst 0, []), (34, .istore 4, []), (36, .iload 4, []), (38, .aload_n 0, []), (39, .getfield 66, [7, 10, 15]), (42, .if_icmp .ge 98, [140]), (45, .iconst 0, []), (46, .istore 5, []), (48, .iconst 1, []), (49, .istore 6, []), (51, .iload 6, []), (53, .iconst 4, []), (54, .if_icmp .gt 24, [78]), (57, .iload 5, []), (59, .aload_n 0, []), (60, .iload 4, []), (62, .iload_n 3, []), (63, .iload 6, []), (65, .isub, []), (66, .invokevirtual 114, [19, 0, 2, 7, 173, 174, 19, 172, 0, 171]), (69, .iadd, []), (70, .istore 5, []), (72, .iinc 6 1, []), (75, .goto (-24), [51]), (78, .aload_n 0, []), (79, .iload 4, []), (81, .iload_n 3, []), (82, .invokevirtual 114, [19, 0, 2, 7, 173, 174, 19, 172, 0, 171]), (85, .iconst 3, []), (86, .if_icmp .lt 48, [134]), (89, .iconst 2, []), (90, .aload_n 0, []), (91, .iload 4, []), (93, .iload_n 3, []), (94, .invokevirtual 114, [19, 0, 2, 7, 173, 174, 19, 172, 0, 171]), (97, .imul, []), (98, .iload 5, []), (100, .if_icmp .gt 6, [106]), (103, .goto 31, [134]), (106, .aload_n 0, []), (107, .getfield 46, [7, 18, 175]), (110, .aload_n 0, []), (111, .getfield 111, [7, 17, 170]), (114, .iload_n 3, []), (115, .iastore, []), (116, .aload_n 0, []), (117, .getfield 49, [7, 19, 176]), (120, .aload_n 0, []), (121, .dup, []), (122, .getfield 111, [7, 17, 170]), (125, .dup_x1, []), (126, .iconst 1, []), (127, .iadd, []), (128, .putfield 111, [7, 17, 0, 170]), (131, .iload 4, []), (133, .iastore, []), (134, .iinc 4 1, []), (137, .goto (-101), [36]), (140, .iinc 2 1, []), (143, .goto (-134), [9]), (146, .return_, [])]
def zm_47 : zM := (⟨"NightjarModel", "manyNow", "(I)I"⟩, prog_9_method_25_code, 4, (Option.some Jvm.ClassFile.FieldType.int), 1, 22)
def zc_47 : List (Nat × Instr × List Nat) := [(0, .iconst 0, []), (1, .istore_n 2, []), (2, .iload_n 1, []), (3, .tableswitch 87 0 4 #[33, 38, 43, 48, 53], [90, 36, 41, 46, 51, 56]), (36, .aload_n 0, []), (37, .getfield 59, [7, 1, 36]), (40, .ireturn, []), (41, .aload_n 0, []), (42, .getfield 73, [7, 8, 37]), (45, .ireturn, []), (46, .aload_n 0, []), (47, .getfield 66, [7, 10, 15]), (50, .ireturn, []), (51, .aload_n 0, []), (52, .getfield 99, [7, 13, 163]), (55, .ireturn, []), (56, .iconst 0, []), (57, .istore_n 3, []), (58, .iload_n 3, []), (59, .aload_n 0, []), (60, .getfield 99, [7, 13, 163]), (63, .if_icmp .ge 25, [88]), (66, .iload_n 2, []), (67, .aload_n 0, []), (68, .iload_n 3, []), (69, .invokevirtual 117, [109, 0, 1, 7, 179, 180, 19, 178, 0, 177]), (72, .ifCond .eq 7, [79]), (75, .iconst 1, []), (76, .goto 4, [80]), (79, .iconst 0, []), (80, .iadd, []), (81, .istore_n 2, []), (82, .iinc 3 1, []), (85, .goto (-27), [58]), (88, .iload_n 2, []), (89, .ireturn, []), (90, .aload_n 0, []), (91, .getfield 111, [7, 17, 170]), (94, .ireturn, [])]
def zm_48 : zM := (⟨"NightjarModel", "tellAll", "()V"⟩, prog_9_method_26_code, 1, (Option.none : Option Jvm.ClassFile.FieldType), 4, 88)
def zc_48 : List (Nat × Instr × List Nat) := [(0, .aload_n 0, []), (1, .invokevirtual 121, [14, 0, 0, 7, 183, 184, 19, 182, 0, 181]), (4, .aload_n 0, []), (5, .invokevirtual 123, [46, 0, 0, 7, 187, 188, 19, 186, 0, 185]), (8, .return_, [])]
def zm_49 : zM := (⟨"NightjarModel", "isInScene", "(II)Z"⟩, prog_9_method_28_code, 3, (Option.some Jvm.ClassFile.FieldType.boolean), 2, 44)
def zc_49 : List (Nat × Instr × List Nat) := [(0, .iload_n 1, []), (1, .iload_n 2, []), (2, .if_icmp .ge 33, [35]), (5, .iload_n 1, []), (6, .aload_n 0, []), (7, .getfield 73, [7, 8, 37]), (10, .if_icmp .ge 25, [35]), (13, .aload_n 0, []), (14, .getfield 9, [7, 2, 109]), (17, .iload_n 1, []), (18, .iaload, []), (19, .aload_n 0, []), (20, .getfield 9, [7, 2, 109]), (23, .iload_n 2, []), (24, .iaload, []), (25, .aload_n 0, []), (26, .getfield 25, [7, 7, 27]), (29, .iconst 3, []), (30, .iaload, []), (31, .isub, []), (32, .if_icmp .ge 5, [37]), (35, .iconst 0, []), (36, .ireturn, []), (37, .aload_n 0, []), (38, .getfield 13, [7, 3, 189]), (41, .iload_n 1, []), (42, .iaload, []), (43, .aload_n 0, []), (44, .getfield 13, [7, 3, 189]), (47, .iload_n 2, []), (48, .iaload, []), (49, .if_icmp .eq 24, [73]), (52, .aload_n 0, []), (53, .iload_n 2, []), (54, .invokevirtual 102, [12, 0, 1, 7, 166, 167, 19, 165, 0, 164]), (57, .ifCond .lt 20, [77]), (60, .aload_n 0, []), (61, .iload_n 1, []), (62, .invokevirtual 102, [12, 0, 1, 7, 166, 167, 19, 165, 0, 164]), (65, .aload_n 0, []), (66, .iload_n 2, []), (67, .invokevirtual 102, [12, 0, 1, 7, 166, 167, 19, 165, 0, 164]), (70, .if_icmp .ne 7, [77]), (73, .iconst 1, []), (74, .goto 4, [78]), (77, .iconst 0, []), (78, .ireturn, [])]
def zm_50 : zM := (⟨"NightjarModel", "becauseNow", "(I)I"⟩, prog_9_method_33_code, 4, (Option.some Jvm.ClassFile.FieldType.int), 5, 120)
def zc_50 : List (Nat × Instr × List Nat) := [(0, .aload_n 0, []), (1, .iload_n 1, []), (2, .invokevirtual 96, [23, 0, 1, 7, 22, 23, 19, 21, 0, 20]), (5, .istore_n 2, []), (6, .iload_n 2, []), (7, .iconst (-1), []), (8, .if_icmp .ne 5, [13]), (11, .iconst (-1), []), (12, .ireturn, []), (13, .aload_n 0, []), (14, .iload_n 2, []), (15, .invokevirtual 146, [24, 0, 1, 7, 192, 193, 19, 191, 0, 190]), (18, .iconst 0, []), (19, .istore_n 3, []), (20, .iload_n 3, []), (21, .aload_n 0, []), (22, .getfield 136, [7, 20, 87]), (25, .if_icmp .ge 40, [65]), (28, .aload_n 0, []), (29, .iload_n 1, []), (30, .aload_n 0, []), (31, .getfield 52, [7, 21, 194]), (34, .iconst 4, []), (35, .iload_n 3, []), (36, .imul, []), (37, .iaload, []), (38, .invokevirtual 139, [32, 0, 2, 7, 90, 91, 19, 89, 0, 88]), (41, .iconst (-1), []), (42, .if_icmp .eq 17, [59]), (45, .aload_n 0, []), (46, .iload_n 1, []), (47, .aload_n 0, []), (48, .getfield 52, [7, 21, 194]), (51, .iconst 4, []), (52, .iload_n 3, []), (53, .imul, []), (54, .iaload, []), (55, .invokevirtual 139, [32, 0, 2, 7, 90, 91, 19, 89, 0, 88]), (58, .ireturn, []), (59, .iinc 3 1, []), (62, .goto (-42), [20]), (65, .iconst (-1), []), (66, .ireturn, [])]
def zm_51 : zM := (⟨"NightjarModel", "ofLineNow", "(II)I"⟩, prog_9_method_34_code, 3, (Option.some Jvm.ClassFile.FieldType.int), 4, 89)
def zc_51 : List (Nat × Instr × List Nat) := [(0, .iload_n 2, []), (1, .tableswitch 100 0 7 #[47, 54, 61, 68, 75, 81, 87, 94], [101, 48, 55, 62, 69, 76, 82, 88, 95]), (48, .aload_n 0, []), (49, .getfield 9, [7, 2, 109]), (52, .iload_n 1, []), (53, .iaload, []), (54, .ireturn, []), (55, .aload_n 0, []), (56, .getfield 13, [7, 3, 189]), (59, .iload_n 1, []), (60, .iaload, []), (61, .ireturn, []), (62, .aload_n 0, []), (63, .getfield 16, [7, 4, 195]), (66, .iload_n 1, []), (67, .iaload, []), (68, .ireturn, []), (69, .aload_n 0, []), (70, .getfield 19, [7, 5, 86]), (73, .iload_n 1, []), (74, .iaload, []), (75, .ireturn, []), (76, .aload_n 0, []), (77, .iload_n 1, []), (78, .invokevirtual 96, [23, 0, 1, 7, 22, 23, 19, 21, 0, 20]), (81, .ireturn, []), (82, .aload_n 0, []), (83, .iload_n 1, []), (84, .invokevirtual 102, [12, 0, 1, 7, 166, 167, 19, 165, 0, 164]), (87, .ireturn, []), (88, .aload_n 0, []), (89, .getfield 37, [7, 14, 96]), (92, .iload_n 1, []), (93, .iaload, []), (94, .ireturn, []), (95, .aload_n 0, []), (96, .iload_n 1, []), (97, .invokevirtual 108, [31, 0, 1, 7, 41, 42, 19, 40, 0, 39]), (100, .ireturn, []), (101, .aload_n 0, []), (102, .iload_n 1, []), (103, .invokevirtual 150, [110, 0, 1, 7, 198, 199, 19, 197, 0, 196]), (106, .ireturn, [])]
def zm_52 : zM := (⟨"NightjarModel", "ofTemplateNow", "(II)I"⟩, prog_9_method_37_code, 7, (Option.some Jvm.ClassFile.FieldType.int), 1, 23)
def zc_52 : List (Nat × Instr × List Nat) := [(0, .iload_n 2, []), (1, .iconst 2, []), (2, .if_icmp .ge 22, [24]), (5, .iload_n 2, []), (6, .ifCond .ne 12, [18]), (9, .aload_n 0, []), (10, .getfield 31, [7, 11, 24]), (13, .iload_n 1, []), (14, .iaload, []), (15, .goto 8, [23]), (18, .aload_n 0, []), (19, .iload_n 1, []), (20, .invokevirtual 159, [30, 0, 1, 7, 202, 203, 19, 201, 0, 200]), (23, .ireturn, []), (24, .iconst 0, []), (25, .istore_n 3, []), (26, .iconst (-1), []), (27, .istore 4, []), (29, .iconst 0, []), (30, .istore 5, []), (32, .iconst 0, []), (33, .istore 6, []), (35, .iload 6, []), (37, .aload_n 0, []), (38, .getfield 73, [7, 8, 37]), (41, .if_icmp .ge 55, [96]), (44, .aload_n 0, []), (45, .getfield 28, [7, 9, 38]), (48, .iload 6, []), (50, .iaload, []), (51, .iload_n 1, []), (52, .if_icmp .eq 6, [58]), (55, .goto 35, [90]), (58, .iload 4, []), (60, .iconst (-1), []), (61, .if_icmp .ne 8, [69]), (64, .iload 6, []), (66, .goto 5, [71]), (69, .iload 4, []), (71, .istore 4, []), (73, .iinc 3 1, []), (76, .iload 5, []), (78, .aload_n 0, []), (79, .getfield 16, [7, 4, 195]), (82, .iload 6, []), (84, .iaload, []), (85, .invokestatic 162, [0, 4, 204, 205, 206, 207]), (88, .istore 5, []), (90, .iinc 6 1, []), (93, .goto (-58), [35]), (96, .iload_n 2, []), (97, .iconst 2, []), (98, .if_icmp .ne 7, [105]), (101, .iload_n 3, []), (102, .goto 15, [117]), (105, .iload_n 2, []), (106, .iconst 3, []), (107, .if_icmp .ne 8, [115]), (110, .iload 4, []), (112, .goto 5, [117]), (115, .iload 5, []), (117, .ireturn, [])]
def zm_53 : zM := (⟨"NightjarModel", "valuesNow", "(II)I"⟩, prog_9_method_41_code, 7, (Option.some Jvm.ClassFile.FieldType.int), 1, 24)
def zc_53 : List (Nat × Instr × List Nat) := [(0, .aload_n 0, []), (1, .iload_n 1, []), (2, .iload_n 2, []), (3, .invokevirtual 173, [112, 0, 2, 7, 210, 211, 19, 209, 0, 208]), (6, .istore_n 3, []), (7, .sipush 1000, []), (10, .newarray .boolean, [2, 212]), (12, .astore 4, []), (14, .iconst 0, []), (15, .istore 5, []), (17, .iconst 0, []), (18, .istore 6, []), (20, .iload 6, []), (22, .aload_n 0, []), (23, .getfield 73, [7, 8, 37]), (26, .if_icmp .ge 60, [86]), (29, .aload_n 0, []), (30, .getfield 28, [7, 9, 38]), (33, .iload 6, []), (35, .iaload, []), (36, .iload_n 1, []), (37, .if_icmp .ne 43, [80]), (40, .aload 4, []), (42, .aload_n 0, []), (43, .getfield 22, [7, 6, 26]), (46, .iload 6, []), (48, .bipush 8, []), (50, .imul, []), (51, .iload_n 3, []), (52, .iadd, []), (53, .iaload, []), (54, .baload, []), (55, .ifCond .eq 6, [61]), (58, .goto 22, [80]), (61, .aload 4, []), (63, .aload_n 0, []), (64, .getfield 22, [7, 6, 26]), (67, .iload 6, []), (69, .bipush 8, []), (71, .imul, []), (72, .iload_n 3, []), (73, .iadd, []), (74, .iaload, []), (75, .iconst 1, []), (76, .bastore, []), (77, .iinc 5 1, []), (80, .iinc 6 1, []), (83, .goto (-63), [20]), (86, .iload 5, []), (88, .ireturn, [])]
def zm_54 : zM := (⟨"NightjarModel", "paths", "(I)I"⟩, prog_9_method_46_code, 4, (Option.some Jvm.ClassFile.FieldType.int), 2, 47)
def zc_54 : List (Nat × Instr × List Nat) := [(0, .iconst 0, []), (1, .istore_n 2, []), (2, .iconst 0, []), (3, .istore_n 3, []), (4, .iload_n 3, []), (5, .aload_n 0, []), (6, .getfield 99, [7, 13, 163]), (9, .if_icmp .ge 26, [35]), (12, .iload_n 2, []), (13, .aload_n 0, []), (14, .iload_n 1, []), (15, .iload_n 3, []), (16, .invokevirtual 182, [113, 0, 2, 7, 215, 216, 19, 214, 0, 213]), (19, .ifCond .eq 7, [26]), (22, .iconst 1, []), (23, .goto 4, [27]), (26, .iconst 0, []), (27, .iadd, []), (28, .istore_n 2, []), (29, .iinc 3 1, []), (32, .goto (-28), [4]), (35, .iload_n 2, []), (36, .ireturn, [])]
def zm_55 : zM := (⟨"NightjarModel", "ofSessionNow", "(II)I"⟩, prog_9_method_47_code, 7, (Option.some Jvm.ClassFile.FieldType.int), 3, 70)
def zc_55 : List (Nat × Instr × List Nat) := [(0, .iload_n 2, []), (1, .ifCond .ne 14, [15]), (4, .aload_n 0, []), (5, .aload_n 0, []), (6, .getfield 40, [7, 15, 168]), (9, .iload_n 1, []), (10, .iaload, []), (11, .invokevirtual 102, [12, 0, 1, 7, 166, 167, 19, 165, 0, 164]), (14, .ireturn, []), (15, .iload_n 2, []), (16, .iconst 3, []), (17, .if_icmp .ge 29, [46]), (20, .aload_n 0, []), (21, .getfield 9, [7, 2, 109]), (24, .iload_n 2, []), (25, .iconst 1, []), (26, .if_icmp .ne 12, [38]), (29, .aload_n 0, []), (30, .getfield 40, [7, 15, 168]), (33, .iload_n 1, []), (34, .iaload, []), (35, .goto 9, [44]), (38, .aload_n 0, []), (39, .getfield 43, [7, 16, 169]), (42, .iload_n 1, []), (43, .iaload, []), (44, .iaload, []), (45, .ireturn, []), (46, .iload_n 2, []), (47, .bipush 6, []), (49, .if_icmp .ne 9, [58]), (52, .aload_n 0, []), (53, .iload_n 1, []), (54, .invokevirtual 185, [54, 0, 1, 7, 219, 220, 19, 218, 0, 217]), (57, .ireturn, []), (58, .iconst 0, []), (59, .istore_n 3, []), (60, .iconst 0, []), (61, .istore 4, []), (63, .iconst 0, []), (64, .istore 5, []), (66, .iload 5, []), (68, .aload_n 0, []), (69, .getfield 59, [7, 1, 36]), (72, .if_icmp .ge 98, [170]), (75, .aload_n 0, []), (76, .getfield 37, [7, 14, 96]), (79, .iload 5, []), (81, .iaload, []), (82, .iload_n 1, []), (83, .if_icmp .eq 6, [89]), (86, .goto 78, [164]), (89, .iload 4, []), (91, .aload_n 0, []), (92, .getfield 28, [7, 9, 38]), (95, .iload 5, []), (97, .iaload, []), (98, .ishr, []), (99, .iconst 1, []), (100, .iand, []), (101, .ifCond .ne 7, [108]), (104, .iconst 1, []), (105, .goto 4, [109]), (108, .iconst 0, []), (109, .istore 6, []), (111, .iload 4, []), (113, .iconst 1, []), (114, .aload_n 0, []), (115, .getfield 28, [7, 9, 38]), (118, .iload 5, []), (120, .iaload, []), (121, .ishl, []), (122, .ior, []), (123, .istore 4, []), (125, .iload_n 3, []), (126, .iload_n 2, []), (127, .iconst 3, []), (128, .if_icmp .eq 29, [157]), (131, .iload_n 2, []), (132, .iconst 4, []), (133, .if_icmp .ne 14, [147]), (136, .aload_n 0, []), (137, .getfield 16, [7, 4, 195]), (140, .iload 5, []), (142, .iaload, []), (143, .iconst 3, []), (144, .if_icmp .eq 13, [157]), (147, .iload_n 2, []), (148, .iconst 5, []), (149, .if_icmp .ne 12, [161]), (152, .iload 6, []), (154, .ifCond .eq 7, [161]), (157, .iconst 1, []), (158, .goto 4, [162]), (161, .iconst 0, []), (162, .iadd, []), (163, .istore_n 3, []), (164, .iinc 5 1, []), (167, .goto (-101), [66]), (170, .iload_n 3, []), (171, .ireturn, [])]
def zm_56 : zM := (⟨"NightjarModel", "usualNow", "()I"⟩, prog_9_method_50_code, 5, (Option.some Jvm.ClassFile.FieldType.int), 3, 70)
def zc_56 : List (Nat × Instr × List Nat) := [(0, .iconst (-1), []), (1, .istore_n 1, []), (2, .iconst 0, []), (3, .istore_n 2, []), (4, .iconst 0, []), (5, .istore_n 3, []), (6, .iload_n 3, []), (7, .aload_n 0, []), (8, .getfield 99, [7, 13, 163]), (11, .if_icmp .ge 30, [41]), (14, .aload_n 0, []), (15, .iload_n 3, []), (16, .invokevirtual 185, [54, 0, 1, 7, 219, 220, 19, 218, 0, 217]), (19, .istore 4, []), (21, .iload 4, []), (23, .iload_n 2, []), (24, .if_icmp .gt 6, [30]), (27, .goto 8, [35]), (30, .iload 4, []), (32, .istore_n 2, []), (33, .iload_n 3, []), (34, .istore_n 1, []), (35, .iinc 3 1, []), (38, .goto (-32), [6]), (41, .iload_n 1, []), (42, .ireturn, [])]
def zm_57 : zM := (⟨"NightjarModel", "spikeNow", "(II)I"⟩, prog_9_method_54_code, 3, (Option.some Jvm.ClassFile.FieldType.int), 2, 45)
def zc_57 : List (Nat × Instr × List Nat) := [(0, .iload_n 2, []), (1, .ifCond .ne 12, [13]), (4, .aload_n 0, []), (5, .getfield 46, [7, 18, 175]), (8, .iload_n 1, []), (9, .iaload, []), (10, .goto 33, [43]), (13, .iload_n 2, []), (14, .iconst 1, []), (15, .if_icmp .ne 12, [27]), (18, .aload_n 0, []), (19, .getfield 49, [7, 19, 176]), (22, .iload_n 1, []), (23, .iaload, []), (24, .goto 19, [43]), (27, .aload_n 0, []), (28, .aload_n 0, []), (29, .getfield 49, [7, 19, 176]), (32, .iload_n 1, []), (33, .iaload, []), (34, .aload_n 0, []), (35, .getfield 46, [7, 18, 175]), (38, .iload_n 1, []), (39, .iaload, []), (40, .invokevirtual 114, [19, 0, 2, 7, 173, 174, 19, 172, 0, 171]), (43, .ireturn, [])]
def zm_58 : zM := (⟨"NightjarModel", "putBy", "(Z)[[I"⟩, prog_9_method_59_code, 3, (Option.some (Jvm.ClassFile.FieldType.array (Jvm.ClassFile.FieldType.array Jvm.ClassFile.FieldType.int))), 1, 68)
def zc_58 : List (Nat × Instr × List Nat) := [(0, .iconst 4, []), (1, .anewarray 201, [3, 221]), (4, .dup, []), (5, .iconst 0, []), (6, .aload_n 0, []), (7, .getfield 28, [7, 9, 38]), (10, .aastore, []), (11, .dup, []), (12, .iconst 1, []), (13, .aload_n 0, []), (14, .getfield 31, [7, 11, 24]), (17, .aastore, []), (18, .dup, []), (19, .iconst 2, []), (20, .aload_n 0, []), (21, .getfield 34, [7, 12, 25]), (24, .aastore, []), (25, .dup, []), (26, .iconst 3, []), (27, .iconst 2, []), (28, .newarray .int, [0, 5]), (30, .dup, []), (31, .iconst 0, []), (32, .aload_n 0, []), (33, .getfield 73, [7, 8, 37]), (36, .iastore, []), (37, .dup, []), (38, .iconst 1, []), (39, .aload_n 0, []), (40, .getfield 66, [7, 10, 15]), (43, .iastore, []), (44, .aastore, []), (45, .astore_n 2, []), (46, .aload_n 0, []), (47, .bipush 70, []), (49, .newarray .int, [0, 5]), (51, .putfield 28, [7, 9, 1, 38]), (54, .aload_n 0, []), (55, .bipush 20, []), (57, .newarray .int, [0, 5]), (59, .putfield 31, [7, 11, 1, 24]), (62, .aload_n 0, []), (63, .sipush 160, []), (66, .newarray .int, [0, 5]), (68, .putfield 34, [7, 12, 1, 25]), (71, .iload_n 1, []), (72, .ifCond .eq 49, [121]), (75, .aload_n 2, []), (76, .iconst 0, []), (77, .aaload, []), (78, .iconst 0, []), (79, .aload_n 0, []), (80, .getfield 28, [7, 9, 38]), (83, .iconst 0, []), (84, .bipush 70, []), (86, .invokestatic 86, [0, 3, 222, 223, 224, 225]), (89, .aload_n 2, []), (90, .iconst 1, []), (91, .aaload, []), (92, .iconst 0, []), (93, .aload_n 0, []), (94, .getfield 31, [7, 11, 24]), (97, .iconst 0, []), (98, .bipush 20, []), (100, .invokestatic 86, [0, 3, 222, 223, 224, 225]), (103, .aload_n 2, []), (104, .iconst 2, []), (105, .aaload, []), (106, .iconst 0, []), (107, .aload_n 0, []), (108, .getfield 34, [7, 12, 25]), (111, .iconst 0, []), (112, .sipush 160, []), (115, .invokestatic 86, [0, 3, 222, 223, 224, 225]), (118, .goto 13, [131]), (121, .aload_n 0, []), (122, .iconst 0, []), (123, .putfield 73, [7, 8, 0, 37]), (126, .aload_n 0, []), (127, .iconst 0, []), (128, .putfield 66, [7, 10, 0, 15]), (131, .aload_n 2, []), (132, .areturn, [])]
def zm_59 : zM := (⟨"NightjarModel", "takeAgain", "([[I)V"⟩, prog_9_method_60_code, 2, (Option.none : Option Jvm.ClassFile.FieldType), 0, 0)
def zc_59 : List (Nat × Instr × List Nat) := [(0, .aload_n 0, []), (1, .aload_n 1, []), (2, .iconst 0, []), (3, .aaload, []), (4, .putfield 28, [7, 9, 1, 38]), (7, .aload_n 0, []), (8, .aload_n 1, []), (9, .iconst 1, []), (10, .aaload, []), (11, .putfield 31, [7, 11, 1, 24]), (14, .aload_n 0, []), (15, .aload_n 1, []), (16, .iconst 2, []), (17, .aaload, []), (18, .putfield 34, [7, 12, 1, 25]), (21, .aload_n 0, []), (22, .aload_n 1, []), (23, .iconst 3, []), (24, .aaload, []), (25, .iconst 0, []), (26, .iaload, []), (27, .putfield 73, [7, 8, 0, 37]), (30, .aload_n 0, []), (31, .aload_n 1, []), (32, .iconst 3, []), (33, .aaload, []), (34, .iconst 1, []), (35, .iaload, []), (36, .putfield 66, [7, 10, 0, 15]), (39, .return_, [])]
def zm_60 : zM := (⟨"Nightjar$Lines", "<init>", "()V"⟩, prog_2_method_1_code, 1, (Option.none : Option Jvm.ClassFile.FieldType), 2, 41)
def zc_60 : List (Nat × Instr × List Nat) := [(0, .aload_n 0, []), (1, .invokespecial 3, [0, 5, 226, 3, 4]), (4, .aload_n 0, []), (5, .new 9, [1, 227, 130, 12, 1]), (8, .dup, []), (9, .bipush 70, []), (11, .invokespecial 11, [3, 2, 1, 0, 133, 0, 12, 132, 0, 228]), (14, .putfield 14, [0, 0, 1, 115]), (17, .aload_n 0, []), (18, .new 9, [1, 227, 130, 12, 1]), (21, .dup, []), (22, .bipush 70, []), (24, .invokespecial 11, [3, 2, 1, 0, 133, 0, 12, 132, 0, 228]), (27, .putfield 20, [0, 1, 1, 121]), (30, .aload_n 0, []), (31, .new 9, [1, 227, 130, 12, 1]), (34, .dup, []), (35, .bipush 70, []), (37, .invokespecial 11, [3, 2, 1, 0, 133, 0, 12, 132, 0, 228]), (40, .putfield 23, [0, 2, 1, 229]), (43, .aload_n 0, []), (44, .new 9, [1, 227, 130, 12, 1]), (47, .dup, []), (48, .bipush 70, []), (50, .invokespecial 11, [3, 2, 1, 0, 133, 0, 12, 132, 0, 228]), (53, .putfield 26, [0, 3, 1, 230]), (56, .aload_n 0, []), (57, .new 9, [1, 227, 130, 12, 1]), (60, .dup, []), (61, .sipush 560, []), (64, .invokespecial 11, [3, 2, 1, 0, 133, 0, 12, 132, 0, 228]), (67, .putfield 29, [0, 4, 1, 7]), (70, .aload_n 0, []), (71, .new 9, [1, 227, 130, 12, 1]), (74, .dup, []), (75, .bipush 70, []), (77, .invokespecial 11, [3, 2, 1, 0, 133, 0, 12, 132, 0, 228]), (80, .putfield 32, [0, 5, 1, 119]), (83, .aload_n 0, []), (84, .new 9, [1, 227, 130, 12, 1]), (87, .dup, []), (88, .bipush 70, []), (90, .invokespecial 11, [3, 2, 1, 0, 133, 0, 12, 132, 0, 228]), (93, .putfield 35, [0, 6, 1, 120]), (96, .return_, [])]
def zm_61 : zM := (⟨"Nightjar$Lines", "append", "(III)I"⟩, prog_2_method_2_code, 5, (Option.some Jvm.ClassFile.FieldType.int), 1, 22)
def zc_61 : List (Nat × Instr × List Nat) := [(0, .aload_n 0, []), (1, .getfield 38, [0, 7, 231]), (4, .istore 4, []), (6, .aload_n 0, []), (7, .getfield 14, [0, 0, 115]), (10, .iload 4, []), (12, .iload_n 1, []), (13, .invokevirtual 42, [1, 0, 2, 1, 234, 235, 12, 233, 0, 232]), (16, .aload_n 0, []), (17, .getfield 20, [0, 1, 121]), (20, .iload 4, []), (22, .iload_n 2, []), (23, .invokevirtual 42, [1, 0, 2, 1, 234, 235, 12, 233, 0, 232]), (26, .aload_n 0, []), (27, .getfield 23, [0, 2, 229]), (30, .iload 4, []), (32, .iload_n 3, []), (33, .invokevirtual 42, [1, 0, 2, 1, 234, 235, 12, 233, 0, 232]), (36, .aload_n 0, []), (37, .getfield 26, [0, 3, 230]), (40, .iload 4, []), (42, .iconst 0, []), (43, .invokevirtual 42, [1, 0, 2, 1, 234, 235, 12, 233, 0, 232]), (46, .aload_n 0, []), (47, .getfield 32, [0, 5, 119]), (50, .iload 4, []), (52, .iconst (-1), []), (53, .invokevirtual 42, [1, 0, 2, 1, 234, 235, 12, 233, 0, 232]), (56, .aload_n 0, []), (57, .iload 4, []), (59, .iconst 1, []), (60, .iadd, []), (61, .putfield 38, [0, 7, 0, 231]), (64, .iload 4, []), (66, .ireturn, [])]
def zm_62 : zM := (⟨"Nightjar$Lines", "appendWord", "(II)I"⟩, prog_2_method_3_code, 4, (Option.some Jvm.ClassFile.FieldType.int), 1, 22)
def zc_62 : List (Nat × Instr × List Nat) := [(0, .aload_n 0, []), (1, .getfield 26, [0, 3, 230]), (4, .iload_n 1, []), (5, .invokevirtual 46, [0, 0, 1, 1, 10, 11, 12, 9, 0, 8]), (8, .istore_n 3, []), (9, .aload_n 0, []), (10, .getfield 29, [0, 4, 7]), (13, .iload_n 1, []), (14, .bipush 8, []), (16, .imul, []), (17, .iload_n 3, []), (18, .iadd, []), (19, .iload_n 2, []), (20, .invokevirtual 42, [1, 0, 2, 1, 234, 235, 12, 233, 0, 232]), (23, .aload_n 0, []), (24, .getfield 26, [0, 3, 230]), (27, .iload_n 1, []), (28, .iload_n 3, []), (29, .iconst 1, []), (30, .iadd, []), (31, .invokevirtual 42, [1, 0, 2, 1, 234, 235, 12, 233, 0, 232]), (34, .iload_n 3, []), (35, .iconst 1, []), (36, .iadd, []), (37, .ireturn, [])]
def zm_63 : zM := (⟨"Nightjar$Lines", "unlearn", "()V"⟩, prog_2_method_4_code, 2, (Option.none : Option Jvm.ClassFile.FieldType), 1, 22)
def zc_63 : List (Nat × Instr × List Nat) := [(0, .iconst 0, []), (1, .istore_n 1, []), (2, .iload_n 1, []), (3, .aload_n 0, []), (4, .getfield 38, [0, 7, 231]), (7, .if_icmp .ge 18, [25]), (10, .aload_n 0, []), (11, .getfield 32, [0, 5, 119]), (14, .iload_n 1, []), (15, .iconst (-1), []), (16, .invokevirtual 42, [1, 0, 2, 1, 234, 235, 12, 233, 0, 232]), (19, .iinc 1 1, []), (22, .goto (-20), [2]), (25, .aload_n 0, []), (26, .iconst 0, []), (27, .putfield 50, [0, 8, 0, 114]), (30, .return_, [])]
def zm_64 : zM := (⟨"Nightjar$Lines", "findKeys", "(LNightjar$Templates;)V"⟩, prog_2_method_6_code, 4, (Option.none : Option Jvm.ClassFile.FieldType), 3, 67)
def zc_64 : List (Nat × Instr × List Nat) := [(0, .iconst 0, []), (1, .istore_n 2, []), (2, .iload_n 2, []), (3, .aload_n 0, []), (4, .getfield 38, [0, 7, 231]), (7, .if_icmp .ge 46, [53]), (10, .aload_n 1, []), (11, .aload_n 0, []), (12, .getfield 32, [0, 5, 119]), (15, .iload_n 2, []), (16, .invokevirtual 46, [0, 0, 1, 1, 10, 11, 12, 9, 0, 8]), (19, .iconst 0, []), (20, .invokevirtual 53, [40, 0, 2, 5, 238, 239, 139, 237, 0, 236]), (23, .istore_n 3, []), (24, .aload_n 0, []), (25, .getfield 35, [0, 6, 120]), (28, .iload_n 2, []), (29, .iload_n 3, []), (30, .iconst (-1), []), (31, .if_icmp .ne 7, [38]), (34, .iconst (-1), []), (35, .goto 9, [44]), (38, .aload_n 0, []), (39, .iload_n 2, []), (40, .iload_n 3, []), (41, .invokevirtual 59, [8, 0, 2, 0, 143, 144, 53, 142, 0, 240]), (44, .invokevirtual 42, [1, 0, 2, 1, 234, 235, 12, 233, 0, 232]), (47, .iinc 2 1, []), (50, .goto (-48), [2]), (53, .return_, [])]
def zm_65 : zM := (⟨"Nightjar$Lines", "howManyOf", "(I)I"⟩, prog_2_method_7_code, 4, (Option.some Jvm.ClassFile.FieldType.int), 1, 21)
def zc_65 : List (Nat × Instr × List Nat) := [(0, .iconst 0, []), (1, .istore_n 2, []), (2, .iconst 0, []), (3, .istore_n 3, []), (4, .iload_n 3, []), (5, .aload_n 0, []), (6, .getfield 50, [0, 8, 114]), (9, .if_icmp .ge 24, [33]), (12, .aload_n 0, []), (13, .getfield 32, [0, 5, 119]), (16, .iload_n 3, []), (17, .invokevirtual 46, [0, 0, 1, 1, 10, 11, 12, 9, 0, 8]), (20, .iload_n 1, []), (21, .if_icmp .ne 6, [27]), (24, .iinc 2 1, []), (27, .iinc 3 1, []), (30, .goto (-26), [4]), (33, .iload_n 2, []), (34, .ireturn, [])]
def zm_66 : zM := (⟨"Nightjar$Lines", "firstOf", "(I)I"⟩, prog_2_method_8_code, 3, (Option.some Jvm.ClassFile.FieldType.int), 1, 21)
def zc_66 : List (Nat × Instr × List Nat) := [(0, .iconst 0, []), (1, .istore_n 2, []), (2, .iload_n 2, []), (3, .aload_n 0, []), (4, .getfield 50, [0, 8, 114]), (7, .if_icmp .ge 23, [30]), (10, .aload_n 0, []), (11, .getfield 32, [0, 5, 119]), (14, .iload_n 2, []), (15, .invokevirtual 46, [0, 0, 1, 1, 10, 11, 12, 9, 0, 8]), (18, .iload_n 1, []), (19, .if_icmp .ne 5, [24]), (22, .iload_n 2, []), (23, .ireturn, []), (24, .iinc 2 1, []), (27, .goto (-25), [2]), (30, .iconst (-1), []), (31, .ireturn, [])]
def zm_67 : zM := (⟨"Nightjar$Lines", "worstLevelOf", "(I)I"⟩, prog_2_method_9_code, 4, (Option.some Jvm.ClassFile.FieldType.int), 1, 21)
def zc_67 : List (Nat × Instr × List Nat) := [(0, .iconst 0, []), (1, .istore_n 2, []), (2, .iconst 0, []), (3, .istore_n 3, []), (4, .iload_n 3, []), (5, .aload_n 0, []), (6, .getfield 50, [0, 8, 114]), (9, .if_icmp .ge 42, [51]), (12, .aload_n 0, []), (13, .getfield 32, [0, 5, 119]), (16, .iload_n 3, []), (17, .invokevirtual 46, [0, 0, 1, 1, 10, 11, 12, 9, 0, 8]), (20, .iload_n 1, []), (21, .if_icmp .ne 24, [45]), (24, .aload_n 0, []), (25, .getfield 23, [0, 2, 229]), (28, .iload_n 3, []), (29, .invokevirtual 46, [0, 0, 1, 1, 10, 11, 12, 9, 0, 8]), (32, .iload_n 2, []), (33, .if_icmp .le 12, [45]), (36, .aload_n 0, []), (37, .getfield 23, [0, 2, 229]), (40, .iload_n 3, []), (41, .invokevirtual 46, [0, 0, 1, 1, 10, 11, 12, 9, 0, 8]), (44, .istore_n 2, []), (45, .iinc 3 1, []), (48, .goto (-44), [4]), (51, .iload_n 2, []), (52, .ireturn, [])]
def zm_68 : zM := (⟨"Nightjar$Lines", "howManyWordsOf", "(II)I"⟩, prog_2_method_10_code, 5, (Option.some Jvm.ClassFile.FieldType.int), 3, 66)
def zc_68 : List (Nat × Instr × List Nat) := [(0, .iconst 0, []), (1, .istore_n 3, []), (2, .iconst 0, []), (3, .istore 4, []), (5, .iload 4, []), (7, .aload_n 0, []), (8, .getfield 50, [0, 8, 114]), (11, .if_icmp .ge 35, [46]), (14, .aload_n 0, []), (15, .getfield 32, [0, 5, 119]), (18, .iload 4, []), (20, .invokevirtual 46, [0, 0, 1, 1, 10, 11, 12, 9, 0, 8]), (23, .iload_n 1, []), (24, .if_icmp .ne 16, [40]), (27, .aload_n 0, []), (28, .iload 4, []), (30, .iload_n 2, []), (31, .invokevirtual 62, [69, 0, 2, 0, 243, 244, 53, 242, 0, 241]), (34, .ifCond .eq 6, [40]), (37, .iinc 3 1, []), (40, .iinc 4 1, []), (43, .goto (-38), [5]), (46, .iload_n 3, []), (47, .ireturn, [])]
def zm_69 : zM := (⟨"Nightjar$Lines", "isNewWord", "(II)Z"⟩, prog_2_method_11_code, 4, (Option.some Jvm.ClassFile.FieldType.boolean), 2, 43)
def zc_69 : List (Nat × Instr × List Nat) := [(0, .iconst 0, []), (1, .istore_n 3, []), (2, .iload_n 3, []), (3, .iload_n 1, []), (4, .if_icmp .ge 45, [49]), (7, .aload_n 0, []), (8, .getfield 32, [0, 5, 119]), (11, .iload_n 3, []), (12, .invokevirtual 46, [0, 0, 1, 1, 10, 11, 12, 9, 0, 8]), (15, .aload_n 0, []), (16, .getfield 32, [0, 5, 119]), (19, .iload_n 1, []), (20, .invokevirtual 46, [0, 0, 1, 1, 10, 11, 12, 9, 0, 8]), (23, .if_icmp .ne 20, [43]), (26, .aload_n 0, []), (27, .iload_n 3, []), (28, .iload_n 2, []), (29, .invokevirtual 59, [8, 0, 2, 0, 143, 144, 53, 142, 0, 240]), (32, .aload_n 0, []), (33, .iload_n 1, []), (34, .iload_n 2, []), (35, .invokevirtual 59, [8, 0, 2, 0, 143, 144, 53, 142, 0, 240]), (38, .if_icmp .ne 5, [43]), (41, .iconst 0, []), (42, .ireturn, []), (43, .iinc 3 1, []), (46, .goto (-44), [2]), (49, .iconst 1, []), (50, .ireturn, [])]
def zm_70 : zM := (⟨"Nightjar$Scenes", "<init>", "()V"⟩, prog_4_method_1_code, 1, (Option.none : Option Jvm.ClassFile.FieldType), 2, 41)
def zc_70 : List (Nat × Instr × List Nat) := [(0, .aload_n 0, []), (1, .invokespecial 3, [0, 5, 245, 3, 4]), (4, .aload_n 0, []), (5, .new 9, [1, 246, 130, 12, 1]), (8, .dup, []), (9, .bipush 70, []), (11, .invokespecial 11, [3, 2, 1, 0, 133, 0, 12, 132, 0, 247]), (14, .putfield 14, [2, 0, 1, 248]), (17, .aload_n 0, []), (18, .new 9, [1, 246, 130, 12, 1]), (21, .dup, []), (22, .bipush 70, []), (24, .invokespecial 11, [3, 2, 1, 0, 133, 0, 12, 132, 0, 247]), (27, .putfield 20, [2, 1, 1, 249]), (30, .aload_n 0, []), (31, .new 9, [1, 246, 130, 12, 1]), (34, .dup, []), (35, .sipush 400, []), (38, .invokespecial 11, [3, 2, 1, 0, 133, 0, 12, 132, 0, 247]), (41, .putfield 23, [2, 2, 1, 97]), (44, .aload_n 0, []), (45, .new 9, [1, 246, 130, 12, 1]), (48, .dup, []), (49, .bipush 20, []), (51, .invokespecial 11, [3, 2, 1, 0, 133, 0, 12, 132, 0, 247]), (54, .putfield 26, [2, 3, 1, 122]), (57, .aload_n 0, []), (58, .new 9, [1, 246, 130, 12, 1]), (61, .dup, []), (62, .bipush 20, []), (64, .invokespecial 11, [3, 2, 1, 0, 133, 0, 12, 132, 0, 247]), (67, .putfield 29, [2, 4, 1, 250]), (70, .aload_n 0, []), (71, .new 9, [1, 246, 130, 12, 1]), (74, .dup, []), (75, .sipush 400, []), (78, .invokespecial 11, [3, 2, 1, 0, 133, 0, 12, 132, 0, 247]), (81, .putfield 32, [2, 5, 1, 127]), (84, .aload_n 0, []), (85, .new 9, [1, 246, 130, 12, 1]), (88, .dup, []), (89, .sipush 400, []), (92, .invokespecial 11, [3, 2, 1, 0, 133, 0, 12, 132, 0, 247]), (95, .putfield 35, [2, 6, 1, 43]), (98, .aload_n 0, []), (99, .new 9, [1, 246, 130, 12, 1]), (102, .dup, []), (103, .bipush 20, []), (105, .invokespecial 11, [3, 2, 1, 0, 133, 0, 12, 132, 0, 247]), (108, .putfield 38, [2, 7, 1, 251]), (111, .return_, [])]
def zm_71 : zM := (⟨"Nightjar$Scenes", "look", "(LNightjar$Lines;I)V"⟩, prog_4_method_2_code, 7, (Option.none : Option Jvm.ClassFile.FieldType), 2, 45)
def zc_71 : List (Nat × Instr × List Nat) := [(0, .iconst 0, []), (1, .istore_n 3, []), (2, .iload_n 3, []), (3, .aload_n 1, []), (4, .getfield 41, [0, 7, 252]), (7, .if_icmp .ge 81, [88]), (10, .iconst 0, []), (11, .istore 4, []), (13, .iconst 0, []), (14, .istore 5, []), (16, .iconst 0, []), (17, .istore 6, []), (19, .iload 6, []), (21, .iload_n 3, []), (22, .if_icmp .ge 40, [62]), (25, .aload_n 1, []), (26, .iload 6, []), (28, .iload_n 3, []), (29, .iload_n 2, []), (30, .invokevirtual 47, [35, 0, 3, 0, 255, 256, 53, 254, 0, 253]), (33, .ifCond .eq 23, [56]), (36, .iinc 4 1, []), (39, .iload 5, []), (41, .aload_n 1, []), (42, .getfield 51, [0, 5, 257]), (45, .iload 6, []), (47, .invokevirtual 54, [0, 0, 1, 1, 10, 11, 12, 9, 0, 48]), (50, .invokestatic 58, [26, 1, 1, 0, 260, 0, 47, 259, 0, 258]), (53, .ior, []), (54, .istore 5, []), (56, .iinc 6 1, []), (59, .goto (-40), [19]), (62, .aload_n 0, []), (63, .getfield 14, [2, 0, 248]), (66, .iload_n 3, []), (67, .iload 4, []), (69, .invokevirtual 61, [1, 0, 2, 1, 234, 235, 12, 233, 0, 261]), (72, .aload_n 0, []), (73, .getfield 20, [2, 1, 249]), (76, .iload_n 3, []), (77, .iload 5, []), (79, .invokevirtual 61, [1, 0, 2, 1, 234, 235, 12, 233, 0, 261]), (82, .iinc 3 1, []), (85, .goto (-83), [2]), (88, .return_, [])]
def zm_72 : zM := (⟨"Nightjar$Scenes", "tally", "(LNightjar$Lines;I)V"⟩, prog_4_method_5_code, 6, (Option.none : Option Jvm.ClassFile.FieldType), 1, 21)
def zc_72 : List (Nat × Instr × List Nat) := [(0, .aload_n 0, []), (1, .getfield 23, [2, 2, 97]), (4, .invokevirtual 65, [15, 0, 0, 1, 264, 265, 12, 263, 0, 262]), (7, .aload_n 0, []), (8, .getfield 26, [2, 3, 122]), (11, .invokevirtual 65, [15, 0, 0, 1, 264, 265, 12, 263, 0, 262]), (14, .aload_n 0, []), (15, .getfield 29, [2, 4, 250]), (18, .invokevirtual 65, [15, 0, 0, 1, 264, 265, 12, 263, 0, 262]), (21, .iconst 0, []), (22, .istore_n 3, []), (23, .iload_n 3, []), (24, .aload_n 1, []), (25, .getfield 68, [0, 8, 266]), (28, .if_icmp .ge 83, [111]), (31, .aload_n 1, []), (32, .getfield 51, [0, 5, 257]), (35, .iload_n 3, []), (36, .invokevirtual 54, [0, 0, 1, 1, 10, 11, 12, 9, 0, 48]), (39, .istore 4, []), (41, .aload_n 0, []), (42, .getfield 29, [2, 4, 250]), (45, .iload 4, []), (47, .invokevirtual 71, [7, 0, 1, 1, 269, 270, 12, 268, 0, 267]), (50, .iconst 0, []), (51, .istore 5, []), (53, .iload 5, []), (55, .iload_n 2, []), (56, .if_icmp .ge 49, [105]), (59, .aload_n 0, []), (60, .getfield 20, [2, 1, 249]), (63, .iload_n 3, []), (64, .invokevirtual 54, [0, 0, 1, 1, 10, 11, 12, 9, 0, 48]), (67, .iload 5, []), (69, .invokestatic 58, [26, 1, 1, 0, 260, 0, 47, 259, 0, 258]), (72, .iand, []), (73, .ifCond .eq 26, [99]), (76, .aload_n 0, []), (77, .getfield 26, [2, 3, 122]), (80, .iload 5, []), (82, .invokevirtual 71, [7, 0, 1, 1, 269, 270, 12, 268, 0, 267]), (85, .aload_n 0, []), (86, .getfield 23, [2, 2, 97]), (89, .iload 4, []), (91, .iload 5, []), (93, .invokestatic 74, [9, 1, 2, 0, 46, 0, 47, 45, 0, 44]), (96, .invokevirtual 71, [7, 0, 1, 1, 269, 270, 12, 268, 0, 267]), (99, .iinc 5 1, []), (102, .goto (-49), [53]), (105, .iinc 3 1, []), (108, .goto (-85), [23]), (111, .return_, [])]
def zm_73 : zM := (⟨"Nightjar$Scenes", "rankCauses", "(II)V"⟩, prog_4_method_6_code, 7, (Option.none : Option Jvm.ClassFile.FieldType), 3, 67)
def zc_73 : List (Nat × Instr × List Nat) := [(0, .iconst 0, []), (1, .istore_n 3, []), (2, .iload_n 3, []), (3, .iload_n 1, []), (4, .if_icmp .ge 115, [119]), (7, .aload_n 0, []), (8, .getfield 29, [2, 4, 250]), (11, .iload_n 3, []), (12, .invokevirtual 54, [0, 0, 1, 1, 10, 11, 12, 9, 0, 48]), (15, .istore 4, []), (17, .aload_n 0, []), (18, .getfield 38, [2, 7, 251]), (21, .iload_n 3, []), (22, .iconst 0, []), (23, .invokevirtual 61, [1, 0, 2, 1, 234, 235, 12, 233, 0, 261]), (26, .iconst 0, []), (27, .istore 5, []), (29, .iload 5, []), (31, .iload_n 1, []), (32, .if_icmp .ge 81, [113]), (35, .sipush 1000, []), (38, .aload_n 0, []), (39, .iload_n 3, []), (40, .iload 5, []), (42, .invokevirtual 78, [27, 0, 2, 2, 125, 126, 47, 124, 0, 123]), (45, .imul, []), (46, .iload 4, []), (48, .invokestatic 81, [13, 1, 2, 0, 117, 0, 118, 116, 1, 1]), (51, .sipush 1000, []), (54, .aload_n 0, []), (55, .iload_n 3, []), (56, .iload 5, []), (58, .invokevirtual 84, [36, 0, 2, 2, 273, 274, 47, 272, 0, 271]), (61, .imul, []), (62, .iload_n 2, []), (63, .iload 4, []), (65, .isub, []), (66, .invokestatic 81, [13, 1, 2, 0, 117, 0, 118, 116, 1, 1]), (69, .isub, []), (70, .istore 6, []), (72, .aload_n 0, []), (73, .getfield 32, [2, 5, 127]), (76, .iload_n 3, []), (77, .iload 5, []), (79, .invokestatic 74, [9, 1, 2, 0, 46, 0, 47, 45, 0, 44]), (82, .iload 6, []), (84, .invokevirtual 61, [1, 0, 2, 1, 234, 235, 12, 233, 0, 261]), (87, .iload 5, []), (89, .iload_n 3, []), (90, .if_icmp .eq 17, [107]), (93, .iload 6, []), (95, .ifCond .le 12, [107]), (98, .aload_n 0, []), (99, .iload_n 3, []), (100, .iload 5, []), (102, .iload 6, []), (104, .invokevirtual 87, [74, 0, 3, 2, 277, 278, 47, 276, 0, 275]), (107, .iinc 5 1, []), (110, .goto (-81), [29]), (113, .iinc 3 1, []), (116, .goto (-114), [2]), (119, .return_, [])]
def zm_74 : zM := (⟨"Nightjar$Scenes", "enter", "(III)V"⟩, prog_4_method_7_code, 5, (Option.none : Option Jvm.ClassFile.FieldType), 2, 43)
def zc_74 : List (Nat × Instr × List Nat) := [(0, .aload_n 0, []), (1, .getfield 38, [2, 7, 251]), (4, .iload_n 1, []), (5, .invokevirtual 54, [0, 0, 1, 1, 10, 11, 12, 9, 0, 48]), (8, .istore 4, []), (10, .iload 4, []), (12, .ifCond .le 49, [61]), (15, .aload_n 0, []), (16, .iload_n 1, []), (17, .aload_n 0, []), (18, .iload_n 1, []), (19, .iload 4, []), (21, .iconst 1, []), (22, .isub, []), (23, .invokevirtual 91, [20, 0, 2, 2, 281, 282, 47, 280, 0, 279]), (26, .invokevirtual 94, [37, 0, 2, 2, 285, 286, 47, 284, 0, 283]), (29, .iload_n 3, []), (30, .if_icmp .ge 31, [61]), (33, .aload_n 0, []), (34, .getfield 35, [2, 6, 43]), (37, .iload_n 1, []), (38, .iload 4, []), (40, .invokestatic 74, [9, 1, 2, 0, 46, 0, 47, 45, 0, 44]), (43, .aload_n 0, []), (44, .iload_n 1, []), (45, .iload 4, []), (47, .iconst 1, []), (48, .isub, []), (49, .invokevirtual 91, [20, 0, 2, 2, 281, 282, 47, 280, 0, 279]), (52, .invokevirtual 61, [1, 0, 2, 1, 234, 235, 12, 233, 0, 261]), (55, .iinc 4 (-1), []), (58, .goto (-48), [10]), (61, .aload_n 0, []), (62, .getfield 35, [2, 6, 43]), (65, .iload_n 1, []), (66, .iload 4, []), (68, .invokestatic 74, [9, 1, 2, 0, 46, 0, 47, 45, 0, 44]), (71, .iload_n 2, []), (72, .invokevirtual 61, [1, 0, 2, 1, 234, 235, 12, 233, 0, 261]), (75, .aload_n 0, []), (76, .getfield 38, [2, 7, 251]), (79, .iload_n 1, []), (80, .invokevirtual 71, [7, 0, 1, 1, 269, 270, 12, 268, 0, 267]), (83, .return_, [])]
def zm_75 : zM := (⟨"Nightjar$Scenes", "lineBehind", "(LNightjar$Lines;II)I"⟩, prog_4_method_12_code, 7, (Option.some Jvm.ClassFile.FieldType.int), 3, 69)
def zc_75 : List (Nat × Instr × List Nat) := [(0, .aload_n 1, []), (1, .getfield 51, [0, 5, 257]), (4, .iload_n 2, []), (5, .invokevirtual 54, [0, 0, 1, 1, 10, 11, 12, 9, 0, 48]), (8, .istore 4, []), (10, .iconst 0, []), (11, .istore 5, []), (13, .iload 5, []), (15, .aload_n 0, []), (16, .getfield 38, [2, 7, 251]), (19, .iload 4, []), (21, .invokevirtual 54, [0, 0, 1, 1, 10, 11, 12, 9, 0, 48]), (24, .if_icmp .ge 45, [69]), (27, .aload_n 0, []), (28, .iload 4, []), (30, .iload 5, []), (32, .invokevirtual 91, [20, 0, 2, 2, 281, 282, 47, 280, 0, 279]), (35, .istore 6, []), (37, .aload_n 0, []), (38, .getfield 20, [2, 1, 249]), (41, .iload_n 2, []), (42, .invokevirtual 54, [0, 0, 1, 1, 10, 11, 12, 9, 0, 48]), (45, .iload 6, []), (47, .invokestatic 58, [26, 1, 1, 0, 260, 0, 47, 259, 0, 258]), (50, .iand, []), (51, .ifCond .eq 12, [63]), (54, .aload_n 1, []), (55, .iload_n 2, []), (56, .iload 6, []), (58, .iload_n 3, []), (59, .invokestatic 97, [76, 1, 4, 0, 289, 0, 47, 288, 0, 287]), (62, .ireturn, []), (63, .iinc 5 1, []), (66, .goto (-53), [13]), (69, .iconst (-1), []), (70, .ireturn, [])]
def zm_76 : zM := (⟨"Nightjar$Scenes", "lastInScene", "(LNightjar$Lines;III)I"⟩, prog_4_method_13_code, 5, (Option.some Jvm.ClassFile.FieldType.int), 2, 45)
def zc_76 : List (Nat × Instr × List Nat) := [(0, .iload_n 1, []), (1, .iconst 1, []), (2, .isub, []), (3, .istore 4, []), (5, .iload 4, []), (7, .ifCond .lt 36, [43]), (10, .aload_n 0, []), (11, .getfield 51, [0, 5, 257]), (14, .iload 4, []), (16, .invokevirtual 54, [0, 0, 1, 1, 10, 11, 12, 9, 0, 48]), (19, .iload_n 2, []), (20, .if_icmp .ne 17, [37]), (23, .aload_n 0, []), (24, .iload 4, []), (26, .iload_n 1, []), (27, .iload_n 3, []), (28, .invokevirtual 47, [35, 0, 3, 0, 255, 256, 53, 254, 0, 253]), (31, .ifCond .eq 6, [37]), (34, .iload 4, []), (36, .ireturn, []), (37, .iinc 4 (-1), []), (40, .goto (-35), [5]), (43, .iconst (-1), []), (44, .ireturn, [])]
def zm_77 : zM := (⟨"Nightjar$Sessions", "<init>", "()V"⟩, prog_5_method_1_code, 1, (Option.none : Option Jvm.ClassFile.FieldType), 2, 41)
def zc_77 : List (Nat × Instr × List Nat) := [(0, .aload_n 0, []), (1, .invokespecial 3, [0, 5, 290, 3, 4]), (4, .aload_n 0, []), (5, .new 9, [1, 291, 130, 12, 1]), (8, .dup, []), (9, .bipush 70, []), (11, .invokespecial 11, [3, 2, 1, 0, 133, 0, 12, 132, 0, 292]), (14, .putfield 14, [3, 0, 1, 293]), (17, .aload_n 0, []), (18, .new 9, [1, 291, 130, 12, 1]), (21, .dup, []), (22, .bipush 70, []), (24, .invokespecial 11, [3, 2, 1, 0, 133, 0, 12, 132, 0, 292]), (27, .putfield 20, [3, 1, 1, 294]), (30, .aload_n 0, []), (31, .new 9, [1, 291, 130, 12, 1]), (34, .dup, []), (35, .bipush 70, []), (37, .invokespecial 11, [3, 2, 1, 0, 133, 0, 12, 132, 0, 292]), (40, .putfield 23, [3, 2, 1, 295]), (43, .aload_n 0, []), (44, .new 9, [1, 291, 130, 12, 1]), (47, .dup, []), (48, .bipush 70, []), (50, .invokespecial 11, [3, 2, 1, 0, 133, 0, 12, 132, 0, 292]), (53, .putfield 26, [3, 3, 1, 296]), (56, .aload_n 0, []), (57, .new 9, [1, 291, 130, 12, 1]), (60, .dup, []), (61, .bipush 70, []), (63, .invokespecial 11, [3, 2, 1, 0, 133, 0, 12, 132, 0, 292]), (66, .putfield 29, [3, 4, 1, 297]), (69, .aload_n 0, []), (70, .new 9, [1, 291, 130, 12, 1]), (73, .dup, []), (74, .bipush 70, []), (76, .invokespecial 11, [3, 2, 1, 0, 133, 0, 12, 132, 0, 292]), (79, .putfield 32, [3, 5, 1, 298]), (82, .aload_n 0, []), (83, .new 9, [1, 291, 130, 12, 1]), (86, .dup, []), (87, .bipush 70, []), (89, .invokespecial 11, [3, 2, 1, 0, 133, 0, 12, 132, 0, 292]), (92, .putfield 35, [3, 6, 1, 99]), (95, .aload_n 0, []), (96, .new 9, [1, 291, 130, 12, 1]), (99, .dup, []), (100, .bipush 70, []), (102, .invokespecial 11, [3, 2, 1, 0, 133, 0, 12, 132, 0, 292]), (105, .putfield 38, [3, 7, 1, 98]), (108, .return_, [])]
def zm_78 : zM := (⟨"Nightjar$Sessions", "find", "(LNightjar$Lines;I)V"⟩, prog_5_method_2_code, 6, (Option.none : Option Jvm.ClassFile.FieldType), 2, 44)
def zc_78 : List (Nat × Instr × List Nat) := [(0, .aload_n 0, []), (1, .iconst 0, []), (2, .putfield 41, [3, 8, 0, 299]), (5, .iconst 0, []), (6, .istore_n 3, []), (7, .iload_n 3, []), (8, .aload_n 1, []), (9, .getfield 45, [0, 7, 300]), (12, .if_icmp .ge 110, [122]), (15, .aload_n 0, []), (16, .getfield 14, [3, 0, 293]), (19, .iload_n 3, []), (20, .iconst (-1), []), (21, .invokevirtual 48, [1, 0, 2, 1, 234, 235, 12, 233, 0, 301]), (24, .aload_n 1, []), (25, .getfield 52, [0, 6, 302]), (28, .iload_n 3, []), (29, .invokevirtual 55, [0, 0, 1, 1, 10, 11, 12, 9, 0, 100]), (32, .ifCond .lt 84, [116]), (35, .aload_n 1, []), (36, .iload_n 3, []), (37, .iload_n 2, []), (38, .invokevirtual 59, [34, 0, 2, 0, 305, 306, 53, 304, 0, 303]), (41, .istore 4, []), (43, .iload 4, []), (45, .iconst (-1), []), (46, .if_icmp .ne 11, [57]), (49, .aload_n 0, []), (50, .iload_n 3, []), (51, .invokevirtual 63, [79, 0, 1, 3, 309, 310, 61, 308, 0, 307]), (54, .goto 10, [64]), (57, .aload_n 0, []), (58, .iload 4, []), (60, .iload_n 3, []), (61, .invokevirtual 66, [80, 0, 2, 3, 313, 314, 61, 312, 0, 311]), (64, .istore 5, []), (66, .aload_n 0, []), (67, .getfield 14, [3, 0, 293]), (70, .iload_n 3, []), (71, .iload 5, []), (73, .invokevirtual 48, [1, 0, 2, 1, 234, 235, 12, 233, 0, 301]), (76, .aload_n 0, []), (77, .getfield 26, [3, 3, 296]), (80, .iload 5, []), (82, .iload_n 3, []), (83, .invokevirtual 48, [1, 0, 2, 1, 234, 235, 12, 233, 0, 301]), (86, .aload_n 0, []), (87, .getfield 29, [3, 4, 297]), (90, .iload 5, []), (92, .invokevirtual 69, [7, 0, 1, 1, 269, 270, 12, 268, 0, 315]), (95, .aload_n 1, []), (96, .getfield 72, [0, 2, 316]), (99, .iload_n 3, []), (100, .invokevirtual 55, [0, 0, 1, 1, 10, 11, 12, 9, 0, 100]), (103, .iconst 3, []), (104, .if_icmp .ne 12, [116]), (107, .aload_n 0, []), (108, .getfield 32, [3, 5, 298]), (111, .iload 5, []), (113, .invokevirtual 69, [7, 0, 1, 1, 269, 270, 12, 268, 0, 315]), (116, .iinc 3 1, []), (119, .goto (-112), [7]), (122, .return_, [])]
def zm_79 : zM := (⟨"Nightjar$Sessions", "begin", "(I)I"⟩, prog_5_method_3_code, 3, (Option.some Jvm.ClassFile.FieldType.int), 1, 22)
def zc_79 : List (Nat × Instr × List Nat) := [(0, .aload_n 0, []), (1, .getfield 41, [3, 8, 299]), (4, .istore_n 2, []), (5, .aload_n 0, []), (6, .getfield 23, [3, 2, 295]), (9, .iload_n 2, []), (10, .iload_n 1, []), (11, .invokevirtual 48, [1, 0, 2, 1, 234, 235, 12, 233, 0, 301]), (14, .aload_n 0, []), (15, .getfield 29, [3, 4, 297]), (18, .iload_n 2, []), (19, .iconst 0, []), (20, .invokevirtual 48, [1, 0, 2, 1, 234, 235, 12, 233, 0, 301]), (23, .aload_n 0, []), (24, .getfield 32, [3, 5, 298]), (27, .iload_n 2, []), (28, .iconst 0, []), (29, .invokevirtual 48, [1, 0, 2, 1, 234, 235, 12, 233, 0, 301]), (32, .aload_n 0, []), (33, .iload_n 2, []), (34, .iconst 1, []), (35, .iadd, []), (36, .putfield 41, [3, 8, 0, 299]), (39, .iload_n 2, []), (40, .ireturn, [])]
def zm_80 : zM := (⟨"Nightjar$Sessions", "goOn", "(II)I"⟩, prog_5_method_4_code, 3, (Option.some Jvm.ClassFile.FieldType.int), 1, 22)
def zc_80 : List (Nat × Instr × List Nat) := [(0, .aload_n 0, []), (1, .getfield 20, [3, 1, 294]), (4, .iload_n 1, []), (5, .iload_n 2, []), (6, .invokevirtual 48, [1, 0, 2, 1, 234, 235, 12, 233, 0, 301]), (9, .aload_n 0, []), (10, .getfield 14, [3, 0, 293]), (13, .iload_n 1, []), (14, .invokevirtual 55, [0, 0, 1, 1, 10, 11, 12, 9, 0, 100]), (17, .ireturn, [])]
def zm_81 : zM := (⟨"Nightjar$Sessions", "comparePaths", "(LNightjar$Lines;)V"⟩, prog_5_method_5_code, 4, (Option.none : Option Jvm.ClassFile.FieldType), 2, 47)
def zc_81 : List (Nat × Instr × List Nat) := [(0, .aload_n 0, []), (1, .getfield 38, [3, 7, 98]), (4, .invokevirtual 75, [15, 0, 0, 1, 264, 265, 12, 263, 0, 317]), (7, .iconst 0, []), (8, .istore_n 2, []), (9, .iload_n 2, []), (10, .aload_n 0, []), (11, .getfield 41, [3, 8, 299]), (14, .if_icmp .ge 49, [63]), (17, .iconst 0, []), (18, .istore_n 3, []), (19, .iload_n 3, []), (20, .iload_n 2, []), (21, .if_icmp .ge 19, [40]), (24, .aload_n 0, []), (25, .aload_n 1, []), (26, .iload_n 3, []), (27, .iload_n 2, []), (28, .invokevirtual 78, [82, 0, 3, 3, 320, 321, 61, 319, 0, 318]), (31, .ifCond .ne 9, [40]), (34, .iinc 3 1, []), (37, .goto (-18), [19]), (40, .aload_n 0, []), (41, .getfield 35, [3, 6, 99]), (44, .iload_n 2, []), (45, .iload_n 3, []), (46, .invokevirtual 48, [1, 0, 2, 1, 234, 235, 12, 233, 0, 301]), (49, .aload_n 0, []), (50, .getfield 38, [3, 7, 98]), (53, .iload_n 3, []), (54, .invokevirtual 69, [7, 0, 1, 1, 269, 270, 12, 268, 0, 315]), (57, .iinc 2 1, []), (60, .goto (-51), [9]), (63, .return_, [])]
def zm_82 : zM := (⟨"Nightjar$Sessions", "isSamePath", "(LNightjar$Lines;II)Z"⟩, prog_5_method_6_code, 7, (Option.some Jvm.ClassFile.FieldType.boolean), 1, 21)
def zc_82 : List (Nat × Instr × List Nat) := [(0, .aload_n 0, []), (1, .getfield 29, [3, 4, 297]), (4, .iload_n 2, []), (5, .invokevirtual 55, [0, 0, 1, 1, 10, 11, 12, 9, 0, 100]), (8, .aload_n 0, []), (9, .getfield 29, [3, 4, 297]), (12, .iload_n 3, []), (13, .invokevirtual 55, [0, 0, 1, 1, 10, 11, 12, 9, 0, 100]), (16, .if_icmp .eq 5, [21]), (19, .iconst 0, []), (20, .ireturn, []), (21, .aload_n 0, []), (22, .getfield 23, [3, 2, 295]), (25, .iload_n 2, []), (26, .invokevirtual 55, [0, 0, 1, 1, 10, 11, 12, 9, 0, 100]), (29, .istore 4, []), (31, .aload_n 0, []), (32, .getfield 23, [3, 2, 295]), (35, .iload_n 3, []), (36, .invokevirtual 55, [0, 0, 1, 1, 10, 11, 12, 9, 0, 100]), (39, .istore 5, []), (41, .iconst 0, []), (42, .istore 6, []), (44, .iload 6, []), (46, .aload_n 0, []), (47, .getfield 29, [3, 4, 297]), (50, .iload_n 2, []), (51, .invokevirtual 55, [0, 0, 1, 1, 10, 11, 12, 9, 0, 100]), (54, .if_icmp .ge 54, [108]), (57, .aload_n 1, []), (58, .getfield 82, [0, 5, 322]), (61, .iload 4, []), (63, .invokevirtual 55, [0, 0, 1, 1, 10, 11, 12, 9, 0, 100]), (66, .aload_n 1, []), (67, .getfield 82, [0, 5, 322]), (70, .iload 5, []), (72, .invokevirtual 55, [0, 0, 1, 1, 10, 11, 12, 9, 0, 100]), (75, .if_icmp .eq 5, [80]), (78, .iconst 0, []), (79, .ireturn, []), (80, .aload_n 0, []), (81, .getfield 20, [3, 1, 294]), (84, .iload 4, []), (86, .invokevirtual 55, [0, 0, 1, 1, 10, 11, 12, 9, 0, 100]), (89, .istore 4, []), (91, .aload_n 0, []), (92, .getfield 20, [3, 1, 294]), (95, .iload 5, []), (97, .invokevirtual 55, [0, 0, 1, 1, 10, 11, 12, 9, 0, 100]), (100, .istore 5, []), (102, .iinc 6 1, []), (105, .goto (-61), [44]), (108, .iconst 1, []), (109, .ireturn, [])]
def zm_83 : zM := (⟨"Nightjar$Sessions", "lineIn", "(II)I"⟩, prog_5_method_7_code, 5, (Option.some Jvm.ClassFile.FieldType.int), 1, 21)
def zc_83 : List (Nat × Instr × List Nat) := [(0, .aload_n 0, []), (1, .getfield 23, [3, 2, 295]), (4, .iload_n 1, []), (5, .invokevirtual 55, [0, 0, 1, 1, 10, 11, 12, 9, 0, 100]), (8, .istore_n 3, []), (9, .iconst 0, []), (10, .istore 4, []), (12, .iload 4, []), (14, .iload_n 2, []), (15, .if_icmp .ge 18, [33]), (18, .aload_n 0, []), (19, .getfield 20, [3, 1, 294]), (22, .iload_n 3, []), (23, .invokevirtual 55, [0, 0, 1, 1, 10, 11, 12, 9, 0, 100]), (26, .istore_n 3, []), (27, .iinc 4 1, []), (30, .goto (-18), [12]), (33, .iload_n 3, []), (34, .ireturn, [])]
def zm_84 : zM := (⟨"Nightjar$Sessions", "howManyTemplates", "(LNightjar$Lines;I)I"⟩, prog_5_method_8_code, 6, (Option.some Jvm.ClassFile.FieldType.int), 1, 21)
def zc_84 : List (Nat × Instr × List Nat) := [(0, .iconst 0, []), (1, .istore_n 3, []), (2, .aload_n 0, []), (3, .getfield 23, [3, 2, 295]), (6, .iload_n 2, []), (7, .invokevirtual 55, [0, 0, 1, 1, 10, 11, 12, 9, 0, 100]), (10, .istore 4, []), (12, .iconst 0, []), (13, .istore 5, []), (15, .iload 5, []), (17, .aload_n 0, []), (18, .getfield 29, [3, 4, 297]), (21, .iload_n 2, []), (22, .invokevirtual 55, [0, 0, 1, 1, 10, 11, 12, 9, 0, 100]), (25, .if_icmp .ge 34, [59]), (28, .iload_n 3, []), (29, .iconst 1, []), (30, .aload_n 1, []), (31, .getfield 82, [0, 5, 322]), (34, .iload 4, []), (36, .invokevirtual 55, [0, 0, 1, 1, 10, 11, 12, 9, 0, 100]), (39, .ishl, []), (40, .ior, []), (41, .istore_n 3, []), (42, .aload_n 0, []), (43, .getfield 20, [3, 1, 294]), (46, .iload 4, []), (48, .invokevirtual 55, [0, 0, 1, 1, 10, 11, 12, 9, 0, 100]), (51, .istore 4, []), (53, .iinc 5 1, []), (56, .goto (-41), [15]), (59, .iload_n 3, []), (60, .invokestatic 85, [114, 1, 1, 0, 325, 0, 326, 324, 0, 323]), (63, .ireturn, [])]
def zm_85 : zM := (⟨"Nightjar$Sessions", "howManyBroken", "()I"⟩, prog_5_method_9_code, 3, (Option.some Jvm.ClassFile.FieldType.int), 1, 21)
def zc_85 : List (Nat × Instr × List Nat) := [(0, .iconst 0, []), (1, .istore_n 1, []), (2, .iconst 0, []), (3, .istore_n 2, []), (4, .iload_n 2, []), (5, .aload_n 0, []), (6, .getfield 41, [3, 8, 299]), (9, .if_icmp .ge 23, [32]), (12, .aload_n 0, []), (13, .getfield 32, [3, 5, 298]), (16, .iload_n 2, []), (17, .invokevirtual 55, [0, 0, 1, 1, 10, 11, 12, 9, 0, 100]), (20, .ifCond .le 6, [26]), (23, .iinc 1 1, []), (26, .iinc 2 1, []), (29, .goto (-25), [4]), (32, .iload_n 1, []), (33, .ireturn, [])]
def zm_86 : zM := (⟨"Nightjar$Sessions", "howManyLines", "()I"⟩, prog_5_method_10_code, 3, (Option.some Jvm.ClassFile.FieldType.int), 1, 21)
def zc_86 : List (Nat × Instr × List Nat) := [(0, .iconst 0, []), (1, .istore_n 1, []), (2, .iconst 0, []), (3, .istore_n 2, []), (4, .iload_n 2, []), (5, .aload_n 0, []), (6, .getfield 41, [3, 8, 299]), (9, .if_icmp .ge 20, [29]), (12, .iload_n 1, []), (13, .aload_n 0, []), (14, .getfield 29, [3, 4, 297]), (17, .iload_n 2, []), (18, .invokevirtual 55, [0, 0, 1, 1, 10, 11, 12, 9, 0, 100]), (21, .iadd, []), (22, .istore_n 1, []), (23, .iinc 2 1, []), (26, .goto (-22), [4]), (29, .iload_n 1, []), (30, .ireturn, [])]
def zm_87 : zM := (⟨"Nightjar$Sessions", "mostAlike", "()I"⟩, prog_5_method_12_code, 4, (Option.some Jvm.ClassFile.FieldType.int), 2, 42)
def zc_87 : List (Nat × Instr × List Nat) := [(0, .iconst (-1), []), (1, .istore_n 1, []), (2, .iconst 0, []), (3, .istore_n 2, []), (4, .iconst 0, []), (5, .istore_n 3, []), (6, .iload_n 3, []), (7, .aload_n 0, []), (8, .getfield 41, [3, 8, 299]), (11, .if_icmp .ge 26, [37]), (14, .aload_n 0, []), (15, .iload_n 3, []), (16, .invokevirtual 90, [28, 0, 1, 3, 329, 330, 61, 328, 0, 327]), (19, .iload_n 2, []), (20, .if_icmp .le 11, [31]), (23, .aload_n 0, []), (24, .iload_n 3, []), (25, .invokevirtual 90, [28, 0, 1, 3, 329, 330, 61, 328, 0, 327]), (28, .istore_n 2, []), (29, .iload_n 3, []), (30, .istore_n 1, []), (31, .iinc 3 1, []), (34, .goto (-28), [6]), (37, .iload_n 1, []), (38, .ireturn, [])]
def zm_88 : zM := (⟨"Nightjar$Spikes", "<init>", "()V"⟩, prog_6_method_1_code, 1, (Option.none : Option Jvm.ClassFile.FieldType), 2, 41)
def zc_88 : List (Nat × Instr × List Nat) := [(0, .aload_n 0, []), (1, .invokespecial 3, [0, 5, 331, 3, 4]), (4, .aload_n 0, []), (5, .new 9, [1, 332, 130, 12, 1]), (8, .dup, []), (9, .bipush 23, []), (11, .invokespecial 11, [3, 2, 1, 0, 133, 0, 12, 132, 0, 333]), (14, .putfield 14, [4, 0, 1, 334]), (17, .aload_n 0, []), (18, .new 9, [1, 332, 130, 12, 1]), (21, .dup, []), (22, .bipush 23, []), (24, .invokespecial 11, [3, 2, 1, 0, 133, 0, 12, 132, 0, 333]), (27, .putfield 20, [4, 1, 1, 335]), (30, .aload_n 0, []), (31, .new 9, [1, 332, 130, 12, 1]), (34, .dup, []), (35, .bipush 23, []), (37, .invokespecial 11, [3, 2, 1, 0, 133, 0, 12, 132, 0, 333]), (40, .putfield 23, [4, 2, 1, 336]), (43, .aload_n 0, []), (44, .new 9, [1, 332, 130, 12, 1]), (47, .dup, []), (48, .bipush 20, []), (50, .invokespecial 11, [3, 2, 1, 0, 133, 0, 12, 132, 0, 333]), (53, .putfield 26, [4, 3, 1, 337]), (56, .return_, [])]
def zm_89 : zM := (⟨"Nightjar$Spikes", "find", "(LNightjar$Lines;II)V"⟩, prog_6_method_2_code, 6, (Option.none : Option Jvm.ClassFile.FieldType), 3, 75)
def zc_89 : List (Nat × Instr × List Nat) := [(0, .aload_n 0, []), (1, .iconst 0, []), (2, .putfield 29, [4, 4, 0, 338]), (5, .aload_n 0, []), (6, .getfield 26, [4, 3, 337]), (9, .invokevirtual 33, [15, 0, 0, 1, 264, 265, 12, 263, 0, 339]), (12, .iconst 0, []), (13, .istore 4, []), (15, .iload 4, []), (17, .aload_n 1, []), (18, .getfield 36, [0, 8, 340]), (21, .if_icmp .ge 80, [101]), (24, .aload_n 0, []), (25, .getfield 26, [4, 3, 337]), (28, .aload_n 1, []), (29, .getfield 41, [0, 5, 341]), (32, .iload 4, []), (34, .invokevirtual 44, [0, 0, 1, 1, 10, 11, 12, 9, 0, 342]), (37, .invokevirtual 48, [7, 0, 1, 1, 269, 270, 12, 268, 0, 343]), (40, .aload_n 1, []), (41, .getfield 51, [0, 0, 344]), (44, .iload 4, []), (46, .invokevirtual 44, [0, 0, 1, 1, 10, 11, 12, 9, 0, 342]), (49, .iload_n 3, []), (50, .invokestatic 54, [13, 1, 2, 0, 117, 0, 118, 116, 1, 2]), (53, .istore 5, []), (55, .iload 4, []), (57, .iconst 1, []), (58, .iadd, []), (59, .aload_n 1, []), (60, .getfield 36, [0, 8, 340]), (63, .if_icmp .eq 23, [86]), (66, .aload_n 1, []), (67, .getfield 51, [0, 0, 344]), (70, .iload 4, []), (72, .iconst 1, []), (73, .iadd, []), (74, .invokevirtual 44, [0, 0, 1, 1, 10, 11, 12, 9, 0, 342]), (77, .iload_n 3, []), (78, .invokestatic 54, [13, 1, 2, 0, 117, 0, 118, 116, 1, 2]), (81, .iload 5, []), (83, .if_icmp .eq 12, [95]), (86, .aload_n 0, []), (87, .aload_n 1, []), (88, .iload_n 2, []), (89, .iload 5, []), (91, .iload_n 3, []), (92, .invokevirtual 58, [90, 0, 4, 4, 347, 348, 71, 346, 0, 345]), (95, .iinc 4 1, []), (98, .goto (-83), [15]), (101, .return_, [])]
def zm_90 : zM := (⟨"Nightjar$Spikes", "closeWindow", "(LNightjar$Lines;III)V"⟩, prog_6_method_3_code, 8, (Option.none : Option Jvm.ClassFile.FieldType), 2, 48)
def zc_90 : List (Nat × Instr × List Nat) := [(0, .iconst 0, []), (1, .istore 5, []), (3, .iload 5, []), (5, .iload_n 2, []), (6, .if_icmp .ge 70, [76]), (9, .aload_n 0, []), (10, .getfield 26, [4, 3, 337]), (13, .iload 5, []), (15, .invokevirtual 44, [0, 0, 1, 1, 10, 11, 12, 9, 0, 342]), (18, .istore 6, []), (20, .iload 6, []), (22, .iconst 3, []), (23, .if_icmp .lt 37, [60]), (26, .aload_n 1, []), (27, .iload 5, []), (29, .iload_n 3, []), (30, .iconst 4, []), (31, .isub, []), (32, .iload_n 3, []), (33, .iconst 1, []), (34, .isub, []), (35, .iload 4, []), (37, .invokevirtual 62, [33, 0, 4, 0, 351, 352, 53, 350, 0, 349]), (40, .istore 7, []), (42, .iconst 2, []), (43, .iload 6, []), (45, .imul, []), (46, .iload 7, []), (48, .if_icmp .le 12, [60]), (51, .aload_n 0, []), (52, .iload_n 3, []), (53, .iload 5, []), (55, .iload 6, []), (57, .invokevirtual 66, [91, 0, 3, 4, 355, 356, 71, 354, 0, 353]), (60, .aload_n 0, []), (61, .getfield 26, [4, 3, 337]), (64, .iload 5, []), (66, .iconst 0, []), (67, .invokevirtual 70, [1, 0, 2, 1, 234, 235, 12, 233, 0, 357]), (70, .iinc 5 1, []), (73, .goto (-70), [3]), (76, .return_, [])]
def zm_91 : zM := (⟨"Nightjar$Spikes", "enter", "(III)V"⟩, prog_6_method_4_code, 4, (Option.none : Option Jvm.ClassFile.FieldType), 1, 22)
def zc_91 : List (Nat × Instr × List Nat) := [(0, .aload_n 0, []), (1, .getfield 14, [4, 0, 334]), (4, .aload_n 0, []), (5, .getfield 29, [4, 4, 338]), (8, .iload_n 1, []), (9, .invokevirtual 70, [1, 0, 2, 1, 234, 235, 12, 233, 0, 357]), (12, .aload_n 0, []), (13, .getfield 20, [4, 1, 335]), (16, .aload_n 0, []), (17, .getfield 29, [4, 4, 338]), (20, .iload_n 2, []), (21, .invokevirtual 70, [1, 0, 2, 1, 234, 235, 12, 233, 0, 357]), (24, .aload_n 0, []), (25, .getfield 23, [4, 2, 336]), (28, .aload_n 0, []), (29, .getfield 29, [4, 4, 338]), (32, .iload_n 3, []), (33, .invokevirtual 70, [1, 0, 2, 1, 234, 235, 12, 233, 0, 357]), (36, .aload_n 0, []), (37, .dup, []), (38, .getfield 29, [4, 4, 338]), (41, .iconst 1, []), (42, .iadd, []), (43, .putfield 29, [4, 4, 0, 338]), (46, .return_, [])]
def zm_92 : zM := (⟨"Nightjar$Templates", "copy", "(LNightjar$Lines;I)V"⟩, prog_7_method_8_code, 5, (Option.none : Option Jvm.ClassFile.FieldType), 2, 43)
def zc_92 : List (Nat × Instr × List Nat) := [(0, .aload_n 1, []), (1, .getfield 31, [0, 3, 140]), (4, .iload_n 2, []), (5, .invokevirtual 23, [0, 0, 1, 1, 10, 11, 12, 9, 0, 33]), (8, .istore_n 3, []), (9, .aload_n 0, []), (10, .getfield 14, [5, 0, 134]), (13, .aload_n 0, []), (14, .getfield 37, [5, 2, 145]), (17, .iload_n 3, []), (18, .invokevirtual 56, [1, 0, 2, 1, 234, 235, 12, 233, 0, 358]), (21, .iconst 0, []), (22, .istore 4, []), (24, .iload 4, []), (26, .iload_n 3, []), (27, .if_icmp .ge 33, [60]), (30, .aload_n 0, []), (31, .getfield 20, [5, 1, 32]), (34, .aload_n 0, []), (35, .getfield 37, [5, 2, 145]), (38, .bipush 8, []), (40, .imul, []), (41, .iload 4, []), (43, .iadd, []), (44, .aload_n 1, []), (45, .iload_n 2, []), (46, .iload 4, []), (48, .invokevirtual 34, [8, 0, 2, 0, 143, 144, 53, 142, 0, 141]), (51, .invokevirtual 56, [1, 0, 2, 1, 234, 235, 12, 233, 0, 358]), (54, .iinc 4 1, []), (57, .goto (-33), [24]), (60, .aload_n 0, []), (61, .dup, []), (62, .getfield 37, [5, 2, 145]), (65, .iconst 1, []), (66, .iadd, []), (67, .putfield 37, [5, 2, 0, 145]), (70, .return_, [])]
def zm_93 : zM := (⟨"Nightjar$Templates", "widen", "(LNightjar$Lines;II)V"⟩, prog_7_method_9_code, 5, (Option.none : Option Jvm.ClassFile.FieldType), 2, 43)
def zc_93 : List (Nat × Instr × List Nat) := [(0, .iconst 0, []), (1, .istore 4, []), (3, .iload 4, []), (5, .aload_n 0, []), (6, .getfield 14, [5, 0, 134]), (9, .iload_n 3, []), (10, .invokevirtual 23, [0, 0, 1, 1, 10, 11, 12, 9, 0, 33]), (13, .if_icmp .ge 41, [54]), (16, .aload_n 0, []), (17, .iload_n 3, []), (18, .iload 4, []), (20, .invokevirtual 27, [16, 0, 2, 5, 137, 138, 139, 136, 0, 135]), (23, .aload_n 1, []), (24, .iload_n 2, []), (25, .iload 4, []), (27, .invokevirtual 34, [8, 0, 2, 0, 143, 144, 53, 142, 0, 141]), (30, .if_icmp .eq 18, [48]), (33, .aload_n 0, []), (34, .getfield 20, [5, 1, 32]), (37, .iload_n 3, []), (38, .bipush 8, []), (40, .imul, []), (41, .iload 4, []), (43, .iadd, []), (44, .iconst (-1), []), (45, .invokevirtual 56, [1, 0, 2, 1, 234, 235, 12, 233, 0, 358]), (48, .iinc 4 1, []), (51, .goto (-48), [3]), (54, .return_, [])]
def zm_94 : zM := (⟨"Nightjar", "many", "(I)I"⟩, prog_1_method_7_code, 2, (Option.some Jvm.ClassFile.FieldType.int), 2, 43)
def zc_94 : List (Nat × Instr × List Nat) := [(0, .iload_n 1, []), (1, .iconst 5, []), (2, .invokestatic 60, [5, 1, 2, 0, 361, 0, 118, 360, 0, 359]), (5, .ifCond .ne 13, [18]), (11, .dup, []), (18, .iload_n 1, []), (19, .tableswitch 73 0 4 #[33, 41, 49, 57, 65], [92, 52, 60, 68, 76, 84]), (52, .aload_n 0, []), (53, .getfield 12, [6, 0, 34]), (56, .getfield 71, [0, 7, 35]), (59, .ireturn, []), (60, .aload_n 0, []), (61, .getfield 12, [6, 0, 34]), (64, .getfield 101, [0, 8, 81]), (67, .ireturn, []), (68, .aload_n 0, []), (69, .getfield 19, [6, 1, 13]), (72, .getfield 126, [5, 2, 14]), (75, .ireturn, []), (76, .aload_n 0, []), (77, .getfield 29, [6, 3, 54]), (80, .getfield 129, [3, 8, 162]), (83, .ireturn, []), (84, .aload_n 0, []), (85, .getfield 29, [6, 3, 54]), (88, .invokevirtual 130, [85, 0, 0, 3, 364, 365, 61, 363, 0, 362]), (91, .ireturn, []), (92, .aload_n 0, []), (93, .getfield 36, [6, 4, 66]), (96, .getfield 134, [4, 4, 366]), (99, .ireturn, [])]
def zm_95 : zM := (⟨"Nightjar", "ofLine", "(II)I"⟩, prog_1_method_8_code, 3, (Option.some Jvm.ClassFile.FieldType.int), 1, 21)
def zc_95 : List (Nat × Instr × List Nat) := [(0, .aload_n 0, []), (1, .iload_n 1, []), (2, .invokevirtual 135, [17, 0, 1, 6, 369, 370, 118, 368, 0, 367]), (5, .ifCond .ne 13, [18]), (11, .dup, []), (18, .iload_n 2, []), (19, .bipush 8, []), (21, .invokestatic 60, [5, 1, 2, 0, 361, 0, 118, 360, 0, 359]), (24, .ifCond .ne 13, [37]), (30, .dup, []), (37, .iload_n 2, []), (38, .tableswitch 153 0 7 #[46, 58, 70, 82, 94, 106, 118, 130], [191, 84, 96, 108, 120, 132, 144, 156, 168]), (84, .aload_n 0, []), (85, .getfield 12, [6, 0, 34]), (88, .getfield 80, [0, 0, 371]), (91, .iload_n 1, []), (92, .invokevirtual 83, [0, 0, 1, 1, 10, 11, 12, 9, 0, 56]), (95, .ireturn, []), (96, .aload_n 0, []), (97, .getfield 12, [6, 0, 34]), (100, .getfield 146, [0, 1, 372]), (103, .iload_n 1, []), (104, .invokevirtual 83, [0, 0, 1, 1, 10, 11, 12, 9, 0, 56]), (107, .ireturn, []), (108, .aload_n 0, []), (109, .getfield 12, [6, 0, 34]), (112, .getfield 149, [0, 2, 373]), (115, .iload_n 1, []), (116, .invokevirtual 83, [0, 0, 1, 1, 10, 11, 12, 9, 0, 56]), (119, .ireturn, []), (120, .aload_n 0, []), (121, .getfield 12, [6, 0, 34]), (124, .getfield 98, [0, 3, 374]), (127, .iload_n 1, []), (128, .invokevirtual 83, [0, 0, 1, 1, 10, 11, 12, 9, 0, 56]), (131, .ireturn, []), (132, .aload_n 0, []), (133, .getfield 12, [6, 0, 34]), (136, .getfield 112, [0, 5, 375]), (139, .iload_n 1, []), (140, .invokevirtual 83, [0, 0, 1, 1, 10, 11, 12, 9, 0, 56]), (143, .ireturn, []), (144, .aload_n 0, []), (145, .getfield 12, [6, 0, 34]), (148, .getfield 152, [0, 6, 376]), (151, .iload_n 1, []), (152, .invokevirtual 83, [0, 0, 1, 1, 10, 11, 12, 9, 0, 56]), (155, .ireturn, []), (156, .aload_n 0, []), (157, .getfield 29, [6, 3, 54]), (160, .getfield 155, [3, 0, 377]), (163, .iload_n 1, []), (164, .invokevirtual 83, [0, 0, 1, 1, 10, 11, 12, 9, 0, 56]), (167, .ireturn, []), (168, .aload_n 0, []), (169, .getfield 12, [6, 0, 34]), (172, .getfield 80, [0, 0, 371]), (175, .iload_n 1, []), (176, .invokevirtual 83, [0, 0, 1, 1, 10, 11, 12, 9, 0, 56]), (179, .aload_n 0, []), (180, .getfield 52, [6, 6, 55]), (183, .iconst 2, []), (184, .invokevirtual 83, [0, 0, 1, 1, 10, 11, 12, 9, 0, 56]), (187, .invokestatic 158, [13, 1, 2, 0, 117, 0, 118, 116, 0, 378]), (190, .ireturn, []), (191, .aload_n 0, []), (192, .getfield 43, [6, 5, 72]), (195, .getfield 161, [2, 0, 379]), (198, .iload_n 1, []), (199, .invokevirtual 83, [0, 0, 1, 1, 10, 11, 12, 9, 0, 56]), (202, .ireturn, [])]
def zm_96 : zM := (⟨"Nightjar", "ofTemplate", "(II)I"⟩, prog_1_method_10_code, 3, (Option.some Jvm.ClassFile.FieldType.int), 3, 66)
def zc_96 : List (Nat × Instr × List Nat) := [(0, .aload_n 0, []), (1, .iload_n 1, []), (2, .invokevirtual 167, [10, 0, 1, 6, 382, 383, 118, 381, 0, 380]), (5, .ifCond .ne 13, [18]), (11, .dup, []), (18, .iload_n 2, []), (19, .iconst 4, []), (20, .invokestatic 60, [5, 1, 2, 0, 361, 0, 118, 360, 0, 359]), (23, .ifCond .ne 13, [36]), (29, .dup, []), (36, .iload_n 2, []), (37, .tableswitch 70 0 3 #[31, 43, 52, 61], [107, 68, 80, 89, 98]), (68, .aload_n 0, []), (69, .getfield 19, [6, 1, 13]), (72, .getfield 174, [5, 0, 384]), (75, .iload_n 1, []), (76, .invokevirtual 83, [0, 0, 1, 1, 10, 11, 12, 9, 0, 56]), (79, .ireturn, []), (80, .aload_n 0, []), (81, .getfield 19, [6, 1, 13]), (84, .iload_n 1, []), (85, .invokevirtual 175, [39, 0, 1, 5, 387, 388, 139, 386, 0, 385]), (88, .ireturn, []), (89, .aload_n 0, []), (90, .getfield 12, [6, 0, 34]), (93, .iload_n 1, []), (94, .invokevirtual 178, [65, 0, 1, 0, 391, 392, 53, 390, 0, 389]), (97, .ireturn, []), (98, .aload_n 0, []), (99, .getfield 12, [6, 0, 34]), (102, .iload_n 1, []), (103, .invokevirtual 181, [66, 0, 1, 0, 395, 396, 53, 394, 0, 393]), (106, .ireturn, []), (107, .aload_n 0, []), (108, .getfield 12, [6, 0, 34]), (111, .iload_n 1, []), (112, .invokevirtual 184, [67, 0, 1, 0, 399, 400, 53, 398, 0, 397]), (115, .ireturn, [])]
def zm_97 : zM := (⟨"Nightjar", "slot", "(II)I"⟩, prog_1_method_11_code, 3, (Option.some Jvm.ClassFile.FieldType.int), 2, 43)
def zc_97 : List (Nat × Instr × List Nat) := [(0, .aload_n 0, []), (1, .iload_n 1, []), (2, .invokevirtual 167, [10, 0, 1, 6, 382, 383, 118, 381, 0, 380]), (5, .ifCond .ne 13, [18]), (11, .dup, []), (18, .iload_n 2, []), (19, .ifCond .lt 18, [37]), (22, .iload_n 2, []), (23, .aload_n 0, []), (24, .getfield 19, [6, 1, 13]), (27, .getfield 174, [5, 0, 384]), (30, .iload_n 1, []), (31, .invokevirtual 83, [0, 0, 1, 1, 10, 11, 12, 9, 0, 56]), (34, .if_icmp .lt 13, [47]), (40, .dup, []), (47, .aload_n 0, []), (48, .getfield 19, [6, 1, 13]), (51, .iload_n 1, []), (52, .iload_n 2, []), (53, .invokevirtual 189, [16, 0, 2, 5, 137, 138, 139, 136, 0, 401]), (56, .ireturn, [])]
def zm_98 : zM := (⟨"Nightjar", "values", "(II)I"⟩, prog_1_method_12_code, 4, (Option.some Jvm.ClassFile.FieldType.int), 4, 90)
def zc_98 : List (Nat × Instr × List Nat) := [(0, .aload_n 0, []), (1, .iload_n 1, []), (2, .invokevirtual 167, [10, 0, 1, 6, 382, 383, 118, 381, 0, 380]), (5, .ifCond .ne 13, [18]), (11, .dup, []), (18, .aload_n 0, []), (19, .getfield 19, [6, 1, 13]), (22, .iload_n 1, []), (23, .iload_n 2, []), (24, .invokevirtual 192, [40, 0, 2, 5, 238, 239, 139, 237, 0, 402]), (27, .istore_n 3, []), (28, .iload_n 3, []), (29, .iconst (-1), []), (30, .if_icmp .ne 13, [43]), (36, .dup, []), (43, .aload_n 0, []), (44, .getfield 12, [6, 0, 34]), (47, .iload_n 1, []), (48, .iload_n 3, []), (49, .invokevirtual 197, [68, 0, 2, 0, 405, 406, 53, 404, 0, 403]), (52, .ireturn, [])]
def zm_99 : zM := (⟨"Nightjar", "ofSession", "(II)I"⟩, prog_1_method_14_code, 3, (Option.some Jvm.ClassFile.FieldType.int), 2, 46)
def zc_99 : List (Nat × Instr × List Nat) := [(0, .aload_n 0, []), (1, .iload_n 1, []), (2, .invokevirtual 203, [44, 0, 1, 6, 409, 410, 118, 408, 0, 407]), (5, .ifCond .ne 13, [18]), (11, .dup, []), (18, .iload_n 2, []), (19, .bipush 6, []), (21, .invokestatic 60, [5, 1, 2, 0, 361, 0, 118, 360, 0, 359]), (24, .ifCond .ne 13, [37]), (30, .dup, []), (37, .iload_n 2, []), (38, .tableswitch 141 0 5 #[38, 60, 82, 104, 116, 128], [179, 76, 98, 120, 142, 154, 166]), (76, .aload_n 0, []), (77, .getfield 12, [6, 0, 34]), (80, .getfield 152, [0, 6, 376]), (83, .aload_n 0, []), (84, .getfield 29, [6, 3, 54]), (87, .getfield 210, [3, 2, 411]), (90, .iload_n 1, []), (91, .invokevirtual 83, [0, 0, 1, 1, 10, 11, 12, 9, 0, 56]), (94, .invokevirtual 83, [0, 0, 1, 1, 10, 11, 12, 9, 0, 56]), (97, .ireturn, []), (98, .aload_n 0, []), (99, .getfield 12, [6, 0, 34]), (102, .getfield 80, [0, 0, 371]), (105, .aload_n 0, []), (106, .getfield 29, [6, 3, 54]), (109, .getfield 210, [3, 2, 411]), (112, .iload_n 1, []), (113, .invokevirtual 83, [0, 0, 1, 1, 10, 11, 12, 9, 0, 56]), (116, .invokevirtual 83, [0, 0, 1, 1, 10, 11, 12, 9, 0, 56]), (119, .ireturn, []), (120, .aload_n 0, []), (121, .getfield 12, [6, 0, 34]), (124, .getfield 80, [0, 0, 371]), (127, .aload_n 0, []), (128, .getfield 29, [6, 3, 54]), (131, .getfield 213, [3, 3, 412]), (134, .iload_n 1, []), (135, .invokevirtual 83, [0, 0, 1, 1, 10, 11, 12, 9, 0, 56]), (138, .invokevirtual 83, [0, 0, 1, 1, 10, 11, 12, 9, 0, 56]), (141, .ireturn, []), (142, .aload_n 0, []), (143, .getfield 29, [6, 3, 54]), (146, .getfield 216, [3, 4, 413]), (149, .iload_n 1, []), (150, .invokevirtual 83, [0, 0, 1, 1, 10, 11, 12, 9, 0, 56]), (153, .ireturn, []), (154, .aload_n 0, []), (155, .getfield 29, [6, 3, 54]), (158, .getfield 217, [3, 5, 414]), (161, .iload_n 1, []), (162, .invokevirtual 83, [0, 0, 1, 1, 10, 11, 12, 9, 0, 56]), (165, .ireturn, []), (166, .aload_n 0, []), (167, .getfield 29, [6, 3, 54]), (170, .aload_n 0, []), (171, .getfield 12, [6, 0, 34]), (174, .iload_n 1, []), (175, .invokevirtual 220, [84, 0, 2, 3, 417, 418, 61, 416, 0, 415]), (178, .ireturn, []), (179, .aload_n 0, []), (180, .getfield 29, [6, 3, 54]), (183, .iload_n 1, []), (184, .invokevirtual 224, [28, 0, 1, 3, 329, 330, 61, 328, 0, 419]), (187, .ireturn, [])]
def zm_100 : zM := (⟨"Nightjar", "usual", "()I"⟩, prog_1_method_16_code, 1, (Option.some Jvm.ClassFile.FieldType.int), 3, 65)
def zc_100 : List (Nat × Instr × List Nat) := [(0, .aload_n 0, []), (1, .getfield 29, [6, 3, 54]), (4, .invokevirtual 232, [87, 0, 0, 3, 422, 423, 61, 421, 0, 420]), (7, .ireturn, [])]
def zm_101 : zM := (⟨"Nightjar", "spike", "(II)I"⟩, prog_1_method_19_code, 3, (Option.some Jvm.ClassFile.FieldType.int), 1, 21)
def zc_101 : List (Nat × Instr × List Nat) := [(0, .iload_n 1, []), (1, .ifCond .lt 14, [15]), (4, .iload_n 1, []), (5, .aload_n 0, []), (6, .getfield 36, [6, 4, 66]), (9, .getfield 134, [4, 4, 366]), (12, .if_icmp .lt 13, [25]), (18, .dup, []), (25, .iload_n 2, []), (26, .iconst 2, []), (27, .invokestatic 60, [5, 1, 2, 0, 361, 0, 118, 360, 0, 359]), (30, .ifCond .ne 13, [43]), (36, .dup, []), (43, .iload_n 2, []), (44, .lookupswitch 52 #[(0, 28), (1, 40)], [96, 72, 84]), (72, .aload_n 0, []), (73, .getfield 36, [6, 4, 66]), (76, .getfield 248, [4, 0, 424]), (79, .iload_n 1, []), (80, .invokevirtual 83, [0, 0, 1, 1, 10, 11, 12, 9, 0, 56]), (83, .ireturn, []), (84, .aload_n 0, []), (85, .getfield 36, [6, 4, 66]), (88, .getfield 251, [4, 1, 425]), (91, .iload_n 1, []), (92, .invokevirtual 83, [0, 0, 1, 1, 10, 11, 12, 9, 0, 56]), (95, .ireturn, []), (96, .aload_n 0, []), (97, .getfield 36, [6, 4, 66]), (100, .getfield 253, [4, 2, 426]), (103, .iload_n 1, []), (104, .invokevirtual 83, [0, 0, 1, 1, 10, 11, 12, 9, 0, 56]), (107, .ireturn, [])]
def zm_102 : zM := (⟨"Nightjar", "causes", "(I)I"⟩, prog_1_method_20_code, 2, (Option.some Jvm.ClassFile.FieldType.int), 1, 21)
def zc_102 : List (Nat × Instr × List Nat) := [(0, .aload_n 0, []), (1, .iload_n 1, []), (2, .invokevirtual 167, [10, 0, 1, 6, 382, 383, 118, 381, 0, 380]), (5, .ifCond .ne 13, [18]), (11, .dup, []), (18, .aload_n 0, []), (19, .getfield 43, [6, 5, 72]), (22, .getfield 256, [2, 7, 427]), (25, .iload_n 1, []), (26, .invokevirtual 83, [0, 0, 1, 1, 10, 11, 12, 9, 0, 56]), (29, .ireturn, [])]
def zm_103 : zM := (⟨"Nightjar", "cause", "(III)I"⟩, prog_1_method_21_code, 5, (Option.some Jvm.ClassFile.FieldType.int), 3, 65)
def zc_103 : List (Nat × Instr × List Nat) := [(0, .aload_n 0, []), (1, .iload_n 1, []), (2, .invokevirtual 167, [10, 0, 1, 6, 382, 383, 118, 381, 0, 380]), (5, .ifCond .ne 13, [18]), (11, .dup, []), (18, .iload_n 2, []), (19, .ifCond .lt 18, [37]), (22, .iload_n 2, []), (23, .aload_n 0, []), (24, .getfield 43, [6, 5, 72]), (27, .getfield 256, [2, 7, 427]), (30, .iload_n 1, []), (31, .invokevirtual 83, [0, 0, 1, 1, 10, 11, 12, 9, 0, 56]), (34, .if_icmp .lt 14, [48]), (40, .dup, []), (48, .iload_n 3, []), (49, .iconst 3, []), (50, .invokestatic 60, [5, 1, 2, 0, 361, 0, 118, 360, 0, 359]), (53, .ifCond .ne 14, [67]), (59, .dup, []), (67, .aload_n 0, []), (68, .getfield 43, [6, 5, 72]), (71, .iload_n 1, []), (72, .iload_n 2, []), (73, .invokevirtual 263, [20, 0, 2, 2, 281, 282, 47, 280, 0, 428]), (76, .istore 4, []), (78, .iload_n 3, []), (79, .tableswitch 50 0 2 #[25, 28, 39], [129, 104, 107, 118]), (104, .iload 4, []), (106, .ireturn, []), (107, .aload_n 0, []), (108, .getfield 43, [6, 5, 72]), (111, .iload_n 1, []), (112, .iload 4, []), (114, .invokevirtual 266, [27, 0, 2, 2, 125, 126, 47, 124, 0, 429]), (117, .ireturn, []), (118, .aload_n 0, []), (119, .getfield 43, [6, 5, 72]), (122, .iload_n 1, []), (123, .iload 4, []), (125, .invokevirtual 269, [36, 0, 2, 2, 273, 274, 47, 272, 0, 430]), (128, .ireturn, []), (129, .aload_n 0, []), (130, .getfield 43, [6, 5, 72]), (133, .iload_n 1, []), (134, .iload 4, []), (136, .invokevirtual 272, [37, 0, 2, 2, 285, 286, 47, 284, 0, 431]), (139, .ireturn, [])]
def zm_104 : zM := (⟨"Nightjar", "because", "(I)I"⟩, prog_1_method_22_code, 2, (Option.some Jvm.ClassFile.FieldType.int), 4, 95)
def zc_104 : List (Nat × Instr × List Nat) := [(0, .aload_n 0, []), (1, .iload_n 1, []), (2, .invokevirtual 135, [17, 0, 1, 6, 369, 370, 118, 368, 0, 367]), (5, .ifCond .ne 13, [18]), (11, .dup, []), (18, .aload_n 0, []), (19, .getfield 43, [6, 5, 72]), (22, .aload_n 0, []), (23, .getfield 12, [6, 0, 34]), (26, .iload_n 1, []), (27, .aload_n 0, []), (28, .getfield 52, [6, 6, 55]), (31, .iconst 3, []), (32, .invokevirtual 83, [0, 0, 1, 1, 10, 11, 12, 9, 0, 56]), (35, .invokevirtual 275, [75, 0, 3, 2, 434, 435, 47, 433, 0, 432]), (38, .ireturn, [])]
def zm_105 : zM := (⟨"Nightjar", "mixLine", "(JI)J"⟩, prog_1_method_27_code, 7, (Option.some Jvm.ClassFile.FieldType.long), 5, 116)
def zc_105 : List (Nat × Instr × List Nat) := [(0, .lload_n 1, []), (1, .lstore 4, []), (3, .iconst 4, []), (4, .istore 6, []), (6, .iload 6, []), (8, .bipush 8, []), (10, .if_icmp .gt 23, [33]), (13, .lload 4, []), (15, .aload_n 0, []), (16, .iload_n 3, []), (17, .iload 6, []), (19, .invokevirtual 314, [95, 0, 2, 6, 438, 439, 118, 437, 0, 436]), (22, .invokestatic 295, [6, 1, 2, 0, 442, 0, 118, 441, 0, 440]), (25, .lstore 4, []), (27, .iinc 6 1, []), (30, .goto (-24), [6]), (33, .lload 4, []), (35, .aload_n 0, []), (36, .iload_n 3, []), (37, .invokevirtual 317, [104, 0, 1, 6, 445, 446, 118, 444, 0, 443]), (40, .invokestatic 295, [6, 1, 2, 0, 442, 0, 118, 441, 0, 440]), (43, .lreturn, [])]
def zm_106 : zM := (⟨"Nightjar", "mixTemplate", "(JI)J"⟩, prog_1_method_28_code, 11, (Option.some Jvm.ClassFile.FieldType.long), 5, 113)
def zc_106 : List (Nat × Instr × List Nat) := [(0, .lload_n 1, []), (1, .iload_n 3, []), (2, .invokestatic 295, [6, 1, 2, 0, 442, 0, 118, 441, 0, 440]), (5, .lstore 4, []), (7, .iconst 0, []), (8, .istore 6, []), (10, .iload 6, []), (12, .iconst 4, []), (13, .if_icmp .gt 23, [36]), (16, .lload 4, []), (18, .aload_n 0, []), (19, .iload_n 3, []), (20, .iload 6, []), (22, .invokevirtual 320, [96, 0, 2, 6, 449, 450, 118, 448, 0, 447]), (25, .invokestatic 295, [6, 1, 2, 0, 442, 0, 118, 441, 0, 440]), (28, .lstore 4, []), (30, .iinc 6 1, []), (33, .goto (-23), [10]), (36, .aload_n 0, []), (37, .getfield 19, [6, 1, 13]), (40, .getfield 174, [5, 0, 384]), (43, .iload_n 3, []), (44, .invokevirtual 83, [0, 0, 1, 1, 10, 11, 12, 9, 0, 56]), (47, .istore 6, []), (49, .iconst 0, []), (50, .istore 7, []), (52, .iload 7, []), (54, .iload 6, []), (56, .if_icmp .ge 23, [79]), (59, .lload 4, []), (61, .aload_n 0, []), (62, .iload_n 3, []), (63, .iload 7, []), (65, .invokevirtual 323, [97, 0, 2, 6, 453, 454, 118, 452, 0, 451]), (68, .invokestatic 295, [6, 1, 2, 0, 442, 0, 118, 441, 0, 440]), (71, .lstore 4, []), (73, .iinc 7 1, []), (76, .goto (-24), [52]), (79, .aload_n 0, []), (80, .getfield 19, [6, 1, 13]), (83, .iload_n 3, []), (84, .invokevirtual 175, [39, 0, 1, 5, 387, 388, 139, 386, 0, 385]), (87, .istore 7, []), (89, .iconst 0, []), (90, .istore 8, []), (92, .iload 8, []), (94, .iload 7, []), (96, .if_icmp .ge 23, [119]), (99, .lload 4, []), (101, .aload_n 0, []), (102, .iload_n 3, []), (103, .iload 8, []), (105, .invokevirtual 326, [98, 0, 2, 6, 457, 458, 118, 456, 0, 455]), (108, .invokestatic 295, [6, 1, 2, 0, 442, 0, 118, 441, 0, 440]), (111, .lstore 4, []), (113, .iinc 8 1, []), (116, .goto (-24), [92]), (119, .aload_n 0, []), (120, .iload_n 3, []), (121, .invokevirtual 329, [102, 0, 1, 6, 461, 462, 118, 460, 0, 459]), (124, .istore 8, []), (126, .lload 4, []), (128, .iload 8, []), (130, .invokestatic 295, [6, 1, 2, 0, 442, 0, 118, 441, 0, 440]), (133, .lstore 4, []), (135, .iconst 0, []), (136, .istore 9, []), (138, .iload 9, []), (140, .iload 8, []), (142, .if_icmp .ge 40, [182]), (145, .iconst 0, []), (146, .istore 10, []), (148, .iload 10, []), (150, .iconst 3, []), (151, .if_icmp .gt 25, [176]), (154, .lload 4, []), (156, .aload_n 0, []), (157, .iload_n 3, []), (158, .iload 9, []), (160, .iload 10, []), (162, .invokevirtual 332, [103, 0, 3, 6, 465, 466, 118, 464, 0, 463]), (165, .invokestatic 295, [6, 1, 2, 0, 442, 0, 118, 441, 0, 440]), (168, .lstore 4, []), (170, .iinc 10 1, []), (173, .goto (-25), [148]), (176, .iinc 9 1, []), (179, .goto (-41), [138]), (182, .lload 4, []), (184, .lreturn, [])]
def zm_107 : zM := (⟨"NightjarModel", "nearest", "(II)I"⟩, prog_9_method_10_code, 5, (Option.some Jvm.ClassFile.FieldType.int), 1, 24)
def zc_107 : List (Nat × Instr × List Nat) := [(0, .iconst (-1), []), (1, .istore_n 3, []), (2, .iconst 0, []), (3, .istore 4, []), (5, .iload 4, []), (7, .aload_n 0, []), (8, .getfield 66, [7, 10, 15]), (11, .if_icmp .ge 49, [60]), (14, .aload_n 0, []), (15, .getfield 31, [7, 11, 24]), (18, .iload 4, []), (20, .iaload, []), (21, .aload_n 0, []), (22, .getfield 19, [7, 5, 86]), (25, .iload_n 1, []), (26, .iaload, []), (27, .if_icmp .ne 27, [54]), (30, .iload_n 3, []), (31, .iconst (-1), []), (32, .if_icmp .eq 19, [51]), (35, .aload_n 0, []), (36, .iload_n 1, []), (37, .iload 4, []), (39, .invokevirtual 76, [22, 0, 2, 7, 469, 470, 19, 468, 0, 467]), (42, .aload_n 0, []), (43, .iload_n 1, []), (44, .iload_n 3, []), (45, .invokevirtual 76, [22, 0, 2, 7, 469, 470, 19, 468, 0, 467]), (48, .if_icmp .le 6, [54]), (51, .iload 4, []), (53, .istore_n 3, []), (54, .iinc 4 1, []), (57, .goto (-52), [5]), (60, .iload_n 3, []), (61, .iconst (-1), []), (62, .if_icmp .eq 30, [92]), (65, .aload_n 0, []), (66, .iload_n 1, []), (67, .iload_n 3, []), (68, .invokevirtual 76, [22, 0, 2, 7, 469, 470, 19, 468, 0, 467]), (71, .aload_n 0, []), (72, .getfield 19, [7, 5, 86]), (75, .iload_n 1, []), (76, .iaload, []), (77, .iload_n 2, []), (78, .imul, []), (79, .bipush 99, []), (81, .iadd, []), (82, .bipush 100, []), (84, .idiv, []), (85, .if_icmp .lt 7, [92]), (88, .iload_n 3, []), (89, .goto 4, [93]), (92, .iconst (-1), []), (93, .ireturn, [])]
def zm_108 : zM := (⟨"NightjarModel", "add", "(I)I"⟩, prog_9_method_12_code, 2, (Option.some Jvm.ClassFile.FieldType.int), 1, 68)
def zc_108 : List (Nat × Instr × List Nat) := [(0, .aload_n 0, []), (1, .getfield 31, [7, 11, 24]), (4, .aload_n 0, []), (5, .getfield 66, [7, 10, 15]), (8, .aload_n 0, []), (9, .getfield 19, [7, 5, 86]), (12, .iload_n 1, []), (13, .iaload, []), (14, .iastore, []), (15, .aload_n 0, []), (16, .getfield 22, [7, 6, 26]), (19, .iload_n 1, []), (20, .bipush 8, []), (22, .imul, []), (23, .aload_n 0, []), (24, .getfield 34, [7, 12, 25]), (27, .aload_n 0, []), (28, .getfield 66, [7, 10, 15]), (31, .bipush 8, []), (33, .imul, []), (34, .aload_n 0, []), (35, .getfield 19, [7, 5, 86]), (38, .iload_n 1, []), (39, .iaload, []), (40, .invokestatic 86, [0, 3, 222, 223, 224, 225]), (43, .aload_n 0, []), (44, .dup, []), (45, .getfield 66, [7, 10, 15]), (48, .dup_x1, []), (49, .iconst 1, []), (50, .iadd, []), (51, .putfield 66, [7, 10, 0, 15]), (54, .ireturn, [])]
def zm_109 : zM := (⟨"NightjarModel", "isBroken", "(I)Z"⟩, prog_9_method_21_code, 3, (Option.some Jvm.ClassFile.FieldType.boolean), 0, 0)
def zc_109 : List (Nat × Instr × List Nat) := [(0, .iconst 0, []), (1, .istore_n 2, []), (2, .iload_n 2, []), (3, .aload_n 0, []), (4, .getfield 59, [7, 1, 36]), (7, .if_icmp .ge 31, [38]), (10, .aload_n 0, []), (11, .getfield 37, [7, 14, 96]), (14, .iload_n 2, []), (15, .iaload, []), (16, .iload_n 1, []), (17, .if_icmp .ne 15, [32]), (20, .aload_n 0, []), (21, .getfield 16, [7, 4, 195]), (24, .iload_n 2, []), (25, .iaload, []), (26, .iconst 3, []), (27, .if_icmp .ne 5, [32]), (30, .iconst 1, []), (31, .ireturn, []), (32, .iinc 2 1, []), (35, .goto (-33), [2]), (38, .iconst 0, []), (39, .ireturn, [])]
def zm_110 : zM := (⟨"NightjarModel", "sceneNow", "(I)I"⟩, prog_9_method_29_code, 4, (Option.some Jvm.ClassFile.FieldType.int), 3, 66)
def zc_110 : List (Nat × Instr × List Nat) := [(0, .iconst 0, []), (1, .istore_n 2, []), (2, .iconst 0, []), (3, .istore_n 3, []), (4, .iload_n 3, []), (5, .iload_n 1, []), (6, .if_icmp .ge 26, [32]), (9, .iload_n 2, []), (10, .aload_n 0, []), (11, .iload_n 3, []), (12, .iload_n 1, []), (13, .invokevirtual 132, [49, 0, 2, 7, 112, 113, 19, 111, 0, 110]), (16, .ifCond .eq 7, [23]), (19, .iconst 1, []), (20, .goto 4, [24]), (23, .iconst 0, []), (24, .iadd, []), (25, .istore_n 2, []), (26, .iinc 3 1, []), (29, .goto (-25), [4]), (32, .iload_n 2, []), (33, .ireturn, [])]
def zm_111 : zM := (⟨"NightjarModel", "put", "(IIII)V"⟩, prog_9_method_32_code, 7, (Option.none : Option Jvm.ClassFile.FieldType), 1, 68)
def zc_111 : List (Nat × Instr × List Nat) := [(0, .aload_n 0, []), (1, .dup, []), (2, .getfield 136, [7, 20, 87]), (5, .dup_x1, []), (6, .iconst 1, []), (7, .iadd, []), (8, .putfield 136, [7, 20, 0, 87]), (11, .istore 5, []), (13, .iload 5, []), (15, .ifCond .le 47, [62]), (18, .aload_n 0, []), (19, .getfield 52, [7, 21, 194]), (22, .iconst 4, []), (23, .iload 5, []), (25, .imul, []), (26, .iconst 1, []), (27, .isub, []), (28, .iaload, []), (29, .iload 4, []), (31, .if_icmp .ge 31, [62]), (34, .aload_n 0, []), (35, .getfield 52, [7, 21, 194]), (38, .iconst 4, []), (39, .iload 5, []), (41, .imul, []), (42, .iconst 4, []), (43, .isub, []), (44, .aload_n 0, []), (45, .getfield 52, [7, 21, 194]), (48, .iconst 4, []), (49, .iload 5, []), (51, .imul, []), (52, .iconst 4, []), (53, .invokestatic 86, [0, 3, 222, 223, 224, 225]), (56, .iinc 5 (-1), []), (59, .goto (-46), [13]), (62, .iconst 4, []), (63, .newarray .int, [0, 5]), (65, .dup, []), (66, .iconst 0, []), (67, .iload_n 1, []), (68, .iastore, []), (69, .dup, []), (70, .iconst 1, []), (71, .iload_n 2, []), (72, .iastore, []), (73, .dup, []), (74, .iconst 2, []), (75, .iload_n 3, []), (76, .iastore, []), (77, .dup, []), (78, .iconst 3, []), (79, .iload 4, []), (81, .iastore, []), (82, .astore 6, []), (84, .aload 6, []), (86, .iconst 0, []), (87, .aload_n 0, []), (88, .getfield 52, [7, 21, 194]), (91, .iconst 4, []), (92, .iload 5, []), (94, .imul, []), (95, .iconst 4, []), (96, .invokestatic 86, [0, 3, 222, 223, 224, 225]), (99, .return_, [])]
def zm_112 : zM := (⟨"NightjarModel", "placeOf", "(II)I"⟩, prog_9_method_40_code, 5, (Option.some Jvm.ClassFile.FieldType.int), 0, 0)
def zc_112 : List (Nat × Instr × List Nat) := [(0, .iload_n 2, []), (1, .istore_n 3, []), (2, .iconst 0, []), (3, .istore 4, []), (5, .aload_n 0, []), (6, .getfield 34, [7, 12, 25]), (9, .iload_n 1, []), (10, .bipush 8, []), (12, .imul, []), (13, .iload 4, []), (15, .iadd, []), (16, .iaload, []), (17, .iconst (-1), []), (18, .if_icmp .ne 10, [28]), (21, .iload_n 3, []), (22, .iinc 3 (-1), []), (25, .ifCond .le 9, [34]), (28, .iinc 4 1, []), (31, .goto (-26), [5]), (34, .iload 4, []), (36, .ireturn, [])]
def zm_113 : zM := (⟨"NightjarModel", "haveOnePath", "(II)Z"⟩, prog_9_method_44_code, 5, (Option.some Jvm.ClassFile.FieldType.boolean), 1, 23)
def zc_113 : List (Nat × Instr × List Nat) := [(0, .iconst (-1), []), (1, .istore_n 3, []), (2, .iconst (-1), []), (3, .istore 4, []), (5, .aload_n 0, []), (6, .iload_n 1, []), (7, .iload_n 3, []), (8, .invokevirtual 179, [25, 0, 2, 7, 473, 474, 19, 472, 0, 471]), (11, .istore_n 3, []), (12, .aload_n 0, []), (13, .iload_n 2, []), (14, .iload 4, []), (16, .invokevirtual 179, [25, 0, 2, 7, 473, 474, 19, 472, 0, 471]), (19, .istore 4, []), (21, .iload_n 3, []), (22, .iconst (-1), []), (23, .if_icmp .ne 7, [30]), (26, .iconst 1, []), (27, .goto 4, [31]), (30, .iconst 0, []), (31, .iload 4, []), (33, .iconst (-1), []), (34, .if_icmp .ne 7, [41]), (37, .iconst 1, []), (38, .goto 4, [42]), (41, .iconst 0, []), (42, .if_icmp .ne 24, [66]), (45, .iload_n 3, []), (46, .iconst (-1), []), (47, .if_icmp .eq 21, [68]), (50, .aload_n 0, []), (51, .getfield 28, [7, 9, 38]), (54, .iload_n 3, []), (55, .iaload, []), (56, .aload_n 0, []), (57, .getfield 28, [7, 9, 38]), (60, .iload 4, []), (62, .iaload, []), (63, .if_icmp .eq 5, [68]), (66, .iconst 0, []), (67, .ireturn, []), (68, .iload_n 3, []), (69, .iconst (-1), []), (70, .if_icmp .ne (-65), [5]), (73, .iconst 1, []), (74, .ireturn, [])]
def zm_114 : zM := (⟨"java/lang/Integer", "bitCount", "(I)I"⟩, prog_14_method_49_code, 1, (Option.some Jvm.ClassFile.FieldType.int), 0, 0)
def zc_114 : List (Nat × Instr × List Nat) := [(0, .iload_n 0, []), (1, .iload_n 0, []), (2, .iconst 1, []), (3, .iushr, []), (4, .ldc_w 265, [1431655765, 475]), (7, .iand, []), (8, .isub, []), (9, .istore_n 0, []), (10, .iload_n 0, []), (11, .ldc_w 266, [858993459, 476]), (14, .iand, []), (15, .iload_n 0, []), (16, .iconst 2, []), (17, .iushr, []), (18, .ldc_w 266, [858993459, 476]), (21, .iand, []), (22, .iadd, []), (23, .istore_n 0, []), (24, .iload_n 0, []), (25, .iload_n 0, []), (26, .iconst 4, []), (27, .iushr, []), (28, .iadd, []), (29, .ldc_w 267, [252645135, 477]), (32, .iand, []), (33, .istore_n 0, []), (34, .iload_n 0, []), (35, .iload_n 0, []), (36, .bipush 8, []), (38, .iushr, []), (39, .iadd, []), (40, .istore_n 0, []), (41, .iload_n 0, []), (42, .iload_n 0, []), (43, .bipush 16, []), (45, .iushr, []), (46, .iadd, []), (47, .istore_n 0, []), (48, .iload_n 0, []), (49, .bipush 63, []), (51, .iand, []), (52, .ireturn, [])]
def zm_115 : zM := (⟨"Nightjar", "<init>", "()V"⟩, prog_1_method_1_code, 1, (Option.none : Option Jvm.ClassFile.FieldType), 3, 61)
def zc_115 : List (Nat × Instr × List Nat) := [(0, .aload_n 0, []), (1, .invokespecial 3, [0, 5, 478, 3, 4]), (4, .aload_n 0, []), (5, .new 9, [0, 479, 480, 53, 1, 1, 1, 1, 1, 1, 1, 0, 0]), (8, .dup, []), (9, .invokespecial 11, [60, 2, 0, 0, 482, 0, 53, 481, 1, 3]), (12, .putfield 12, [6, 0, 1, 34]), (15, .aload_n 0, []), (16, .new 16, [5, 483, 484, 139, 1, 1, 0]), (19, .dup, []), (20, .invokespecial 18, [38, 2, 0, 0, 486, 0, 139, 485, 1, 4]), (23, .putfield 19, [6, 1, 1, 13]), (26, .aload_n 0, []), (27, .new 16, [5, 483, 484, 139, 1, 1, 0]), (30, .dup, []), (31, .invokespecial 18, [38, 2, 0, 0, 486, 0, 139, 485, 1, 4]), (34, .putfield 23, [6, 2, 1, 487]), (37, .aload_n 0, []), (38, .new 26, [3, 488, 489, 61, 1, 1, 1, 1, 1, 1, 1, 1, 0]), (41, .dup, []), (42, .invokespecial 28, [77, 2, 0, 0, 491, 0, 61, 490, 1, 5]), (45, .putfield 29, [6, 3, 1, 54]), (48, .aload_n 0, []), (49, .new 33, [4, 492, 493, 71, 1, 1, 1, 1, 0]), (52, .dup, []), (53, .invokespecial 35, [88, 2, 0, 0, 495, 0, 71, 494, 1, 6]), (56, .putfield 36, [6, 4, 1, 66]), (59, .aload_n 0, []), (60, .new 40, [2, 496, 497, 47, 1, 1, 1, 1, 1, 1, 1, 1]), (63, .dup, []), (64, .invokespecial 42, [70, 2, 0, 0, 499, 0, 47, 498, 1, 7]), (67, .putfield 43, [6, 5, 1, 72]), (70, .aload_n 0, []), (71, .new 47, [1, 500, 130, 12, 1]), (74, .dup, []), (75, .iconst 4, []), (76, .invokespecial 49, [3, 2, 1, 0, 133, 0, 12, 132, 0, 501]), (79, .putfield 52, [6, 6, 1, 55]), (82, .aload_n 0, []), (83, .getfield 52, [6, 6, 55]), (86, .iconst 0, []), (87, .bipush 50, []), (89, .invokevirtual 56, [1, 0, 2, 1, 234, 235, 12, 233, 0, 502]), (92, .aload_n 0, []), (93, .getfield 52, [6, 6, 55]), (96, .iconst 1, []), (97, .bipush 30, []), (99, .invokevirtual 56, [1, 0, 2, 1, 234, 235, 12, 233, 0, 502]), (102, .aload_n 0, []), (103, .getfield 52, [6, 6, 55]), (106, .iconst 2, []), (107, .bipush 10, []), (109, .invokevirtual 56, [1, 0, 2, 1, 234, 235, 12, 233, 0, 502]), (112, .aload_n 0, []), (113, .getfield 52, [6, 6, 55]), (116, .iconst 3, []), (117, .bipush 20, []), (119, .invokevirtual 56, [1, 0, 2, 1, 234, 235, 12, 233, 0, 502]), (122, .return_, [])]
def zm_116 : zM := (⟨"Nightjar", "line", "(III)I"⟩, prog_1_method_2_code, 5, (Option.some Jvm.ClassFile.FieldType.int), 5, 120)
def zc_116 : List (Nat × Instr × List Nat) := [(0, .iload_n 1, []), (1, .sipush 9999, []), (4, .invokestatic 60, [5, 1, 2, 0, 361, 0, 118, 360, 0, 359]), (7, .ifCond .eq 20, [27]), (10, .iload_n 2, []), (11, .bipush 7, []), (13, .invokestatic 60, [5, 1, 2, 0, 361, 0, 118, 360, 0, 359]), (16, .ifCond .eq 11, [27]), (19, .iload_n 3, []), (20, .iconst 3, []), (21, .invokestatic 60, [5, 1, 2, 0, 361, 0, 118, 360, 0, 359]), (24, .ifCond .ne 13, [37]), (30, .dup, []), (37, .aload_n 0, []), (38, .getfield 12, [6, 0, 34]), (41, .getfield 71, [0, 7, 35]), (44, .bipush 70, []), (46, .if_icmp .lt 13, [59]), (52, .dup, []), (59, .aload_n 0, []), (60, .getfield 12, [6, 0, 34]), (63, .getfield 71, [0, 7, 35]), (66, .ifCond .le 36, [102]), (69, .iload_n 1, []), (70, .aload_n 0, []), (71, .getfield 12, [6, 0, 34]), (74, .getfield 80, [0, 0, 371]), (77, .aload_n 0, []), (78, .getfield 12, [6, 0, 34]), (81, .getfield 71, [0, 7, 35]), (84, .iconst 1, []), (85, .isub, []), (86, .invokevirtual 83, [0, 0, 1, 1, 10, 11, 12, 9, 0, 56]), (89, .if_icmp .ge 13, [102]), (95, .dup, []), (102, .aload_n 0, []), (103, .getfield 12, [6, 0, 34]), (106, .iload_n 1, []), (107, .iload_n 2, []), (108, .iload_n 3, []), (109, .invokevirtual 89, [61, 0, 3, 0, 505, 506, 53, 504, 0, 503]), (112, .istore 4, []), (114, .aload_n 0, []), (115, .invokevirtual 93, [21, 0, 0, 6, 509, 510, 118, 508, 0, 507]), (118, .iload 4, []), (120, .ireturn, [])]
def zm_117 : zM := (⟨"Nightjar", "word", "(I)I"⟩, prog_1_method_3_code, 3, (Option.some Jvm.ClassFile.FieldType.int), 2, 45)
def zc_117 : List (Nat × Instr × List Nat) := [(0, .iload_n 1, []), (1, .sipush 999, []), (4, .invokestatic 60, [5, 1, 2, 0, 361, 0, 118, 360, 0, 359]), (7, .ifCond .ne 13, [20]), (13, .dup, []), (20, .aload_n 0, []), (21, .getfield 12, [6, 0, 34]), (24, .getfield 71, [0, 7, 35]), (27, .iconst 1, []), (28, .isub, []), (29, .istore_n 2, []), (30, .iload_n 2, []), (31, .ifCond .lt 30, [61]), (34, .aload_n 0, []), (35, .getfield 12, [6, 0, 34]), (38, .getfield 98, [0, 3, 374]), (41, .iload_n 2, []), (42, .invokevirtual 83, [0, 0, 1, 1, 10, 11, 12, 9, 0, 56]), (45, .bipush 8, []), (47, .if_icmp .ge 14, [61]), (50, .aload_n 0, []), (51, .getfield 12, [6, 0, 34]), (54, .getfield 101, [0, 8, 81]), (57, .iload_n 2, []), (58, .if_icmp .le 13, [71]), (64, .dup, []), (71, .aload_n 0, []), (72, .getfield 12, [6, 0, 34]), (75, .iload_n 2, []), (76, .iload_n 1, []), (77, .invokevirtual 106, [62, 0, 2, 0, 513, 514, 53, 512, 0, 511]), (80, .ireturn, [])]
def zm_118 : zM := (⟨"Nightjar", "learn", "(I)I"⟩, prog_1_method_4_code, 6, (Option.some Jvm.ClassFile.FieldType.int), 5, 120)
def zc_118 : List (Nat × Instr × List Nat) := [(0, .iload_n 1, []), (1, .iconst 1, []), (2, .if_icmp .lt 9, [11]), (5, .iload_n 1, []), (6, .bipush 70, []), (8, .if_icmp .le 13, [21]), (14, .dup, []), (21, .aload_n 0, []), (22, .getfield 12, [6, 0, 34]), (25, .getfield 71, [0, 7, 35]), (28, .aload_n 0, []), (29, .getfield 12, [6, 0, 34]), (32, .getfield 101, [0, 8, 81]), (35, .isub, []), (36, .istore_n 2, []), (37, .iload_n 1, []), (38, .iload_n 2, []), (39, .if_icmp .ge 7, [46]), (42, .iload_n 1, []), (43, .goto 4, [47]), (46, .iload_n 2, []), (47, .istore_n 3, []), (48, .iconst 0, []), (49, .istore 4, []), (51, .iload 4, []), (53, .iload_n 3, []), (54, .if_icmp .ge 62, [116]), (57, .aload_n 0, []), (58, .getfield 12, [6, 0, 34]), (61, .getfield 101, [0, 8, 81]), (64, .istore 5, []), (66, .aload_n 0, []), (67, .getfield 12, [6, 0, 34]), (70, .getfield 112, [0, 5, 375]), (73, .iload 5, []), (75, .aload_n 0, []), (76, .getfield 19, [6, 1, 13]), (79, .aload_n 0, []), (80, .getfield 12, [6, 0, 34]), (83, .iload 5, []), (85, .aload_n 0, []), (86, .getfield 52, [6, 6, 55]), (89, .iconst 0, []), (90, .invokevirtual 83, [0, 0, 1, 1, 10, 11, 12, 9, 0, 56]), (93, .invokevirtual 115, [43, 0, 3, 5, 517, 518, 139, 516, 0, 515]), (96, .invokevirtual 56, [1, 0, 2, 1, 234, 235, 12, 233, 0, 502]), (99, .aload_n 0, []), (100, .getfield 12, [6, 0, 34]), (103, .iload 5, []), (105, .iconst 1, []), (106, .iadd, []), (107, .putfield 101, [0, 8, 0, 81]), (110, .iinc 4 1, []), (113, .goto (-62), [51]), (116, .aload_n 0, []), (117, .invokevirtual 93, [21, 0, 0, 6, 509, 510, 118, 508, 0, 507]), (120, .iload_n 3, []), (121, .ireturn, [])]
def zm_119 : zM := (⟨"Nightjar", "set", "(II)I"⟩, prog_1_method_5_code, 6, (Option.some Jvm.ClassFile.FieldType.int), 5, 120)
def zc_119 : List (Nat × Instr × List Nat) := [(0, .iload_n 1, []), (1, .iconst 3, []), (2, .invokestatic 60, [5, 1, 2, 0, 361, 0, 118, 360, 0, 359]), (5, .ifCond .ne 13, [18]), (11, .dup, []), (18, .iload_n 1, []), (19, .iconst 2, []), (20, .if_icmp .ne 7, [27]), (23, .iconst 1, []), (24, .goto 4, [28]), (27, .iconst 0, []), (28, .istore_n 3, []), (29, .iload_n 1, []), (30, .ifCond .ne 8, [38]), (33, .bipush 100, []), (35, .goto 6, [41]), (38, .sipush 1000, []), (41, .istore 4, []), (43, .iload_n 2, []), (44, .iload_n 3, []), (45, .if_icmp .lt 9, [54]), (48, .iload_n 2, []), (49, .iload 4, []), (51, .if_icmp .le 13, [64]), (57, .dup, []), (64, .aload_n 0, []), (65, .getfield 52, [6, 6, 55]), (68, .iload_n 1, []), (69, .invokevirtual 83, [0, 0, 1, 1, 10, 11, 12, 9, 0, 56]), (72, .istore 5, []), (74, .aload_n 0, []), (75, .getfield 52, [6, 6, 55]), (78, .iload_n 1, []), (79, .iload_n 2, []), (80, .invokevirtual 56, [1, 0, 2, 1, 234, 235, 12, 233, 0, 502]), (83, .aload_n 0, []), (84, .invokevirtual 93, [21, 0, 0, 6, 509, 510, 118, 508, 0, 507]), (87, .iload 5, []), (89, .ireturn, [])]
def zm_120 : zM := (⟨"Nightjar", "forget", "()I"⟩, prog_1_method_6_code, 2, (Option.some Jvm.ClassFile.FieldType.int), 5, 120)
def zc_120 : List (Nat × Instr × List Nat) := [(0, .aload_n 0, []), (1, .getfield 12, [6, 0, 34]), (4, .getfield 101, [0, 8, 81]), (7, .istore_n 1, []), (8, .aload_n 0, []), (9, .getfield 12, [6, 0, 34]), (12, .invokevirtual 123, [63, 0, 0, 0, 521, 522, 53, 520, 0, 519]), (15, .aload_n 0, []), (16, .getfield 19, [6, 1, 13]), (19, .iconst 0, []), (20, .putfield 126, [5, 2, 0, 14]), (23, .aload_n 0, []), (24, .invokevirtual 93, [21, 0, 0, 6, 509, 510, 118, 508, 0, 507]), (27, .iload_n 1, []), (28, .ireturn, [])]
def zm_121 : zM := (⟨"Nightjar", "wordAt", "(II)I"⟩, prog_1_method_9_code, 3, (Option.some Jvm.ClassFile.FieldType.int), 2, 43)
def zc_121 : List (Nat × Instr × List Nat) := [(0, .aload_n 0, []), (1, .iload_n 1, []), (2, .invokevirtual 135, [17, 0, 1, 6, 369, 370, 118, 368, 0, 367]), (5, .ifCond .ne 13, [18]), (11, .dup, []), (18, .iload_n 2, []), (19, .ifCond .lt 18, [37]), (22, .iload_n 2, []), (23, .aload_n 0, []), (24, .getfield 12, [6, 0, 34]), (27, .getfield 98, [0, 3, 374]), (30, .iload_n 1, []), (31, .invokevirtual 83, [0, 0, 1, 1, 10, 11, 12, 9, 0, 56]), (34, .if_icmp .lt 13, [47]), (40, .dup, []), (47, .aload_n 0, []), (48, .getfield 12, [6, 0, 34]), (51, .iload_n 1, []), (52, .iload_n 2, []), (53, .invokevirtual 164, [8, 0, 2, 0, 143, 144, 53, 142, 0, 523]), (56, .ireturn, [])]
def zm_122 : zM := (⟨"Nightjar", "alike", "(II)I"⟩, prog_1_method_13_code, 3, (Option.some Jvm.ClassFile.FieldType.int), 3, 69)
def zc_122 : List (Nat × Instr × List Nat) := [(0, .aload_n 0, []), (1, .iload_n 1, []), (2, .invokevirtual 135, [17, 0, 1, 6, 369, 370, 118, 368, 0, 367]), (5, .ifCond .ne 13, [18]), (11, .dup, []), (18, .aload_n 0, []), (19, .iload_n 2, []), (20, .invokevirtual 167, [10, 0, 1, 6, 382, 383, 118, 381, 0, 380]), (23, .ifCond .ne 13, [36]), (29, .dup, []), (36, .aload_n 0, []), (37, .getfield 19, [6, 1, 13]), (40, .aload_n 0, []), (41, .getfield 12, [6, 0, 34]), (44, .iload_n 1, []), (45, .iload_n 2, []), (46, .invokevirtual 200, [41, 0, 3, 5, 148, 149, 139, 147, 0, 524]), (49, .ireturn, [])]
def zm_123 : zM := (⟨"Nightjar", "inSession", "(II)I"⟩, prog_1_method_15_code, 3, (Option.some Jvm.ClassFile.FieldType.int), 2, 45)
def zc_123 : List (Nat × Instr × List Nat) := [(0, .aload_n 0, []), (1, .iload_n 1, []), (2, .invokevirtual 203, [44, 0, 1, 6, 409, 410, 118, 408, 0, 407]), (5, .ifCond .ne 13, [18]), (11, .dup, []), (18, .iload_n 2, []), (19, .ifCond .lt 18, [37]), (22, .iload_n 2, []), (23, .aload_n 0, []), (24, .getfield 29, [6, 3, 54]), (27, .getfield 216, [3, 4, 413]), (30, .iload_n 1, []), (31, .invokevirtual 83, [0, 0, 1, 1, 10, 11, 12, 9, 0, 56]), (34, .if_icmp .lt 13, [47]), (40, .dup, []), (47, .aload_n 0, []), (48, .getfield 29, [6, 3, 54]), (51, .iload_n 1, []), (52, .iload_n 2, []), (53, .invokevirtual 229, [83, 0, 2, 3, 527, 528, 61, 526, 0, 525]), (56, .ireturn, [])]
def zm_124 : zM := (⟨"Nightjar", "meanSession", "()D"⟩, prog_1_method_17_code, 1, (Option.some Jvm.ClassFile.FieldType.double), 2, 43)
def zc_124 : List (Nat × Instr × List Nat) := [(0, .aload_n 0, []), (1, .getfield 29, [6, 3, 54]), (4, .getfield 129, [3, 8, 162]), (7, .ifCond .gt 5, [12]), (10, .dconst 0, []), (11, .dreturn, []), (12, .aload_n 0, []), (13, .getfield 29, [6, 3, 54]), (16, .invokevirtual 235, [86, 0, 0, 3, 531, 532, 61, 530, 0, 529]), (19, .i2d, []), (20, .aload_n 0, []), (21, .getfield 29, [6, 3, 54]), (24, .getfield 129, [3, 8, 162]), (27, .i2d, []), (28, .ddiv, []), (29, .dreturn, [])]
def zm_125 : zM := (⟨"Nightjar", "count", "(II)I"⟩, prog_1_method_18_code, 3, (Option.some Jvm.ClassFile.FieldType.int), 2, 48)
def zc_125 : List (Nat × Instr × List Nat) := [(0, .aload_n 0, []), (1, .iload_n 1, []), (2, .invokevirtual 167, [10, 0, 1, 6, 382, 383, 118, 381, 0, 380]), (5, .ifCond .ne 13, [18]), (11, .dup, []), (18, .iload_n 2, []), (19, .ifCond .ge 13, [32]), (25, .dup, []), (32, .aload_n 0, []), (33, .getfield 12, [6, 0, 34]), (36, .iload_n 1, []), (37, .iload_n 2, []), (38, .iload_n 2, []), (39, .aload_n 0, []), (40, .getfield 52, [6, 6, 55]), (43, .iconst 2, []), (44, .invokevirtual 83, [0, 0, 1, 1, 10, 11, 12, 9, 0, 56]), (47, .invokevirtual 240, [33, 0, 4, 0, 351, 352, 53, 350, 0, 533]), (50, .ireturn, [])]
def zm_126 : zM := (⟨"Nightjar", "templatesWith", "(I)I"⟩, prog_1_method_23_code, 3, (Option.some Jvm.ClassFile.FieldType.int), 5, 120)
def zc_126 : List (Nat × Instr × List Nat) := [(0, .iload_n 1, []), (1, .bipush 100, []), (3, .invokestatic 60, [5, 1, 2, 0, 361, 0, 118, 360, 0, 359]), (6, .ifCond .ne 14, [20]), (12, .dup, []), (20, .aload_n 0, []), (21, .getfield 23, [6, 2, 487]), (24, .iconst 0, []), (25, .putfield 126, [5, 2, 0, 14]), (28, .iconst 0, []), (29, .istore_n 2, []), (30, .iload_n 2, []), (31, .aload_n 0, []), (32, .getfield 12, [6, 0, 34]), (35, .getfield 71, [0, 7, 35]), (38, .if_icmp .ge 23, [61]), (41, .aload_n 0, []), (42, .getfield 23, [6, 2, 487]), (45, .aload_n 0, []), (46, .getfield 12, [6, 0, 34]), (49, .iload_n 2, []), (50, .iload_n 1, []), (51, .invokevirtual 115, [43, 0, 3, 5, 517, 518, 139, 516, 0, 515]), (54, .pop, []), (55, .iinc 2 1, []), (58, .goto (-28), [30]), (61, .aload_n 0, []), (62, .getfield 23, [6, 2, 487]), (65, .getfield 126, [5, 2, 14]), (68, .ireturn, [])]
def zm_127 : zM := (⟨"Nightjar", "sessionsWith", "(I)I"⟩, prog_1_method_24_code, 4, (Option.some Jvm.ClassFile.FieldType.int), 2, 44)
def zc_127 : List (Nat × Instr × List Nat) := [(0, .iload_n 1, []), (1, .sipush 1000, []), (4, .invokestatic 60, [5, 1, 2, 0, 361, 0, 118, 360, 0, 359]), (7, .ifCond .ne 14, [21]), (13, .dup, []), (21, .iconst 0, []), (22, .istore_n 2, []), (23, .iconst 0, []), (24, .istore_n 3, []), (25, .iload_n 3, []), (26, .aload_n 0, []), (27, .getfield 12, [6, 0, 34]), (30, .getfield 71, [0, 7, 35]), (33, .if_icmp .ge 39, [72]), (36, .aload_n 0, []), (37, .getfield 12, [6, 0, 34]), (40, .getfield 152, [0, 6, 376]), (43, .iload_n 3, []), (44, .invokevirtual 83, [0, 0, 1, 1, 10, 11, 12, 9, 0, 56]), (47, .ifCond .lt 19, [66]), (50, .aload_n 0, []), (51, .getfield 12, [6, 0, 34]), (54, .iload_n 3, []), (55, .iload_n 1, []), (56, .invokevirtual 282, [34, 0, 2, 0, 305, 306, 53, 304, 0, 534]), (59, .iconst (-1), []), (60, .if_icmp .ne 6, [66]), (63, .iinc 2 1, []), (66, .iinc 3 1, []), (69, .goto (-44), [25]), (72, .iload_n 2, []), (73, .ireturn, [])]
def zm_128 : zM := (⟨"Nightjar", "wouldBe", "(I)I"⟩, prog_1_method_25_code, 2, (Option.some Jvm.ClassFile.FieldType.int), 4, 96)
def zc_128 : List (Nat × Instr × List Nat) := [(0, .aload_n 0, []), (1, .iload_n 1, []), (2, .invokevirtual 135, [17, 0, 1, 6, 369, 370, 118, 368, 0, 367]), (5, .ifCond .ne 13, [18]), (11, .dup, []), (18, .iload_n 1, []), (19, .aload_n 0, []), (20, .getfield 12, [6, 0, 34]), (23, .getfield 101, [0, 8, 81]), (26, .if_icmp .ge 14, [40]), (32, .dup, []), (40, .aload_n 0, []), (41, .getfield 19, [6, 1, 13]), (44, .aload_n 0, []), (45, .getfield 12, [6, 0, 34]), (48, .iload_n 1, []), (49, .aload_n 0, []), (50, .getfield 52, [6, 6, 55]), (53, .iconst 0, []), (54, .invokevirtual 83, [0, 0, 1, 1, 10, 11, 12, 9, 0, 56]), (57, .invokevirtual 287, [42, 0, 3, 5, 152, 153, 139, 151, 0, 535]), (60, .ireturn, [])]
def zm_129 : zM := (⟨"Nightjar", "digest", "()J"⟩, prog_1_method_26_code, 5, (Option.some Jvm.ClassFile.FieldType.long), 6, 143)
def zc_129 : List (Nat × Instr × List Nat) := [(0, .ldc2_w 290, [58085, 536]), (3, .lstore_n 1, []), (4, .iconst 0, []), (5, .istore_n 3, []), (6, .iload_n 3, []), (7, .iconst 5, []), (8, .if_icmp .gt 19, [27]), (11, .lload_n 1, []), (12, .aload_n 0, []), (13, .iload_n 3, []), (14, .invokevirtual 292, [94, 0, 1, 6, 539, 540, 118, 538, 0, 537]), (17, .invokestatic 295, [6, 1, 2, 0, 442, 0, 118, 441, 0, 440]), (20, .lstore_n 1, []), (21, .iinc 3 1, []), (24, .goto (-18), [6]), (27, .iconst 0, []), (28, .istore_n 3, []), (29, .iload_n 3, []), (30, .aload_n 0, []), (31, .getfield 12, [6, 0, 34]), (34, .getfield 71, [0, 7, 35]), (37, .if_icmp .ge 16, [53]), (40, .aload_n 0, []), (41, .lload_n 1, []), (42, .iload_n 3, []), (43, .invokevirtual 299, [105, 0, 2, 6, 543, 544, 118, 542, 0, 541]), (46, .lstore_n 1, []), (47, .iinc 3 1, []), (50, .goto (-21), [29]), (53, .iconst 0, []), (54, .istore_n 3, []), (55, .iload_n 3, []), (56, .aload_n 0, []), (57, .getfield 19, [6, 1, 13]), (60, .getfield 126, [5, 2, 14]), (63, .if_icmp .ge 16, [79]), (66, .aload_n 0, []), (67, .lload_n 1, []), (68, .iload_n 3, []), (69, .invokevirtual 302, [106, 0, 2, 6, 547, 548, 118, 546, 0, 545]), (72, .lstore_n 1, []), (73, .iinc 3 1, []), (76, .goto (-21), [55]), (79, .iconst 0, []), (80, .istore_n 3, []), (81, .iload_n 3, []), (82, .aload_n 0, []), (83, .getfield 29, [6, 3, 54]), (86, .getfield 129, [3, 8, 162]), (89, .if_icmp .ge 37, [126]), (92, .iconst 0, []), (93, .istore 4, []), (95, .iload 4, []), (97, .bipush 6, []), (99, .if_icmp .gt 21, [120]), (102, .lload_n 1, []), (103, .aload_n 0, []), (104, .iload_n 3, []), (105, .iload 4, []), (107, .invokevirtual 305, [99, 0, 2, 6, 551, 552, 118, 550, 0, 549]), (110, .invokestatic 295, [6, 1, 2, 0, 442, 0, 118, 441, 0, 440]), (113, .lstore_n 1, []), (114, .iinc 4 1, []), (117, .goto (-22), [95]), (120, .iinc 3 1, []), (123, .goto (-42), [81]), (126, .lload_n 1, []), (127, .aload_n 0, []), (128, .invokevirtual 308, [100, 0, 0, 6, 555, 556, 118, 554, 0, 553]), (131, .invokestatic 295, [6, 1, 2, 0, 442, 0, 118, 441, 0, 440]), (134, .lstore_n 1, []), (135, .iconst 0, []), (136, .istore_n 3, []), (137, .iload_n 3, []), (138, .aload_n 0, []), (139, .getfield 36, [6, 4, 66]), (142, .getfield 134, [4, 4, 366]), (145, .if_icmp .ge 36, [181]), (148, .iconst 0, []), (149, .istore 4, []), (151, .iload 4, []), (153, .iconst 2, []), (154, .if_icmp .gt 21, [175]), (157, .lload_n 1, []), (158, .aload_n 0, []), (159, .iload_n 3, []), (160, .iload 4, []), (162, .invokevirtual 311, [101, 0, 2, 6, 559, 560, 118, 558, 0, 557]), (165, .invokestatic 295, [6, 1, 2, 0, 442, 0, 118, 441, 0, 440]), (168, .lstore_n 1, []), (169, .iinc 4 1, []), (172, .goto (-21), [151]), (175, .iinc 3 1, []), (178, .goto (-41), [137]), (181, .lload_n 1, []), (182, .lreturn, [])]
def zm_130 : zM := (⟨"NightjarModel", "<init>", "()V"⟩, prog_9_method_1_code, 1, (Option.none : Option Jvm.ClassFile.FieldType), 1, 20)
def zc_130 : List (Nat × Instr × List Nat) := [(0, .aload_n 0, []), (1, .invokespecial 1, [0, 5, 561, 3, 4]), (4, .aload_n 0, []), (5, .bipush 70, []), (7, .newarray .int, [0, 5]), (9, .putfield 9, [7, 2, 1, 109]), (12, .aload_n 0, []), (13, .bipush 70, []), (15, .newarray .int, [0, 5]), (17, .putfield 13, [7, 3, 1, 189]), (20, .aload_n 0, []), (21, .bipush 70, []), (23, .newarray .int, [0, 5]), (25, .putfield 16, [7, 4, 1, 195]), (28, .aload_n 0, []), (29, .bipush 70, []), (31, .newarray .int, [0, 5]), (33, .putfield 19, [7, 5, 1, 86]), (36, .aload_n 0, []), (37, .sipush 560, []), (40, .newarray .int, [0, 5]), (42, .putfield 22, [7, 6, 1, 26]), (45, .aload_n 0, []), (46, .iconst 4, []), (47, .newarray .int, [0, 5]), (49, .dup, []), (50, .iconst 0, []), (51, .bipush 50, []), (53, .iastore, []), (54, .dup, []), (55, .iconst 1, []), (56, .bipush 30, []), (58, .iastore, []), (59, .dup, []), (60, .iconst 2, []), (61, .bipush 10, []), (63, .iastore, []), (64, .dup, []), (65, .iconst 3, []), (66, .bipush 20, []), (68, .iastore, []), (69, .putfield 25, [7, 7, 1, 27]), (72, .aload_n 0, []), (73, .bipush 70, []), (75, .newarray .int, [0, 5]), (77, .putfield 28, [7, 9, 1, 38]), (80, .aload_n 0, []), (81, .bipush 20, []), (83, .newarray .int, [0, 5]), (85, .putfield 31, [7, 11, 1, 24]), (88, .aload_n 0, []), (89, .sipush 160, []), (92, .newarray .int, [0, 5]), (94, .putfield 34, [7, 12, 1, 25]), (97, .aload_n 0, []), (98, .bipush 70, []), (100, .newarray .int, [0, 5]), (102, .putfield 37, [7, 14, 1, 96]), (105, .aload_n 0, []), (106, .bipush 70, []), (108, .newarray .int, [0, 5]), (110, .putfield 40, [7, 15, 1, 168]), (113, .aload_n 0, []), (114, .bipush 70, []), (116, .newarray .int, [0, 5]), (118, .putfield 43, [7, 16, 1, 169]), (121, .aload_n 0, []), (122, .bipush 70, []), (124, .newarray .int, [0, 5]), (126, .putfield 46, [7, 18, 1, 175]), (129, .aload_n 0, []), (130, .bipush 70, []), (132, .newarray .int, [0, 5]), (134, .putfield 49, [7, 19, 1, 176]), (137, .aload_n 0, []), (138, .bipush 80, []), (140, .newarray .int, [0, 5]), (142, .putfield 52, [7, 21, 1, 194]), (145, .return_, [])]
def zm_131 : zM := (⟨"NightjarModel", "thrown", "()I"⟩, prog_9_method_2_code, 1, (Option.some Jvm.ClassFile.FieldType.int), 0, 0)
def zc_131 : List (Nat × Instr × List Nat) := [(0, .aload_n 0, []), (1, .getfield 55, [7, 0, 1]), (4, .ireturn, [])]
def zm_132 : zM := (⟨"NightjarModel", "line", "(III)I"⟩, prog_9_method_7_code, 4, (Option.some Jvm.ClassFile.FieldType.int), 1, 22)
def zc_132 : List (Nat × Instr × List Nat) := [(0, .aload_n 0, []), (1, .iconst 0, []), (2, .putfield 55, [7, 0, 0, 1]), (5, .iload_n 1, []), (6, .iconst 0, []), (7, .sipush 9999, []), (10, .invokestatic 62, [4, 1, 3, 0, 18, 0, 19, 17, 0, 16]), (13, .ifCond .eq 22, [35]), (16, .iload_n 2, []), (17, .iconst 0, []), (18, .bipush 7, []), (20, .invokestatic 62, [4, 1, 3, 0, 18, 0, 19, 17, 0, 16]), (23, .ifCond .eq 12, [35]), (26, .iload_n 3, []), (27, .iconst 0, []), (28, .iconst 3, []), (29, .invokestatic 62, [4, 1, 3, 0, 18, 0, 19, 17, 0, 16]), (32, .ifCond .ne 9, [41]), (35, .aload_n 0, []), (36, .iconst 1, []), (37, .invokevirtual 69, [2, 0, 1, 7, 564, 565, 19, 563, 0, 562]), (40, .ireturn, []), (41, .aload_n 0, []), (42, .getfield 59, [7, 1, 36]), (45, .bipush 70, []), (47, .if_icmp .eq 25, [72]), (50, .aload_n 0, []), (51, .getfield 59, [7, 1, 36]), (54, .ifCond .le 24, [78]), (57, .iload_n 1, []), (58, .aload_n 0, []), (59, .getfield 9, [7, 2, 109]), (62, .aload_n 0, []), (63, .getfield 59, [7, 1, 36]), (66, .iconst 1, []), (67, .isub, []), (68, .iaload, []), (69, .if_icmp .ge 9, [78]), (72, .aload_n 0, []), (73, .iconst 2, []), (74, .invokevirtual 69, [2, 0, 1, 7, 564, 565, 19, 563, 0, 562]), (77, .ireturn, []), (78, .aload_n 0, []), (79, .getfield 9, [7, 2, 109]), (82, .aload_n 0, []), (83, .getfield 59, [7, 1, 36]), (86, .iload_n 1, []), (87, .iastore, []), (88, .aload_n 0, []), (89, .getfield 13, [7, 3, 189]), (92, .aload_n 0, []), (93, .getfield 59, [7, 1, 36]), (96, .iload_n 2, []), (97, .iastore, []), (98, .aload_n 0, []), (99, .getfield 16, [7, 4, 195]), (102, .aload_n 0, []), (103, .getfield 59, [7, 1, 36]), (106, .iload_n 3, []), (107, .iastore, []), (108, .aload_n 0, []), (109, .dup, []), (110, .getfield 59, [7, 1, 36]), (113, .dup_x1, []), (114, .iconst 1, []), (115, .iadd, []), (116, .putfield 59, [7, 1, 0, 36]), (119, .ireturn, [])]
def zm_133 : zM := (⟨"NightjarModel", "word", "(I)I"⟩, prog_9_method_8_code, 2, (Option.some Jvm.ClassFile.FieldType.int), 1, 22)
def zc_133 : List (Nat × Instr × List Nat) := [(0, .aload_n 0, []), (1, .iconst 0, []), (2, .putfield 55, [7, 0, 0, 1]), (5, .iload_n 1, []), (6, .iconst 0, []), (7, .sipush 999, []), (10, .invokestatic 62, [4, 1, 3, 0, 18, 0, 19, 17, 0, 16]), (13, .ifCond .ne 9, [22]), (16, .aload_n 0, []), (17, .iconst 1, []), (18, .invokevirtual 69, [2, 0, 1, 7, 564, 565, 19, 563, 0, 562]), (21, .ireturn, []), (22, .aload_n 0, []), (23, .getfield 59, [7, 1, 36]), (26, .ifCond .eq 30, [56]), (29, .aload_n 0, []), (30, .getfield 19, [7, 5, 86]), (33, .aload_n 0, []), (34, .getfield 59, [7, 1, 36]), (37, .iconst 1, []), (38, .isub, []), (39, .iaload, []), (40, .bipush 8, []), (42, .if_icmp .eq 14, [56]), (45, .aload_n 0, []), (46, .getfield 73, [7, 8, 37]), (49, .aload_n 0, []), (50, .getfield 59, [7, 1, 36]), (53, .if_icmp .ne 9, [62]), (56, .aload_n 0, []), (57, .iconst 2, []), (58, .invokevirtual 69, [2, 0, 1, 7, 564, 565, 19, 563, 0, 562]), (61, .ireturn, []), (62, .aload_n 0, []), (63, .getfield 22, [7, 6, 26]), (66, .aload_n 0, []), (67, .getfield 59, [7, 1, 36]), (70, .iconst 1, []), (71, .isub, []), (72, .bipush 8, []), (74, .imul, []), (75, .aload_n 0, []), (76, .getfield 19, [7, 5, 86]), (79, .aload_n 0, []), (80, .getfield 59, [7, 1, 36]), (83, .iconst 1, []), (84, .isub, []), (85, .iaload, []), (86, .iadd, []), (87, .iload_n 1, []), (88, .iastore, []), (89, .aload_n 0, []), (90, .getfield 19, [7, 5, 86]), (93, .aload_n 0, []), (94, .getfield 59, [7, 1, 36]), (97, .iconst 1, []), (98, .isub, []), (99, .dup2, []), (100, .iaload, []), (101, .iconst 1, []), (102, .iadd, []), (103, .dup_x2, []), (104, .iastore, []), (105, .ireturn, [])]
def zm_134 : zM := (⟨"NightjarModel", "learn", "(I)I"⟩, prog_9_method_14_code, 3, (Option.some Jvm.ClassFile.FieldType.int), 3, 113)
def zc_134 : List (Nat × Instr × List Nat) := [(0, .aload_n 0, []), (1, .iconst 0, []), (2, .putfield 55, [7, 0, 0, 1]), (5, .iload_n 1, []), (6, .iconst 1, []), (7, .bipush 70, []), (9, .invokestatic 62, [4, 1, 3, 0, 18, 0, 19, 17, 0, 16]), (12, .ifCond .ne 9, [21]), (15, .aload_n 0, []), (16, .iconst 1, []), (17, .invokevirtual 69, [2, 0, 1, 7, 564, 565, 19, 563, 0, 562]), (20, .ireturn, []), (21, .aload_n 0, []), (22, .getfield 73, [7, 8, 37]), (25, .istore_n 2, []), (26, .aload_n 0, []), (27, .getfield 73, [7, 8, 37]), (30, .aload_n 0, []), (31, .getfield 59, [7, 1, 36]), (34, .if_icmp .ge 40, [74]), (37, .aload_n 0, []), (38, .getfield 73, [7, 8, 37]), (41, .iload_n 2, []), (42, .isub, []), (43, .iload_n 1, []), (44, .if_icmp .ge 30, [74]), (47, .aload_n 0, []), (48, .aload_n 0, []), (49, .getfield 73, [7, 8, 37]), (52, .aload_n 0, []), (53, .getfield 25, [7, 7, 27]), (56, .iconst 0, []), (57, .iaload, []), (58, .invokevirtual 92, [29, 0, 2, 7, 568, 569, 19, 567, 0, 566]), (61, .aload_n 0, []), (62, .dup, []), (63, .getfield 73, [7, 8, 37]), (66, .iconst 1, []), (67, .iadd, []), (68, .putfield 73, [7, 8, 0, 37]), (71, .goto (-45), [26]), (74, .aload_n 0, []), (75, .getfield 73, [7, 8, 37]), (78, .iload_n 2, []), (79, .isub, []), (80, .ireturn, [])]
def zm_135 : zM := (⟨"NightjarModel", "set", "(II)I"⟩, prog_9_method_15_code, 4, (Option.some Jvm.ClassFile.FieldType.int), 1, 22)
def zc_135 : List (Nat × Instr × List Nat) := [(0, .aload_n 0, []), (1, .iconst 0, []), (2, .putfield 55, [7, 0, 0, 1]), (5, .iload_n 1, []), (6, .iconst 0, []), (7, .iconst 3, []), (8, .invokestatic 62, [4, 1, 3, 0, 18, 0, 19, 17, 0, 16]), (11, .ifCond .eq 32, [43]), (14, .iload_n 2, []), (15, .iload_n 1, []), (16, .iconst 2, []), (17, .if_icmp .ne 7, [24]), (20, .iconst 1, []), (21, .goto 4, [25]), (24, .iconst 0, []), (25, .iload_n 1, []), (26, .ifCond .ne 8, [34]), (29, .bipush 100, []), (31, .goto 6, [37]), (34, .sipush 1000, []), (37, .invokestatic 62, [4, 1, 3, 0, 18, 0, 19, 17, 0, 16]), (40, .ifCond .ne 9, [49]), (43, .aload_n 0, []), (44, .iconst 1, []), (45, .invokevirtual 69, [2, 0, 1, 7, 564, 565, 19, 563, 0, 562]), (48, .ireturn, []), (49, .aload_n 0, []), (50, .getfield 25, [7, 7, 27]), (53, .iload_n 1, []), (54, .iaload, []), (55, .istore_n 3, []), (56, .aload_n 0, []), (57, .getfield 25, [7, 7, 27]), (60, .iload_n 1, []), (61, .iload_n 2, []), (62, .iastore, []), (63, .iload_n 3, []), (64, .ireturn, [])]
def zm_136 : zM := (⟨"NightjarModel", "forget", "()I"⟩, prog_9_method_16_code, 2, (Option.some Jvm.ClassFile.FieldType.int), 0, 0)
def zc_136 : List (Nat × Instr × List Nat) := [(0, .aload_n 0, []), (1, .iconst 0, []), (2, .putfield 55, [7, 0, 0, 1]), (5, .aload_n 0, []), (6, .getfield 73, [7, 8, 37]), (9, .istore_n 1, []), (10, .aload_n 0, []), (11, .iconst 0, []), (12, .putfield 73, [7, 8, 0, 37]), (15, .aload_n 0, []), (16, .iconst 0, []), (17, .putfield 66, [7, 10, 0, 15]), (20, .iload_n 1, []), (21, .ireturn, [])]
def zm_137 : zM := (⟨"NightjarModel", "many", "(I)I"⟩, prog_9_method_27_code, 2, (Option.some Jvm.ClassFile.FieldType.int), 5, 108)
def zc_137 : List (Nat × Instr × List Nat) := [(0, .aload_n 0, []), (1, .iconst 0, []), (2, .putfield 55, [7, 0, 0, 1]), (5, .aload_n 0, []), (6, .invokevirtual 126, [48, 0, 0, 7, 572, 573, 19, 571, 0, 570]), (9, .iload_n 1, []), (10, .iconst 0, []), (11, .iconst 5, []), (12, .invokestatic 62, [4, 1, 3, 0, 18, 0, 19, 17, 0, 16]), (15, .ifCond .eq 11, [26]), (18, .aload_n 0, []), (19, .iload_n 1, []), (20, .invokevirtual 129, [47, 0, 1, 7, 576, 577, 19, 575, 0, 574]), (23, .goto 8, [31]), (26, .aload_n 0, []), (27, .iconst 1, []), (28, .invokevirtual 69, [2, 0, 1, 7, 564, 565, 19, 563, 0, 562]), (31, .ireturn, [])]
def zm_138 : zM := (⟨"NightjarModel", "ofLine", "(II)I"⟩, prog_9_method_35_code, 3, (Option.some Jvm.ClassFile.FieldType.int), 5, 111)
def zc_138 : List (Nat × Instr × List Nat) := [(0, .aload_n 0, []), (1, .iconst 0, []), (2, .putfield 55, [7, 0, 0, 1]), (5, .aload_n 0, []), (6, .iload_n 1, []), (7, .invokevirtual 153, [18, 0, 1, 7, 580, 581, 19, 579, 0, 578]), (10, .ifCond .ne 9, [19]), (13, .aload_n 0, []), (14, .iconst 1, []), (15, .invokevirtual 69, [2, 0, 1, 7, 564, 565, 19, 563, 0, 562]), (18, .ireturn, []), (19, .iload_n 2, []), (20, .iconst 0, []), (21, .bipush 8, []), (23, .invokestatic 62, [4, 1, 3, 0, 18, 0, 19, 17, 0, 16]), (26, .ifCond .ne 9, [35]), (29, .aload_n 0, []), (30, .iconst 2, []), (31, .invokevirtual 69, [2, 0, 1, 7, 564, 565, 19, 563, 0, 562]), (34, .ireturn, []), (35, .aload_n 0, []), (36, .invokevirtual 121, [14, 0, 0, 7, 183, 184, 19, 182, 0, 181]), (39, .aload_n 0, []), (40, .iload_n 1, []), (41, .iload_n 2, []), (42, .invokevirtual 156, [51, 0, 2, 7, 584, 585, 19, 583, 0, 582]), (45, .ireturn, [])]
def zm_139 : zM := (⟨"NightjarModel", "wordAt", "(II)I"⟩, prog_9_method_36_code, 3, (Option.some Jvm.ClassFile.FieldType.int), 2, 43)
def zc_139 : List (Nat × Instr × List Nat) := [(0, .aload_n 0, []), (1, .iconst 0, []), (2, .putfield 55, [7, 0, 0, 1]), (5, .aload_n 0, []), (6, .iload_n 1, []), (7, .invokevirtual 153, [18, 0, 1, 7, 580, 581, 19, 579, 0, 578]), (10, .ifCond .eq 33, [43]), (13, .iload_n 2, []), (14, .iconst 0, []), (15, .aload_n 0, []), (16, .getfield 19, [7, 5, 86]), (19, .iload_n 1, []), (20, .iaload, []), (21, .iconst 1, []), (22, .isub, []), (23, .invokestatic 62, [4, 1, 3, 0, 18, 0, 19, 17, 0, 16]), (26, .ifCond .eq 17, [43]), (29, .aload_n 0, []), (30, .getfield 22, [7, 6, 26]), (33, .iload_n 1, []), (34, .bipush 8, []), (36, .imul, []), (37, .iload_n 2, []), (38, .iadd, []), (39, .iaload, []), (40, .goto 8, [48]), (43, .aload_n 0, []), (44, .iconst 1, []), (45, .invokevirtual 69, [2, 0, 1, 7, 564, 565, 19, 563, 0, 562]), (48, .ireturn, [])]
def zm_140 : zM := (⟨"NightjarModel", "ofTemplate", "(II)I"⟩, prog_9_method_38_code, 3, (Option.some Jvm.ClassFile.FieldType.int), 2, 49)
def zc_140 : List (Nat × Instr × List Nat) := [(0, .aload_n 0, []), (1, .iconst 0, []), (2, .putfield 55, [7, 0, 0, 1]), (5, .aload_n 0, []), (6, .iload_n 1, []), (7, .invokevirtual 167, [11, 0, 1, 7, 588, 589, 19, 587, 0, 586]), (10, .ifCond .ne 9, [19]), (13, .aload_n 0, []), (14, .iconst 1, []), (15, .invokevirtual 69, [2, 0, 1, 7, 564, 565, 19, 563, 0, 562]), (18, .ireturn, []), (19, .iload_n 2, []), (20, .iconst 0, []), (21, .iconst 4, []), (22, .invokestatic 62, [4, 1, 3, 0, 18, 0, 19, 17, 0, 16]), (25, .ifCond .eq 12, [37]), (28, .aload_n 0, []), (29, .iload_n 1, []), (30, .iload_n 2, []), (31, .invokevirtual 170, [52, 0, 2, 7, 592, 593, 19, 591, 0, 590]), (34, .goto 8, [42]), (37, .aload_n 0, []), (38, .iconst 2, []), (39, .invokevirtual 69, [2, 0, 1, 7, 564, 565, 19, 563, 0, 562]), (42, .ireturn, [])]
def zm_141 : zM := (⟨"NightjarModel", "slot", "(II)I"⟩, prog_9_method_39_code, 3, (Option.some Jvm.ClassFile.FieldType.int), 2, 43)
def zc_141 : List (Nat × Instr × List Nat) := [(0, .aload_n 0, []), (1, .iconst 0, []), (2, .putfield 55, [7, 0, 0, 1]), (5, .aload_n 0, []), (6, .iload_n 1, []), (7, .invokevirtual 167, [11, 0, 1, 7, 588, 589, 19, 587, 0, 586]), (10, .ifCond .eq 33, [43]), (13, .iload_n 2, []), (14, .iconst 0, []), (15, .aload_n 0, []), (16, .getfield 31, [7, 11, 24]), (19, .iload_n 1, []), (20, .iaload, []), (21, .iconst 1, []), (22, .isub, []), (23, .invokestatic 62, [4, 1, 3, 0, 18, 0, 19, 17, 0, 16]), (26, .ifCond .eq 17, [43]), (29, .aload_n 0, []), (30, .getfield 34, [7, 12, 25]), (33, .iload_n 1, []), (34, .bipush 8, []), (36, .imul, []), (37, .iload_n 2, []), (38, .iadd, []), (39, .iaload, []), (40, .goto 8, [48]), (43, .aload_n 0, []), (44, .iconst 1, []), (45, .invokevirtual 69, [2, 0, 1, 7, 564, 565, 19, 563, 0, 562]), (48, .ireturn, [])]
def zm_142 : zM := (⟨"NightjarModel", "values", "(II)I"⟩, prog_9_method_42_code, 3, (Option.some Jvm.ClassFile.FieldType.int), 2, 50)
def zc_142 : List (Nat × Instr × List Nat) := [(0, .aload_n 0, []), (1, .iconst 0, []), (2, .putfield 55, [7, 0, 0, 1]), (5, .aload_n 0, []), (6, .iload_n 1, []), (7, .invokevirtual 167, [11, 0, 1, 7, 588, 589, 19, 587, 0, 586]), (10, .ifCond .eq 27, [37]), (13, .iload_n 2, []), (14, .iconst 0, []), (15, .aload_n 0, []), (16, .iload_n 1, []), (17, .invokevirtual 159, [30, 0, 1, 7, 202, 203, 19, 201, 0, 200]), (20, .iconst 1, []), (21, .isub, []), (22, .invokestatic 62, [4, 1, 3, 0, 18, 0, 19, 17, 0, 16]), (25, .ifCond .eq 12, [37]), (28, .aload_n 0, []), (29, .iload_n 1, []), (30, .iload_n 2, []), (31, .invokevirtual 176, [53, 0, 2, 7, 596, 597, 19, 595, 0, 594]), (34, .goto 8, [42]), (37, .aload_n 0, []), (38, .iconst 1, []), (39, .invokevirtual 69, [2, 0, 1, 7, 564, 565, 19, 563, 0, 562]), (42, .ireturn, [])]
def zm_143 : zM := (⟨"NightjarModel", "alike", "(II)I"⟩, prog_9_method_43_code, 3, (Option.some Jvm.ClassFile.FieldType.int), 2, 43)
def zc_143 : List (Nat × Instr × List Nat) := [(0, .aload_n 0, []), (1, .iconst 0, []), (2, .putfield 55, [7, 0, 0, 1]), (5, .aload_n 0, []), (6, .iload_n 1, []), (7, .invokevirtual 153, [18, 0, 1, 7, 580, 581, 19, 579, 0, 578]), (10, .ifCond .eq 11, [21]), (13, .aload_n 0, []), (14, .iload_n 2, []), (15, .invokevirtual 167, [11, 0, 1, 7, 588, 589, 19, 587, 0, 586]), (18, .ifCond .ne 9, [27]), (21, .aload_n 0, []), (22, .iconst 1, []), (23, .invokevirtual 69, [2, 0, 1, 7, 564, 565, 19, 563, 0, 562]), (26, .ireturn, []), (27, .aload_n 0, []), (28, .getfield 31, [7, 11, 24]), (31, .iload_n 2, []), (32, .iaload, []), (33, .aload_n 0, []), (34, .getfield 19, [7, 5, 86]), (37, .iload_n 1, []), (38, .iaload, []), (39, .if_icmp .ne 12, [51]), (42, .aload_n 0, []), (43, .iload_n 1, []), (44, .iload_n 2, []), (45, .invokevirtual 76, [22, 0, 2, 7, 469, 470, 19, 468, 0, 467]), (48, .goto 4, [52]), (51, .iconst (-1), []), (52, .ireturn, [])]
def zm_144 : zM := (⟨"NightjarModel", "ofSession", "(II)I"⟩, prog_9_method_48_code, 3, (Option.some Jvm.ClassFile.FieldType.int), 4, 96)
def zc_144 : List (Nat × Instr × List Nat) := [(0, .aload_n 0, []), (1, .iconst 0, []), (2, .putfield 55, [7, 0, 0, 1]), (5, .aload_n 0, []), (6, .invokevirtual 121, [14, 0, 0, 7, 183, 184, 19, 182, 0, 181]), (9, .iload_n 1, []), (10, .iconst 0, []), (11, .aload_n 0, []), (12, .getfield 99, [7, 13, 163]), (15, .iconst 1, []), (16, .isub, []), (17, .invokestatic 62, [4, 1, 3, 0, 18, 0, 19, 17, 0, 16]), (20, .ifCond .ne 9, [29]), (23, .aload_n 0, []), (24, .iconst 1, []), (25, .invokevirtual 69, [2, 0, 1, 7, 564, 565, 19, 563, 0, 562]), (28, .ireturn, []), (29, .iload_n 2, []), (30, .iconst 0, []), (31, .bipush 6, []), (33, .invokestatic 62, [4, 1, 3, 0, 18, 0, 19, 17, 0, 16]), (36, .ifCond .eq 12, [48]), (39, .aload_n 0, []), (40, .iload_n 1, []), (41, .iload_n 2, []), (42, .invokevirtual 188, [55, 0, 2, 7, 600, 601, 19, 599, 0, 598]), (45, .goto 8, [53]), (48, .aload_n 0, []), (49, .iconst 2, []), (50, .invokevirtual 69, [2, 0, 1, 7, 564, 565, 19, 563, 0, 562]), (53, .ireturn, [])]
def zm_145 : zM := (⟨"NightjarModel", "inSession", "(II)I"⟩, prog_9_method_49_code, 5, (Option.some Jvm.ClassFile.FieldType.int), 4, 88)
def zc_145 : List (Nat × Instr × List Nat) := [(0, .aload_n 0, []), (1, .iconst 0, []), (2, .putfield 55, [7, 0, 0, 1]), (5, .aload_n 0, []), (6, .invokevirtual 121, [14, 0, 0, 7, 183, 184, 19, 182, 0, 181]), (9, .iload_n 1, []), (10, .iconst 0, []), (11, .aload_n 0, []), (12, .getfield 99, [7, 13, 163]), (15, .iconst 1, []), (16, .isub, []), (17, .invokestatic 62, [4, 1, 3, 0, 18, 0, 19, 17, 0, 16]), (20, .ifCond .eq 7, [27]), (23, .iload_n 2, []), (24, .ifCond .ge 9, [33]), (27, .aload_n 0, []), (28, .iconst 1, []), (29, .invokevirtual 69, [2, 0, 1, 7, 564, 565, 19, 563, 0, 562]), (32, .ireturn, []), (33, .aload_n 0, []), (34, .iload_n 1, []), (35, .iconst (-1), []), (36, .invokevirtual 179, [25, 0, 2, 7, 473, 474, 19, 472, 0, 471]), (39, .istore_n 3, []), (40, .iconst 0, []), (41, .istore 4, []), (43, .iload 4, []), (45, .iload_n 2, []), (46, .if_icmp .ge 21, [67]), (49, .iload_n 3, []), (50, .iconst (-1), []), (51, .if_icmp .eq 16, [67]), (54, .aload_n 0, []), (55, .iload_n 1, []), (56, .iload_n 3, []), (57, .invokevirtual 179, [25, 0, 2, 7, 473, 474, 19, 472, 0, 471]), (60, .istore_n 3, []), (61, .iinc 4 1, []), (64, .goto (-21), [43]), (67, .iload_n 3, []), (68, .iconst (-1), []), (69, .if_icmp .ne 11, [80]), (72, .aload_n 0, []), (73, .iconst 1, []), (74, .invokevirtual 69, [2, 0, 1, 7, 564, 565, 19, 563, 0, 562]), (77, .goto 4, [81]), (80, .iload_n 3, []), (81, .ireturn, [])]
def zm_146 : zM := (⟨"NightjarModel", "usual", "()I"⟩, prog_9_method_51_code, 1, (Option.some Jvm.ClassFile.FieldType.int), 4, 94)
def zc_146 : List (Nat × Instr × List Nat) := [(0, .aload_n 0, []), (1, .iconst 0, []), (2, .putfield 55, [7, 0, 0, 1]), (5, .aload_n 0, []), (6, .invokevirtual 121, [14, 0, 0, 7, 183, 184, 19, 182, 0, 181]), (9, .aload_n 0, []), (10, .invokevirtual 191, [56, 0, 0, 7, 604, 605, 19, 603, 0, 602]), (13, .ireturn, [])]
def zm_147 : zM := (⟨"NightjarModel", "meanSession", "()D"⟩, prog_9_method_52_code, 3, (Option.some Jvm.ClassFile.FieldType.double), 4, 88)
def zc_147 : List (Nat × Instr × List Nat) := [(0, .aload_n 0, []), (1, .iconst 0, []), (2, .putfield 55, [7, 0, 0, 1]), (5, .aload_n 0, []), (6, .invokevirtual 121, [14, 0, 0, 7, 183, 184, 19, 182, 0, 181]), (9, .iconst 0, []), (10, .istore_n 1, []), (11, .iconst 0, []), (12, .istore_n 2, []), (13, .iload_n 2, []), (14, .aload_n 0, []), (15, .getfield 59, [7, 1, 36]), (18, .if_icmp .ge 27, [45]), (21, .iload_n 1, []), (22, .aload_n 0, []), (23, .getfield 37, [7, 14, 96]), (26, .iload_n 2, []), (27, .iaload, []), (28, .iconst (-1), []), (29, .if_icmp .ne 7, [36]), (32, .iconst 0, []), (33, .goto 4, [37]), (36, .iconst 1, []), (37, .iadd, []), (38, .istore_n 1, []), (39, .iinc 2 1, []), (42, .goto (-29), [13]), (45, .aload_n 0, []), (46, .getfield 99, [7, 13, 163]), (49, .ifCond .ne 7, [56]), (52, .dconst 0, []), (53, .goto 11, [64]), (56, .iload_n 1, []), (57, .i2d, []), (58, .aload_n 0, []), (59, .getfield 99, [7, 13, 163]), (62, .i2d, []), (63, .ddiv, []), (64, .dreturn, [])]
def zm_148 : zM := (⟨"NightjarModel", "count", "(II)I"⟩, prog_9_method_53_code, 3, (Option.some Jvm.ClassFile.FieldType.int), 2, 45)
def zc_148 : List (Nat × Instr × List Nat) := [(0, .aload_n 0, []), (1, .iconst 0, []), (2, .putfield 55, [7, 0, 0, 1]), (5, .aload_n 0, []), (6, .iload_n 1, []), (7, .invokevirtual 167, [11, 0, 1, 7, 588, 589, 19, 587, 0, 586]), (10, .ifCond .ne 9, [19]), (13, .aload_n 0, []), (14, .iconst 1, []), (15, .invokevirtual 69, [2, 0, 1, 7, 564, 565, 19, 563, 0, 562]), (18, .ireturn, []), (19, .iload_n 2, []), (20, .ifCond .ge 11, [31]), (23, .aload_n 0, []), (24, .iconst 2, []), (25, .invokevirtual 69, [2, 0, 1, 7, 564, 565, 19, 563, 0, 562]), (28, .goto 9, [37]), (31, .aload_n 0, []), (32, .iload_n 1, []), (33, .iload_n 2, []), (34, .invokevirtual 114, [19, 0, 2, 7, 173, 174, 19, 172, 0, 171]), (37, .ireturn, [])]
def zm_149 : zM := (⟨"NightjarModel", "spike", "(II)I"⟩, prog_9_method_55_code, 3, (Option.some Jvm.ClassFile.FieldType.int), 3, 71)
def zc_149 : List (Nat × Instr × List Nat) := [(0, .aload_n 0, []), (1, .iconst 0, []), (2, .putfield 55, [7, 0, 0, 1]), (5, .aload_n 0, []), (6, .invokevirtual 123, [46, 0, 0, 7, 187, 188, 19, 186, 0, 185]), (9, .iload_n 1, []), (10, .iconst 0, []), (11, .aload_n 0, []), (12, .getfield 111, [7, 17, 170]), (15, .iconst 1, []), (16, .isub, []), (17, .invokestatic 62, [4, 1, 3, 0, 18, 0, 19, 17, 0, 16]), (20, .ifCond .ne 9, [29]), (23, .aload_n 0, []), (24, .iconst 1, []), (25, .invokevirtual 69, [2, 0, 1, 7, 564, 565, 19, 563, 0, 562]), (28, .ireturn, []), (29, .iload_n 2, []), (30, .iconst 0, []), (31, .iconst 2, []), (32, .invokestatic 62, [4, 1, 3, 0, 18, 0, 19, 17, 0, 16]), (35, .ifCond .eq 12, [47]), (38, .aload_n 0, []), (39, .iload_n 1, []), (40, .iload_n 2, []), (41, .invokevirtual 195, [57, 0, 2, 7, 608, 609, 19, 607, 0, 606]), (44, .goto 8, [52]), (47, .aload_n 0, []), (48, .iconst 2, []), (49, .invokevirtual 69, [2, 0, 1, 7, 564, 565, 19, 563, 0, 562]), (52, .ireturn, [])]
def zm_150 : zM := (⟨"NightjarModel", "causes", "(I)I"⟩, prog_9_method_56_code, 2, (Option.some Jvm.ClassFile.FieldType.int), 5, 120)
def zc_150 : List (Nat × Instr × List Nat) := [(0, .aload_n 0, []), (1, .iconst 0, []), (2, .putfield 55, [7, 0, 0, 1]), (5, .aload_n 0, []), (6, .iload_n 1, []), (7, .invokevirtual 167, [11, 0, 1, 7, 588, 589, 19, 587, 0, 586]), (10, .ifCond .ne 9, [19]), (13, .aload_n 0, []), (14, .iconst 1, []), (15, .invokevirtual 69, [2, 0, 1, 7, 564, 565, 19, 563, 0, 562]), (18, .ireturn, []), (19, .aload_n 0, []), (20, .iload_n 1, []), (21, .invokevirtual 146, [24, 0, 1, 7, 192, 193, 19, 191, 0, 190]), (24, .aload_n 0, []), (25, .getfield 136, [7, 20, 87]), (28, .ireturn, [])]
def zm_151 : zM := (⟨"NightjarModel", "cause", "(III)I"⟩, prog_9_method_57_code, 4, (Option.some Jvm.ClassFile.FieldType.int), 5, 120)
def zc_151 : List (Nat × Instr × List Nat) := [(0, .aload_n 0, []), (1, .iconst 0, []), (2, .putfield 55, [7, 0, 0, 1]), (5, .aload_n 0, []), (6, .iload_n 1, []), (7, .invokevirtual 167, [11, 0, 1, 7, 588, 589, 19, 587, 0, 586]), (10, .ifCond .ne 9, [19]), (13, .aload_n 0, []), (14, .iconst 1, []), (15, .invokevirtual 69, [2, 0, 1, 7, 564, 565, 19, 563, 0, 562]), (18, .ireturn, []), (19, .aload_n 0, []), (20, .iload_n 1, []), (21, .invokevirtual 146, [24, 0, 1, 7, 192, 193, 19, 191, 0, 190]), (24, .iload_n 2, []), (25, .iconst 0, []), (26, .aload_n 0, []), (27, .getfield 136, [7, 20, 87]), (30, .iconst 1, []), (31, .isub, []), (32, .invokestatic 62, [4, 1, 3, 0, 18, 0, 19, 17, 0, 16]), (35, .ifCond .ne 9, [44]), (38, .aload_n 0, []), (39, .iconst 1, []), (40, .invokevirtual 69, [2, 0, 1, 7, 564, 565, 19, 563, 0, 562]), (43, .ireturn, []), (44, .iload_n 3, []), (45, .iconst 0, []), (46, .iconst 3, []), (47, .invokestatic 62, [4, 1, 3, 0, 18, 0, 19, 17, 0, 16]), (50, .ifCond .eq 16, [66]), (53, .aload_n 0, []), (54, .getfield 52, [7, 21, 194]), (57, .iconst 4, []), (58, .iload_n 2, []), (59, .imul, []), (60, .iload_n 3, []), (61, .iadd, []), (62, .iaload, []), (63, .goto 8, [71]), (66, .aload_n 0, []), (67, .iconst 2, []), (68, .invokevirtual 69, [2, 0, 1, 7, 564, 565, 19, 563, 0, 562]), (71, .ireturn, [])]
def zm_152 : zM := (⟨"NightjarModel", "because", "(I)I"⟩, prog_9_method_58_code, 2, (Option.some Jvm.ClassFile.FieldType.int), 6, 143)
def zc_152 : List (Nat × Instr × List Nat) := [(0, .aload_n 0, []), (1, .iconst 0, []), (2, .putfield 55, [7, 0, 0, 1]), (5, .aload_n 0, []), (6, .iload_n 1, []), (7, .invokevirtual 153, [18, 0, 1, 7, 580, 581, 19, 579, 0, 578]), (10, .ifCond .eq 11, [21]), (13, .aload_n 0, []), (14, .iload_n 1, []), (15, .invokevirtual 198, [50, 0, 1, 7, 612, 613, 19, 611, 0, 610]), (18, .goto 8, [26]), (21, .aload_n 0, []), (22, .iconst 1, []), (23, .invokevirtual 69, [2, 0, 1, 7, 564, 565, 19, 563, 0, 562]), (26, .ireturn, [])]
def zm_153 : zM := (⟨"NightjarModel", "templatesWith", "(I)I"⟩, prog_9_method_61_code, 4, (Option.some Jvm.ClassFile.FieldType.int), 3, 113)
def zc_153 : List (Nat × Instr × List Nat) := [(0, .aload_n 0, []), (1, .iconst 0, []), (2, .putfield 55, [7, 0, 0, 1]), (5, .iload_n 1, []), (6, .iconst 0, []), (7, .bipush 100, []), (9, .invokestatic 62, [4, 1, 3, 0, 18, 0, 19, 17, 0, 16]), (12, .ifCond .ne 9, [21]), (15, .aload_n 0, []), (16, .iconst 1, []), (17, .invokevirtual 69, [2, 0, 1, 7, 564, 565, 19, 563, 0, 562]), (20, .ireturn, []), (21, .aload_n 0, []), (22, .iconst 0, []), (23, .invokevirtual 202, [58, 0, 1, 7, 616, 617, 19, 615, 0, 614]), (26, .astore_n 2, []), (27, .iconst 0, []), (28, .istore_n 3, []), (29, .iload_n 3, []), (30, .aload_n 0, []), (31, .getfield 59, [7, 1, 36]), (34, .if_icmp .ge 15, [49]), (37, .aload_n 0, []), (38, .iload_n 3, []), (39, .iload_n 1, []), (40, .invokevirtual 92, [29, 0, 2, 7, 568, 569, 19, 567, 0, 566]), (43, .iinc 3 1, []), (46, .goto (-17), [29]), (49, .aload_n 0, []), (50, .getfield 66, [7, 10, 15]), (53, .istore_n 3, []), (54, .aload_n 0, []), (55, .aload_n 2, []), (56, .invokevirtual 206, [59, 0, 1, 7, 620, 621, 19, 619, 0, 618]), (59, .iload_n 3, []), (60, .ireturn, [])]
def zm_154 : zM := (⟨"NightjarModel", "sessionsWith", "(I)I"⟩, prog_9_method_62_code, 2, (Option.some Jvm.ClassFile.FieldType.int), 3, 68)
def zc_154 : List (Nat × Instr × List Nat) := [(0, .aload_n 0, []), (1, .iconst 0, []), (2, .putfield 55, [7, 0, 0, 1]), (5, .iload_n 1, []), (6, .iconst 0, []), (7, .sipush 1000, []), (10, .invokestatic 62, [4, 1, 3, 0, 18, 0, 19, 17, 0, 16]), (13, .ifCond .eq 11, [24]), (16, .aload_n 0, []), (17, .iload_n 1, []), (18, .invokevirtual 105, [45, 0, 1, 7, 30, 31, 19, 29, 0, 28]), (21, .goto 8, [29]), (24, .aload_n 0, []), (25, .iconst 1, []), (26, .invokevirtual 69, [2, 0, 1, 7, 564, 565, 19, 563, 0, 562]), (29, .ireturn, [])]
def zm_155 : zM := (⟨"NightjarModel", "wouldBe", "(I)I"⟩, prog_9_method_63_code, 4, (Option.some Jvm.ClassFile.FieldType.int), 3, 113)
def zc_155 : List (Nat × Instr × List Nat) := [(0, .aload_n 0, []), (1, .iconst 0, []), (2, .putfield 55, [7, 0, 0, 1]), (5, .aload_n 0, []), (6, .iload_n 1, []), (7, .invokevirtual 153, [18, 0, 1, 7, 580, 581, 19, 579, 0, 578]), (10, .ifCond .ne 9, [19]), (13, .aload_n 0, []), (14, .iconst 1, []), (15, .invokevirtual 69, [2, 0, 1, 7, 564, 565, 19, 563, 0, 562]), (18, .ireturn, []), (19, .iload_n 1, []), (20, .aload_n 0, []), (21, .getfield 73, [7, 8, 37]), (24, .if_icmp .ge 9, [33]), (27, .aload_n 0, []), (28, .iconst 2, []), (29, .invokevirtual 69, [2, 0, 1, 7, 564, 565, 19, 563, 0, 562]), (32, .ireturn, []), (33, .aload_n 0, []), (34, .iconst 1, []), (35, .invokevirtual 202, [58, 0, 1, 7, 616, 617, 19, 615, 0, 614]), (38, .astore_n 2, []), (39, .aload_n 0, []), (40, .iload_n 1, []), (41, .aload_n 0, []), (42, .getfield 25, [7, 7, 27]), (45, .iconst 0, []), (46, .iaload, []), (47, .invokevirtual 92, [29, 0, 2, 7, 568, 569, 19, 567, 0, 566]), (50, .aload_n 0, []), (51, .getfield 28, [7, 9, 38]), (54, .iload_n 1, []), (55, .iaload, []), (56, .istore_n 3, []), (57, .aload_n 0, []), (58, .aload_n 2, []), (59, .invokevirtual 206, [59, 0, 1, 7, 620, 621, 19, 619, 0, 618]), (62, .iload_n 3, []), (63, .ireturn, [])]
def zm_156 : zM := (⟨"NightjarModel", "digest", "()J"⟩, prog_9_method_64_code, 5, (Option.some Jvm.ClassFile.FieldType.long), 6, 143)
def zc_156 : List (Nat × Instr × List Nat) := [(0, .aload_n 0, []), (1, .iconst 0, []), (2, .putfield 55, [7, 0, 0, 1]), (5, .aload_n 0, []), (6, .invokevirtual 126, [48, 0, 0, 7, 572, 573, 19, 571, 0, 570]), (9, .ldc2_w 210, [58085, 622]), (12, .lstore_n 1, []), (13, .iconst 0, []), (14, .istore_n 3, []), (15, .iload_n 3, []), (16, .bipush 6, []), (18, .if_icmp .ge 22, [40]), (21, .lload_n 1, []), (22, .ldc2_w 212, [31, 623]), (25, .lmul, []), (26, .aload_n 0, []), (27, .iload_n 3, []), (28, .invokevirtual 129, [47, 0, 1, 7, 576, 577, 19, 575, 0, 574]), (31, .i2l, []), (32, .ladd, []), (33, .lstore_n 1, []), (34, .iinc 3 1, []), (37, .goto (-22), [15]), (40, .iconst 0, []), (41, .istore_n 3, []), (42, .iload_n 3, []), (43, .aload_n 0, []), (44, .getfield 59, [7, 1, 36]), (47, .if_icmp .ge 53, [100]), (50, .iconst 4, []), (51, .istore 4, []), (53, .iload 4, []), (55, .bipush 9, []), (57, .if_icmp .ge 24, [81]), (60, .lload_n 1, []), (61, .ldc2_w 212, [31, 623]), (64, .lmul, []), (65, .aload_n 0, []), (66, .iload_n 3, []), (67, .iload 4, []), (69, .invokevirtual 156, [51, 0, 2, 7, 584, 585, 19, 583, 0, 582]), (72, .i2l, []), (73, .ladd, []), (74, .lstore_n 1, []), (75, .iinc 4 1, []), (78, .goto (-25), [53]), (81, .lload_n 1, []), (82, .ldc2_w 212, [31, 623]), (85, .lmul, []), (86, .aload_n 0, []), (87, .iload_n 3, []), (88, .invokevirtual 198, [50, 0, 1, 7, 612, 613, 19, 611, 0, 610]), (91, .i2l, []), (92, .ladd, []), (93, .lstore_n 1, []), (94, .iinc 3 1, []), (97, .goto (-55), [42]), (100, .iconst 0, []), (101, .istore_n 3, []), (102, .iload_n 3, []), (103, .aload_n 0, []), (104, .getfield 66, [7, 10, 15]), (107, .if_icmp .ge 174, [281]), (110, .lload_n 1, []), (111, .ldc2_w 212, [31, 623]), (114, .lmul, []), (115, .iload_n 3, []), (116, .i2l, []), (117, .ladd, []), (118, .lstore_n 1, []), (119, .iconst 0, []), (120, .istore 4, []), (122, .iload 4, []), (124, .iconst 5, []), (125, .if_icmp .ge 24, [149]), (128, .lload_n 1, []), (129, .ldc2_w 212, [31, 623]), (132, .lmul, []), (133, .aload_n 0, []), (134, .iload_n 3, []), (135, .iload 4, []), (137, .invokevirtual 170, [52, 0, 2, 7, 592, 593, 19, 591, 0, 590]), (140, .i2l, []), (141, .ladd, []), (142, .lstore_n 1, []), (143, .iinc 4 1, []), (146, .goto (-24), [122]), (149, .iconst 0, []), (150, .istore 4, []), (152, .iload 4, []), (154, .aload_n 0, []), (155, .getfield 31, [7, 11, 24]), (158, .iload_n 3, []), (159, .iaload, []), (160, .if_icmp .ge 29, [189]), (163, .lload_n 1, []), (164, .ldc2_w 212, [31, 623]), (167, .lmul, []), (168, .aload_n 0, []), (169, .getfield 34, [7, 12, 25]), (172, .iload_n 3, []), (173, .bipush 8, []), (175, .imul, []), (176, .iload 4, []), (178, .iadd, []), (179, .iaload, []), (180, .i2l, []), (181, .ladd, []), (182, .lstore_n 1, []), (183, .iinc 4 1, []), (186, .goto (-34), [152]), (189, .iconst 0, []), (190, .istore 4, []), (192, .iload 4, []), (194, .aload_n 0, []), (195, .iload_n 3, []), (196, .invokevirtual 159, [30, 0, 1, 7, 202, 203, 19, 201, 0, 200]), (199, .if_icmp .ge 24, [223]), (202, .lload_n 1, []), (203, .ldc2_w 212, [31, 623]), (206, .lmul, []), (207, .aload_n 0, []), (208, .iload_n 3, []), (209, .iload 4, []), (211, .invokevirtual 176, [53, 0, 2, 7, 596, 597, 19, 595, 0, 594]), (214, .i2l, []), (215, .ladd, []), (216, .lstore_n 1, []), (217, .iinc 4 1, []), (220, .goto (-28), [192]), (223, .aload_n 0, []), (224, .iload_n 3, []), (225, .invokevirtual 146, [24, 0, 1, 7, 192, 193, 19, 191, 0, 190]), (228, .lload_n 1, []), (229, .ldc2_w 212, [31, 623]), (232, .lmul, []), (233, .aload_n 0, []), (234, .getfield 136, [7, 20, 87]), (237, .i2l, []), (238, .ladd, []), (239, .lstore_n 1, []), (240, .iconst 0, []), (241, .istore 4, []), (243, .iload 4, []), (245, .iconst 4, []), (246, .aload_n 0, []), (247, .getfield 136, [7, 20, 87]), (250, .imul, []), (251, .if_icmp .ge 24, [275]), (254, .lload_n 1, []), (255, .ldc2_w 212, [31, 623]), (258, .lmul, []), (259, .aload_n 0, []), (260, .getfield 52, [7, 21, 194]), (263, .iload 4, []), (265, .iaload, []), (266, .i2l, []), (267, .ladd, []), (268, .lstore_n 1, []), (269, .iinc 4 1, []), (272, .goto (-29), [243]), (275, .iinc 3 1, []), (278, .goto (-176), [102]), (281, .iconst 0, []), (282, .istore_n 3, []), (283, .iload_n 3, []), (284, .aload_n 0, []), (285, .getfield 99, [7, 13, 163]), (288, .if_icmp .ge 40, [328]), (291, .iconst 0, []), (292, .istore 4, []), (294, .iload 4, []), (296, .bipush 7, []), (298, .if_icmp .ge 24, [322]), (301, .lload_n 1, []), (302, .ldc2_w 212, [31, 623]), (305, .lmul, []), (306, .aload_n 0, []), (307, .iload_n 3, []), (308, .iload 4, []), (310, .invokevirtual 188, [55, 0, 2, 7, 600, 601, 19, 599, 0, 598]), (313, .i2l, []), (314, .ladd, []), (315, .lstore_n 1, []), (316, .iinc 4 1, []), (319, .goto (-25), [294]), (322, .iinc 3 1, []), (325, .goto (-42), [283]), (328, .lload_n 1, []), (329, .ldc2_w 212, [31, 623]), (332, .lmul, []), (333, .aload_n 0, []), (334, .invokevirtual 191, [56, 0, 0, 7, 604, 605, 19, 603, 0, 602]), (337, .i2l, []), (338, .ladd, []), (339, .lstore_n 1, []), (340, .iconst 0, []), (341, .istore_n 3, []), (342, .iload_n 3, []), (343, .aload_n 0, []), (344, .getfield 111, [7, 17, 170]), (347, .if_icmp .ge 39, [386]), (350, .iconst 0, []), (351, .istore 4, []), (353, .iload 4, []), (355, .iconst 3, []), (356, .if_icmp .ge 24, [380]), (359, .lload_n 1, []), (360, .ldc2_w 212, [31, 623]), (363, .lmul, []), (364, .aload_n 0, []), (365, .iload_n 3, []), (366, .iload 4, []), (368, .invokevirtual 195, [57, 0, 2, 7, 608, 609, 19, 607, 0, 606]), (371, .i2l, []), (372, .ladd, []), (373, .lstore_n 1, []), (374, .iinc 4 1, []), (377, .goto (-24), [353]), (380, .iinc 3 1, []), (383, .goto (-41), [342]), (386, .lload_n 1, []), (387, .lreturn, [])]
def zms : List zM := [zm_0, zm_1, zm_2, zm_3, zm_4, zm_5, zm_6, zm_7, zm_8, zm_9, zm_10, zm_11, zm_12, zm_13, zm_14, zm_15, zm_16, zm_17, zm_18, zm_19, zm_20, zm_21, zm_22, zm_23, zm_24, zm_25, zm_26, zm_27, zm_28, zm_29, zm_30, zm_31, zm_32, zm_33, zm_34, zm_35, zm_36, zm_37, zm_38, zm_39, zm_40, zm_41, zm_42, zm_43, zm_44, zm_45, zm_46, zm_47, zm_48, zm_49, zm_50, zm_51, zm_52, zm_53, zm_54, zm_55, zm_56, zm_57, zm_58, zm_59, zm_60, zm_61, zm_62, zm_63, zm_64, zm_65, zm_66, zm_67, zm_68, zm_69, zm_70, zm_71, zm_72, zm_73, zm_74, zm_75, zm_76, zm_77, zm_78, zm_79, zm_80, zm_81, zm_82, zm_83, zm_84, zm_85, zm_86, zm_87, zm_88, zm_89, zm_90, zm_91, zm_92, zm_93, zm_94, zm_95, zm_96, zm_97, zm_98, zm_99, zm_100, zm_101, zm_102, zm_103, zm_104, zm_105, zm_106, zm_107, zm_108, zm_109, zm_110, zm_111, zm_112, zm_113, zm_114, zm_115, zm_116, zm_117, zm_118, zm_119, zm_120, zm_121, zm_122, zm_123, zm_124, zm_125, zm_126, zm_127, zm_128, zm_129, zm_130, zm_131, zm_132, zm_133, zm_134, zm_135, zm_136, zm_137, zm_138, zm_139, zm_140, zm_141, zm_142, zm_143, zm_144, zm_145, zm_146, zm_147, zm_148, zm_149, zm_150, zm_151, zm_152, zm_153, zm_154, zm_155, zm_156]
def zcs : List (List (Nat × Instr × List Nat)) := [zc_0, zc_1, zc_2, zc_3, zc_4, zc_5, zc_6, zc_7, zc_8, zc_9, zc_10, zc_11, zc_12, zc_13, zc_14, zc_15, zc_16, zc_17, zc_18, zc_19, zc_20, zc_21, zc_22, zc_23, zc_24, zc_25, zc_26, zc_27, zc_28, zc_29, zc_30, zc_31, zc_32, zc_33, zc_34, zc_35, zc_36, zc_37, zc_38, zc_39, zc_40, zc_41, zc_42, zc_43, zc_44, zc_45, zc_46, zc_47, zc_48, zc_49, zc_50, zc_51, zc_52, zc_53, zc_54, zc_55, zc_56, zc_57, zc_58, zc_59, zc_60, zc_61, zc_62, zc_63, zc_64, zc_65, zc_66, zc_67, zc_68, zc_69, zc_70, zc_71, zc_72, zc_73, zc_74, zc_75, zc_76, zc_77, zc_78, zc_79, zc_80, zc_81, zc_82, zc_83, zc_84, zc_85, zc_86, zc_87, zc_88, zc_89, zc_90, zc_91, zc_92, zc_93, zc_94, zc_95, zc_96, zc_97, zc_98, zc_99, zc_100, zc_101, zc_102, zc_103, zc_104, zc_105, zc_106, zc_107, zc_108, zc_109, zc_110, zc_111, zc_112, zc_113, zc_114, zc_115, zc_116, zc_117, zc_118, zc_119, zc_120, zc_121, zc_122, zc_123, zc_124, zc_125, zc_126, zc_127, zc_128, zc_129, zc_130, zc_131, zc_132, zc_133, zc_134, zc_135, zc_136, zc_137, zc_138, zc_139, zc_140, zc_141, zc_142, zc_143, zc_144, zc_145, zc_146, zc_147, zc_148, zc_149, zc_150, zc_151, zc_152, zc_153, zc_154, zc_155, zc_156]
def zMt (y : Nat) : zM := zms.getD y zm_0
def zI (y pc : Nat) : Option (Instr × List Nat) := ((zcs.getD y []).find? (fun e => e.1 == pc)).map (fun e => e.2)
def zTB : zT := (zI, zMt)
/-- where each method's own code word stands in zall -/
def zcw : List Nat := [9, 233, 563, 132, 17, 360, 441, 268, 142, 45, 381, 587, 165, 116, 182, 263, 136, 368, 579, 172, 280, 508, 468, 21, 191, 472, 259, 124, 328, 567, 201, 40, 89, 350, 304, 254, 272, 284, 485, 386, 237, 147, 151, 516, 408, 29, 186, 575, 571, 111, 611, 583, 591, 595, 218, 599, 603, 607, 615, 619, 481, 504, 512, 520, 50, 390, 394, 398, 404, 242, 498, 74, 78, 83, 276, 433, 288, 490, 58, 308, 312, 63, 319, 526, 416, 363, 530, 421, 494, 68, 346, 354, 155, 159, 538, 437, 448, 452, 456, 550, 554, 558, 460, 464, 444, 542, 546, 102, 106, 178, 197, 93, 209, 214, 324, 688, 689, 690, 691, 692, 693, 694, 695, 696, 697, 698, 699, 700, 701, 702, 703, 704, 705, 706, 707, 708, 709, 710, 711, 712, 713, 714, 715, 716, 717, 718, 719, 720, 721, 722, 723, 724, 725, 726, 727, 728, 729]
def znm : Nat := 157
end
section
/-- the kinds of rows that are made -/
def zkin : List Nat := [0, 2, 3]
/-! every row of the table is as the machine has it -/
def zsw : Instr → Bool
  | .tableswitch .. => true
  | .lookupswitch .. => true
  | _ => false
def zlen : Instr → Nat
  | .bipush _ => 2
  | .sipush _ => 3
  | .ldc _ => 2
  | .ldc_w _ => 3
  | .ldc2_w _ => 3
  | .iload _ => 2
  | .lload _ => 2
  | .dload _ => 2
  | .aload _ => 2
  | .istore _ => 2
  | .lstore _ => 2
  | .dstore _ => 2
  | .astore _ => 2
  | .iinc _ _ => 3
  | .ifCond _ _ => 3
  | .if_icmp _ _ => 3
  | .goto _ => 3
  | .getfield _ => 3
  | .putfield _ => 3
  | .invokevirtual _ => 3
  | .invokestatic _ => 3
  | .invokespecial _ => 3
  | .new _ => 3
  | .newarray _ => 2
  | .anewarray _ => 3
  | _ => 1
def zdc (bytes : ByteArray) (pc : Nat) (i : Instr) : Bool := match decode bytes pc with
  | .ok q => decide (q.1 = i) && (zsw i || decide (q.2 = zlen i))
  | .error _ => false
def zw (p : Nat) (w : Jvm.Cond) : Bool := decide ((zchk.getD (p / 60) [])[p % 60]? = some w)
def zcN (c : Nat) : String := (zcl.getD c ("", fun _ => ("", "", "", false), 0)).1
def zcF (c : Nat) : u_T := (zcl.getD c ("", fun _ => ("", "", "", false), 0)).2.1
def zcK (c : Nat) : Nat := (zcl.getD c ("", fun _ => ("", "", "", false), 0)).2.2
def zkd : FieldType → Nat
  | .int => 0
  | .object _ => 1
  | .array _ => 1
  | _ => 2
def zat1 : ArrayType → Nat
  | .int => 0
  | .long => 1
  | .boolean => 2
  | _ => 9
def zlink (k p : Nat) (own : String) (ix : Nat) (t : MethodName) : Bool := match k with
  | 0 => zw p (.methodLink own ix t)
  | _ => match znest[p]? with
    | some q => decide (q.1 = own ∧ q.2.1 = ix ∧ q.2.2.1 = t)
    | none => false
def zcallOK (y : Nat) (ix : Nat) (kind : Nat) (ax : List Nat) : Bool :=
  let own := (zMt y).1.cls
  let fr := (zMt y).2.2.2.2.1
  let lo := (zMt y).2.2.2.2.2
  match ax with
  | [_, 5, p1, p2, p3] => decide (kind = 2) && zw p1 (.methodLink own ix Lib.objectInit) && zw p2 (.instanceMethod Lib.objectInit) && zw p3 (.code Lib.objectInit ⟨#[0xb1]⟩ 1 none) && decide (1 ≤ fr) && decide (20 ≤ lo)
  | [_, 3, p1, p2, p3, p4] => decide (kind = 1) && zw p1 (.methodLink own ix arraycopyName) && zw p2 (.native arraycopyName) && zw p3 (.static arraycopyName) && zw p4 (.initialized "java/lang/System") && decide (1 ≤ fr) && decide (8 + (nativeFrameWords "java/lang/System" "arraycopy" 5 + 11) ≤ lo)
  | [_, 4, p1, p2, p3, p4] => decide (kind = 1) && zw p1 (.methodLink own ix Lib.Math.max.name) && zw p2 (.static Lib.Math.max.name) && zw p3 (.initialized "java/lang/Math") && zw p4 (.code Lib.Math.max.name Lib.Math.max.code 2 (some .int)) && decide (1 ≤ fr) && decide (21 ≤ lo)
  | [y', mode, n, ci, p1, p2, p3, p4, lk, lp] =>
    let t := (zMt y').1
    decide (y' < znm) && zlink lk lp own ix t && zw p3 (.initialized t.cls) && zw p4 (.code t (zMt y').2.1 (zMt y').2.2.1 (zMt y').2.2.2.1) && decide (t.cls ≠ "java/lang/invoke/MethodHandle" ∧ t.cls ≠ "java/lang/invoke/VarHandle") && decide ((parseMethodDescriptor t.desc).map (fun d => d.parameters.length) = some n) && decide ((zMt y').2.2.2.2.1 + 1 ≤ fr) && decide (8 + ((zMt y').2.2.1 + 11) + (zMt y').2.2.2.2.2 ≤ lo) && decide (kind = mode) &&
    (match mode with
      | 0 => decide (lk = 0) && decide (ci < zcl.length) && decide (zcN ci = t.cls) && zw p1 (.instanceMethod t) && zw p2 (.selects t.cls t t)
      | 1 => zw p1 (.static t)
      | 2 => zw p1 (.instanceMethod t) && decide (t.name = "<init>") && decide ((zMt y').2.2.2.1 = none)
      | _ => false)
  | _ => false
def zOK (y pc : Nat) (i : Instr) (ax : List Nat) : Bool :=
  let own := (zMt y).1.cls
  zdc (zMt y).2.1 pc i && (match i, ax with
  | .ldc ix, v :: p :: _ => zw p (.constant own ix (Int32.ofNat v))
  | .ldc _, _ => false
  | .ldc_w ix, v :: p :: _ => zw p (.constant own ix (Int32.ofNat v))
  | .ldc_w _, _ => false
  | .ldc2_w ix, v :: p :: _ => zw p (.constantLong own ix (Int64.ofNat v))
  | .ldc2_w _, _ => false
  | .ifCond _ off, t :: _ => decide ((pc : Int) + off = (t : Int))
  | .ifCond _ _, _ => false
  | .if_icmp _ off, t :: _ => decide ((pc : Int) + off = (t : Int))
  | .if_icmp _ _, _ => false
  | .goto off, t :: _ => decide ((pc : Int) + off = (t : Int))
  | .goto _, _ => false
  | .tableswitch d lo hi offs, t :: ts => decide ((pc : Int) + d = (t : Int)) && decide (offs.toList.map (fun o => (pc : Int) + o) = ts.map Int.ofNat) && decide (lo ≤ hi) && decide ((ts.length : Int) = hi - lo + 1)
  | .tableswitch .., _ => false
  | .getfield ix, [ci, k, p] => decide (ci < zcl.length) && decide (k < zcK ci) && zw p (.fieldLink own ix (zcF ci k).1 (zcF ci k).2.1 (zcF ci k).2.2.1)
  | .getfield _, _ => false
  | .putfield ix, [ci, k, kd, p] => decide (ci < zcl.length) && decide (k < zcK ci) && zw p (.fieldLink own ix (zcF ci k).1 (zcF ci k).2.1 (zcF ci k).2.2.1) && decide (zkd (ztyp ci k) = kd) && decide (kd < 2) && ((zcF ci k).2.2.2 == false || (decide ((zMt y).1.name = "<init>") && decide ((zcF ci k).1 = own)))
  | .putfield _, _ => false
  | .new ix, ci :: p1 :: p2 :: p3 :: ds => decide (ci < zcl.length) && zw p1 (.classLink own ix (zcN ci)) && zw p2 (.instantiable (zcN ci) (zcK ci)) && zw p3 (.initialized (zcN ci)) && decide ((zdef ds).length = zcK ci) && (List.range (zcK ci)).all (fun k => decide (defaultValue (ztyp ci k) = (zdef ds).getD k .null))
  | .new _, _ => false
  | .newarray a, t :: p :: _ => decide (zat1 a = t) && decide (t < 3) && decide (t ∈ zkin) && zw p (.arrayClass (newarray.typeOf a))
  | .newarray _, _ => false
  | .anewarray ix, t :: p :: _ => decide (t = 3) && decide (t ∈ zkin) && zw p (.classLink own ix "[I")
  | .anewarray _, _ => false
  | .invokevirtual ix, ax => zcallOK y ix 0 ax
  | .invokestatic ix, ax => zcallOK y ix 1 ax
  | .invokespecial ix, ax => zcallOK y ix 2 ax
  | .lookupswitch d ps, t :: ts => decide ((pc : Int) + d = (t : Int)) && decide (ps.toList.map (fun o => (pc : Int) + o.2) = ts.map Int.ofNat) && (ps.toList.zip (ps.toList.drop 1)).all (fun (a, next) => a.1 < next.1)
  | .lookupswitch .., _ => false
  | _, _ => true)
/-- a method of the table -/
def zMok (y : Nat) : Bool := plainName (zMt y).1.cls && (y == 0 || y != 0) && (match zcw[y]? with
  | some p => zw p (.code (zMt y).1 (zMt y).2.1 (zMt y).2.2.1 (zMt y).2.2.2.1) || decide ((zMt y).1.name = "law")
  | none => false)
theorem zck_cut {y : Nat} {l : List (Nat × Instr × List Nat)} (k : Nat) (h1 : (l.take k).all (fun e => zOK y e.1 e.2.1 e.2.2) = true) (h2 : (l.drop k).all (fun e => zOK y e.1 e.2.1 e.2.2) = true) : l.all (fun e => zOK y e.1 e.2.1 e.2.2) = true := by
  have h : (l.take k ++ l.drop k).all (fun e => zOK y e.1 e.2.1 e.2.2) = true := by rw [List.all_append, h1, h2]; rfl
  rwa [List.take_append_drop] at h
end
section
theorem zck_0 : (zcs.getD 0 []).all (fun e => zOK 0 e.1 e.2.1 e.2.2) = true := by decide +kernel
theorem zcm_0 : zMok 0 = true := by decide +kernel
theorem zck_1 : (zcs.getD 1 []).all (fun e => zOK 1 e.1 e.2.1 e.2.2) = true := by decide +kernel
theorem zcm_1 : zMok 1 = true := by decide +kernel
theorem zck_2 : (zcs.getD 2 []).all (fun e => zOK 2 e.1 e.2.1 e.2.2) = true := by decide +kernel
theorem zcm_2 : zMok 2 = true := by decide +kernel
theorem zck_3 : (zcs.getD 3 []).all (fun e => zOK 3 e.1 e.2.1 e.2.2) = true := by decide +kernel
theorem zcm_3 : zMok 3 = true := by decide +kernel
theorem zck_4 : (zcs.getD 4 []).all (fun e => zOK 4 e.1 e.2.1 e.2.2) = true := by decide +kernel
theorem zcm_4 : zMok 4 = true := by decide +kernel
theorem zck_5 : (zcs.getD 5 []).all (fun e => zOK 5 e.1 e.2.1 e.2.2) = true := by decide +kernel
theorem zcm_5 : zMok 5 = true := by decide +kernel
theorem zck_6 : (zcs.getD 6 []).all (fun e => zOK 6 e.1 e.2.1 e.2.2) = true := by decide +kernel
theorem zcm_6 : zMok 6 = true := by decide +kernel
theorem zck_7 : (zcs.getD 7 []).all (fun e => zOK 7 e.1 e.2.1 e.2.2) = true := by decide +kernel
theorem zcm_7 : zMok 7 = true := by decide +kernel
theorem zck_8 : (zcs.getD 8 []).all (fun e => zOK 8 e.1 e.2.1 e.2.2) = true := by decide +kernel
theorem zcm_8 : zMok 8 = true := by decide +kernel
theorem zck_9 : (zcs.getD 9 []).all (fun e => zOK 9 e.1 e.2.1 e.2.2) = true := by decide +kernel
theorem zcm_9 : zMok 9 = true := by decide +kernel
theorem zck_10 : (zcs.getD 10 []).all (fun e => zOK 10 e.1 e.2.1 e.2.2) = true := by decide +kernel
theorem zcm_10 : zMok 10 = true := by decide +kernel
theorem zck_11 : (zcs.getD 11 []).all (fun e => zOK 11 e.1 e.2.1 e.2.2) = true := by decide +kernel
theorem zcm_11 : zMok 11 = true := by decide +kernel
theorem zck_12 : (zcs.getD 12 []).all (fun e => zOK 12 e.1 e.2.1 e.2.2) = true := by decide +kernel
theorem zcm_12 : zMok 12 = true := by decide +kernel
theorem zck_13 : (zcs.getD 13 []).all (fun e => zOK 13 e.1 e.2.1 e.2.2) = true := by decide +kernel
theorem zcm_13 : zMok 13 = true := by decide +kernel
theorem zck_14 : (zcs.getD 14 []).all (fun e => zOK 14 e.1 e.2.1 e.2.2) = true := by decide +kernel
theorem zcm_14 : zMok 14 = true := by decide +kernel
theorem zck_15 : (zcs.getD 15 []).all (fun e => zOK 15 e.1 e.2.1 e.2.2) = true := by decide +kernel
theorem zcm_15 : zMok 15 = true := by decide +kernel
theorem zck_16 : (zcs.getD 16 []).all (fun e => zOK 16 e.1 e.2.1 e.2.2) = true := by decide +kernel
theorem zcm_16 : zMok 16 = true := by decide +kernel
theorem zck_17 : (zcs.getD 17 []).all (fun e => zOK 17 e.1 e.2.1 e.2.2) = true := by decide +kernel
theorem zcm_17 : zMok 17 = true := by decide +kernel
theorem zck_18 : (zcs.getD 18 []).all (fun e => zOK 18 e.1 e.2.1 e.2.2) = true := by decide +kernel
theorem zcm_18 : zMok 18 = true := by decide +kernel
theorem zck_19 : (zcs.getD 19 []).all (fun e => zOK 19 e.1 e.2.1 e.2.2) = true := by decide +kernel
theorem zcm_19 : zMok 19 = true := by decide +kernel
theorem zck_20 : (zcs.getD 20 []).all (fun e => zOK 20 e.1 e.2.1 e.2.2) = true := by decide +kernel
theorem zcm_20 : zMok 20 = true := by decide +kernel
theorem zck_21 : (zcs.getD 21 []).all (fun e => zOK 21 e.1 e.2.1 e.2.2) = true := by decide +kernel
theorem zcm_21 : zMok 21 = true := by decide +kernel
theorem zck_22 : (zcs.getD 22 []).all (fun e => zOK 22 e.1 e.2.1 e.2.2) = true := by decide +kernel
theorem zcm_22 : zMok 22 = true := by decide +kernel
theorem zck_23 : (zcs.getD 23 []).all (fun e => zOK 23 e.1 e.2.1 e.2.2) = true := by decide +kernel
theorem zcm_23 : zMok 23 = true := by decide +kernel
theorem zck_24_0 : ((zcs.getD 24 []).take 50).all (fun e => zOK 24 e.1 e.2.1 e.2.2) = true := by decide +kernel
theorem zck_24_1 : ((zcs.getD 24 []).drop 50).all (fun e => zOK 24 e.1 e.2.1 e.2.2) = true := by decide +kernel
theorem zck_24 : (zcs.getD 24 []).all (fun e => zOK 24 e.1 e.2.1 e.2.2) = true := (zck_cut 50 zck_24_0 zck_24_1)
theorem zcm_24 : zMok 24 = true := by decide +kernel
theorem zck_25 : (zcs.getD 25 []).all (fun e => zOK 25 e.1 e.2.1 e.2.2) = true := by decide +kernel
theorem zcm_25 : zMok 25 = true := by decide +kernel
theorem zck_26 : (zcs.getD 26 []).all (fun e => zOK 26 e.1 e.2.1 e.2.2) = true := by decide +kernel
theorem zcm_26 : zMok 26 = true := by decide +kernel
theorem zck_27 : (zcs.getD 27 []).all (fun e => zOK 27 e.1 e.2.1 e.2.2) = true := by decide +kernel
theorem zcm_27 : zMok 27 = true := by decide +kernel
theorem zck_28 : (zcs.getD 28 []).all (fun e => zOK 28 e.1 e.2.1 e.2.2) = true := by decide +kernel
theorem zcm_28 : zMok 28 = true := by decide +kernel
theorem zck_29 : (zcs.getD 29 []).all (fun e => zOK 29 e.1 e.2.1 e.2.2) = true := by decide +kernel
theorem zcm_29 : zMok 29 = true := by decide +kernel
theorem zck_30 : (zcs.getD 30 []).all (fun e => zOK 30 e.1 e.2.1 e.2.2) = true := by decide +kernel
theorem zcm_30 : zMok 30 = true := by decide +kernel
theorem zck_31 : (zcs.getD 31 []).all (fun e => zOK 31 e.1 e.2.1 e.2.2) = true := by decide +kernel
theorem zcm_31 : zMok 31 = true := by decide +kernel
theorem zck_32 : (zcs.getD 32 []).all (fun e => zOK 32 e.1 e.2.1 e.2.2) = true := by decide +kernel
theorem zcm_32 : zMok 32 = true := by decide +kernel
theorem zck_33 : (zcs.getD 33 []).all (fun e => zOK 33 e.1 e.2.1 e.2.2) = true := by decide +kernel
theorem zcm_33 : zMok 33 = true := by decide +kernel
theorem zck_34 : (zcs.getD 34 []).all (fun e => zOK 34 e.1 e.2.1 e.2.2) = true := by decide +kernel
theorem zcm_34 : zMok 34 = true := by decide +kernel
theorem zck_35 : (zcs.getD 35 []).all (fun e => zOK 35 e.1 e.2.1 e.2.2) = true := by decide +kernel
theorem zcm_35 : zMok 35 = true := by decide +kernel
theorem zck_36 : (zcs.getD 36 []).all (fun e => zOK 36 e.1 e.2.1 e.2.2) = true := by decide +kernel
theorem zcm_36 : zMok 36 = true := by decide +kernel
theorem zck_37 : (zcs.getD 37 []).all (fun e => zOK 37 e.1 e.2.1 e.2.2) = true := by decide +kernel
theorem zcm_37 : zMok 37 = true := by decide +kernel
theorem zck_38 : (zcs.getD 38 []).all (fun e => zOK 38 e.1 e.2.1 e.2.2) = true := by decide +kernel
theorem zcm_38 : zMok 38 = true := by decide +kernel
theorem zck_39 : (zcs.getD 39 []).all (fun e => zOK 39 e.1 e.2.1 e.2.2) = true := by decide +kernel
theorem zcm_39 : zMok 39 = true := by decide +kernel
theorem zck_40 : (zcs.getD 40 []).all (fun e => zOK 40 e.1 e.2.1 e.2.2) = true := by decide +kernel
theorem zcm_40 : zMok 40 = true := by decide +kernel
theorem zck_41 : (zcs.getD 41 []).all (fun e => zOK 41 e.1 e.2.1 e.2.2) = true := by decide +kernel
theorem zcm_41 : zMok 41 = true := by decide +kernel
end
section
theorem zck_42 : (zcs.getD 42 []).all (fun e => zOK 42 e.1 e.2.1 e.2.2) = true := by decide +kernel
theorem zcm_42 : zMok 42 = true := by decide +kernel
theorem zck_43 : (zcs.getD 43 []).all (fun e => zOK 43 e.1 e.2.1 e.2.2) = true := by decide +kernel
theorem zcm_43 : zMok 43 = true := by decide +kernel
theorem zck_44 : (zcs.getD 44 []).all (fun e => zOK 44 e.1 e.2.1 e.2.2) = true := by decide +kernel
theorem zcm_44 : zMok 44 = true := by decide +kernel
theorem zck_45_0 : ((zcs.getD 45 []).take 50).all (fun e => zOK 45 e.1 e.2.1 e.2.2) = true := by decide +kernel
theorem zck_45_1 : (((zcs.getD 45 []).drop 50).take 50).all (fun e => zOK 45 e.1 e.2.1 e.2.2) = true := by decide +kernel
theorem zck_45_2 : ((zcs.getD 45 []).drop 100).all (fun e => zOK 45 e.1 e.2.1 e.2.2) = true := by decide +kernel
theorem zck_45 : (zcs.getD 45 []).all (fun e => zOK 45 e.1 e.2.1 e.2.2) = true := (zck_cut 50 zck_45_0 (zck_cut 50 zck_45_1 (by rw [List.drop_drop]; exact zck_45_2)))
theorem zcm_45 : zMok 45 = true := by decide +kernel
theorem zck_46_0 : ((zcs.getD 46 []).take 50).all (fun e => zOK 46 e.1 e.2.1 e.2.2) = true := by decide +kernel
theorem zck_46_1 : ((zcs.getD 46 []).drop 50).all (fun e => zOK 46 e.1 e.2.1 e.2.2) = true := by decide +kernel
theorem zck_46 : (zcs.getD 46 []).all (fun e => zOK 46 e.1 e.2.1 e.2.2) = true := (zck_cut 50 zck_46_0 zck_46_1)
theorem zcm_46 : zMok 46 = true := by decide +kernel
theorem zck_47 : (zcs.getD 47 []).all (fun e => zOK 47 e.1 e.2.1 e.2.2) = true := by decide +kernel
theorem zcm_47 : zMok 47 = true := by decide +kernel
theorem zck_48 : (zcs.getD 48 []).all (fun e => zOK 48 e.1 e.2.1 e.2.2) = true := by decide +kernel
theorem zcm_48 : zMok 48 = true := by decide +kernel
theorem zck_49 : (zcs.getD 49 []).all (fun e => zOK 49 e.1 e.2.1 e.2.2) = true := by decide +kernel
theorem zcm_49 : zMok 49 = true := by decide +kernel
theorem zck_50 : (zcs.getD 50 []).all (fun e => zOK 50 e.1 e.2.1 e.2.2) = true := by decide +kernel
theorem zcm_50 : zMok 50 = true := by decide +kernel
theorem zck_51 : (zcs.getD 51 []).all (fun e => zOK 51 e.1 e.2.1 e.2.2) = true := by decide +kernel
theorem zcm_51 : zMok 51 = true := by decide +kernel
theorem zck_52 : (zcs.getD 52 []).all (fun e => zOK 52 e.1 e.2.1 e.2.2) = true := by decide +kernel
theorem zcm_52 : zMok 52 = true := by decide +kernel
theorem zck_53 : (zcs.getD 53 []).all (fun e => zOK 53 e.1 e.2.1 e.2.2) = true := by decide +kernel
theorem zcm_53 : zMok 53 = true := by decide +kernel
theorem zck_54 : (zcs.getD 54 []).all (fun e => zOK 54 e.1 e.2.1 e.2.2) = true := by decide +kernel
theorem zcm_54 : zMok 54 = true := by decide +kernel
theorem zck_55_0 : ((zcs.getD 55 []).take 50).all (fun e => zOK 55 e.1 e.2.1 e.2.2) = true := by decide +kernel
theorem zck_55_1 : (((zcs.getD 55 []).drop 50).take 50).all (fun e => zOK 55 e.1 e.2.1 e.2.2) = true := by decide +kernel
theorem zck_55_2 : ((zcs.getD 55 []).drop 100).all (fun e => zOK 55 e.1 e.2.1 e.2.2) = true := by decide +kernel
theorem zck_55 : (zcs.getD 55 []).all (fun e => zOK 55 e.1 e.2.1 e.2.2) = true := (zck_cut 50 zck_55_0 (zck_cut 50 zck_55_1 (by rw [List.drop_drop]; exact zck_55_2)))
theorem zcm_55 : zMok 55 = true := by decide +kernel
theorem zck_56 : (zcs.getD 56 []).all (fun e => zOK 56 e.1 e.2.1 e.2.2) = true := by decide +kernel
theorem zcm_56 : zMok 56 = true := by decide +kernel
theorem zck_57 : (zcs.getD 57 []).all (fun e => zOK 57 e.1 e.2.1 e.2.2) = true := by decide +kernel
theorem zcm_57 : zMok 57 = true := by decide +kernel
theorem zck_58_0 : ((zcs.getD 58 []).take 50).all (fun e => zOK 58 e.1 e.2.1 e.2.2) = true := by decide +kernel
theorem zck_58_1 : ((zcs.getD 58 []).drop 50).all (fun e => zOK 58 e.1 e.2.1 e.2.2) = true := by decide +kernel
theorem zck_58 : (zcs.getD 58 []).all (fun e => zOK 58 e.1 e.2.1 e.2.2) = true := (zck_cut 50 zck_58_0 zck_58_1)
theorem zcm_58 : zMok 58 = true := by decide +kernel
theorem zck_59 : (zcs.getD 59 []).all (fun e => zOK 59 e.1 e.2.1 e.2.2) = true := by decide +kernel
theorem zcm_59 : zMok 59 = true := by decide +kernel
end
section
theorem zck_60 : (zcs.getD 60 []).all (fun e => zOK 60 e.1 e.2.1 e.2.2) = true := by decide +kernel
theorem zcm_60 : zMok 60 = true := by decide +kernel
theorem zck_61 : (zcs.getD 61 []).all (fun e => zOK 61 e.1 e.2.1 e.2.2) = true := by decide +kernel
theorem zcm_61 : zMok 61 = true := by decide +kernel
theorem zck_62 : (zcs.getD 62 []).all (fun e => zOK 62 e.1 e.2.1 e.2.2) = true := by decide +kernel
theorem zcm_62 : zMok 62 = true := by decide +kernel
theorem zck_63 : (zcs.getD 63 []).all (fun e => zOK 63 e.1 e.2.1 e.2.2) = true := by decide +kernel
theorem zcm_63 : zMok 63 = true := by decide +kernel
theorem zck_64 : (zcs.getD 64 []).all (fun e => zOK 64 e.1 e.2.1 e.2.2) = true := by decide +kernel
theorem zcm_64 : zMok 64 = true := by decide +kernel
theorem zck_65 : (zcs.getD 65 []).all (fun e => zOK 65 e.1 e.2.1 e.2.2) = true := by decide +kernel
theorem zcm_65 : zMok 65 = true := by decide +kernel
theorem zck_66 : (zcs.getD 66 []).all (fun e => zOK 66 e.1 e.2.1 e.2.2) = true := by decide +kernel
theorem zcm_66 : zMok 66 = true := by decide +kernel
theorem zck_67 : (zcs.getD 67 []).all (fun e => zOK 67 e.1 e.2.1 e.2.2) = true := by decide +kernel
theorem zcm_67 : zMok 67 = true := by decide +kernel
theorem zck_68 : (zcs.getD 68 []).all (fun e => zOK 68 e.1 e.2.1 e.2.2) = true := by decide +kernel
theorem zcm_68 : zMok 68 = true := by decide +kernel
theorem zck_69 : (zcs.getD 69 []).all (fun e => zOK 69 e.1 e.2.1 e.2.2) = true := by decide +kernel
theorem zcm_69 : zMok 69 = true := by decide +kernel
theorem zck_70 : (zcs.getD 70 []).all (fun e => zOK 70 e.1 e.2.1 e.2.2) = true := by decide +kernel
theorem zcm_70 : zMok 70 = true := by decide +kernel
theorem zck_71 : (zcs.getD 71 []).all (fun e => zOK 71 e.1 e.2.1 e.2.2) = true := by decide +kernel
theorem zcm_71 : zMok 71 = true := by decide +kernel
theorem zck_72 : (zcs.getD 72 []).all (fun e => zOK 72 e.1 e.2.1 e.2.2) = true := by decide +kernel
theorem zcm_72 : zMok 72 = true := by decide +kernel
theorem zck_73 : (zcs.getD 73 []).all (fun e => zOK 73 e.1 e.2.1 e.2.2) = true := by decide +kernel
theorem zcm_73 : zMok 73 = true := by decide +kernel
theorem zck_74 : (zcs.getD 74 []).all (fun e => zOK 74 e.1 e.2.1 e.2.2) = true := by decide +kernel
theorem zcm_74 : zMok 74 = true := by decide +kernel
theorem zck_75 : (zcs.getD 75 []).all (fun e => zOK 75 e.1 e.2.1 e.2.2) = true := by decide +kernel
theorem zcm_75 : zMok 75 = true := by decide +kernel
theorem zck_76 : (zcs.getD 76 []).all (fun e => zOK 76 e.1 e.2.1 e.2.2) = true := by decide +kernel
theorem zcm_76 : zMok 76 = true := by decide +kernel
theorem zck_77 : (zcs.getD 77 []).all (fun e => zOK 77 e.1 e.2.1 e.2.2) = true := by decide +kernel
theorem zcm_77 : zMok 77 = true := by decide +kernel
theorem zck_78 : (zcs.getD 78 []).all (fun e => zOK 78 e.1 e.2.1 e.2.2) = true := by decide +kernel
theorem zcm_78 : zMok 78 = true := by decide +kernel
theorem zck_79 : (zcs.getD 79 []).all (fun e => zOK 79 e.1 e.2.1 e.2.2) = true := by decide +kernel
theorem zcm_79 : zMok 79 = true := by decide +kernel
theorem zck_80 : (zcs.getD 80 []).all (fun e => zOK 80 e.1 e.2.1 e.2.2) = true := by decide +kernel
theorem zcm_80 : zMok 80 = true := by decide +kernel
theorem zck_81 : (zcs.getD 81 []).all (fun e => zOK 81 e.1 e.2.1 e.2.2) = true := by decide +kernel
theorem zcm_81 : zMok 81 = true := by decide +kernel
theorem zck_82 : (zcs.getD 82 []).all (fun e => zOK 82 e.1 e.2.1 e.2.2) = true := by decide +kernel
theorem zcm_82 : zMok 82 = true := by decide +kernel
theorem zck_83 : (zcs.getD 83 []).all (fun e => zOK 83 e.1 e.2.1 e.2.2) = true := by decide +kernel
theorem zcm_83 : zMok 83 = true := by decide +kernel
theorem zck_84 : (zcs.getD 84 []).all (fun e => zOK 84 e.1 e.2.1 e.2.2) = true := by decide +kernel
theorem zcm_84 : zMok 84 = true := by decide +kernel
theorem zck_85 : (zcs.getD 85 []).all (fun e => zOK 85 e.1 e.2.1 e.2.2) = true := by decide +kernel
theorem zcm_85 : zMok 85 = true := by decide +kernel
end
section
theorem zck_86 : (zcs.getD 86 []).all (fun e => zOK 86 e.1 e.2.1 e.2.2) = true := by decide +kernel
theorem zcm_86 : zMok 86 = true := by decide +kernel
theorem zck_87 : (zcs.getD 87 []).all (fun e => zOK 87 e.1 e.2.1 e.2.2) = true := by decide +kernel
theorem zcm_87 : zMok 87 = true := by decide +kernel
theorem zck_88 : (zcs.getD 88 []).all (fun e => zOK 88 e.1 e.2.1 e.2.2) = true := by decide +kernel
theorem zcm_88 : zMok 88 = true := by decide +kernel
theorem zck_89 : (zcs.getD 89 []).all (fun e => zOK 89 e.1 e.2.1 e.2.2) = true := by decide +kernel
theorem zcm_89 : zMok 89 = true := by decide +kernel
theorem zck_90 : (zcs.getD 90 []).all (fun e => zOK 90 e.1 e.2.1 e.2.2) = true := by decide +kernel
theorem zcm_90 : zMok 90 = true := by decide +kernel
theorem zck_91 : (zcs.getD 91 []).all (fun e => zOK 91 e.1 e.2.1 e.2.2) = true := by decide +kernel
theorem zcm_91 : zMok 91 = true := by decide +kernel
theorem zck_92 : (zcs.getD 92 []).all (fun e => zOK 92 e.1 e.2.1 e.2.2) = true := by decide +kernel
theorem zcm_92 : zMok 92 = true := by decide +kernel
theorem zck_93 : (zcs.getD 93 []).all (fun e => zOK 93 e.1 e.2.1 e.2.2) = true := by decide +kernel
theorem zcm_93 : zMok 93 = true := by decide +kernel
theorem zck_94 : (zcs.getD 94 []).all (fun e => zOK 94 e.1 e.2.1 e.2.2) = true := by decide +kernel
theorem zcm_94 : zMok 94 = true := by decide +kernel
theorem zck_95_0 : ((zcs.getD 95 []).take 50).all (fun e => zOK 95 e.1 e.2.1 e.2.2) = true := by decide +kernel
theorem zck_95_1 : ((zcs.getD 95 []).drop 50).all (fun e => zOK 95 e.1 e.2.1 e.2.2) = true := by decide +kernel
theorem zck_95 : (zcs.getD 95 []).all (fun e => zOK 95 e.1 e.2.1 e.2.2) = true := (zck_cut 50 zck_95_0 zck_95_1)
theorem zcm_95 : zMok 95 = true := by decide +kernel
theorem zck_96 : (zcs.getD 96 []).all (fun e => zOK 96 e.1 e.2.1 e.2.2) = true := by decide +kernel
theorem zcm_96 : zMok 96 = true := by decide +kernel
theorem zck_97 : (zcs.getD 97 []).all (fun e => zOK 97 e.1 e.2.1 e.2.2) = true := by decide +kernel
theorem zcm_97 : zMok 97 = true := by decide +kernel
theorem zck_98 : (zcs.getD 98 []).all (fun e => zOK 98 e.1 e.2.1 e.2.2) = true := by decide +kernel
theorem zcm_98 : zMok 98 = true := by decide +kernel
theorem zck_99 : (zcs.getD 99 []).all (fun e => zOK 99 e.1 e.2.1 e.2.2) = true := by decide +kernel
theorem zcm_99 : zMok 99 = true := by decide +kernel
theorem zck_100 : (zcs.getD 100 []).all (fun e => zOK 100 e.1 e.2.1 e.2.2) = true := by decide +kernel
theorem zcm_100 : zMok 100 = true := by decide +kernel
theorem zck_101 : (zcs.getD 101 []).all (fun e => zOK 101 e.1 e.2.1 e.2.2) = true := by decide +kernel
theorem zcm_101 : zMok 101 = true := by decide +kernel
theorem zck_102 : (zcs.getD 102 []).all (fun e => zOK 102 e.1 e.2.1 e.2.2) = true := by decide +kernel
theorem zcm_102 : zMok 102 = true := by decide +kernel
theorem zck_103 : (zcs.getD 103 []).all (fun e => zOK 103 e.1 e.2.1 e.2.2) = true := by decide +kernel
theorem zcm_103 : zMok 103 = true := by decide +kernel
theorem zck_104 : (zcs.getD 104 []).all (fun e => zOK 104 e.1 e.2.1 e.2.2) = true := by decide +kernel
theorem zcm_104 : zMok 104 = true := by decide +kernel
theorem zck_105 : (zcs.getD 105 []).all (fun e => zOK 105 e.1 e.2.1 e.2.2) = true := by decide +kernel
theorem zcm_105 : zMok 105 = true := by decide +kernel
theorem zck_106_0 : ((zcs.getD 106 []).take 50).all (fun e => zOK 106 e.1 e.2.1 e.2.2) = true := by decide +kernel
theorem zck_106_1 : ((zcs.getD 106 []).drop 50).all (fun e => zOK 106 e.1 e.2.1 e.2.2) = true := by decide +kernel
theorem zck_106 : (zcs.getD 106 []).all (fun e => zOK 106 e.1 e.2.1 e.2.2) = true := (zck_cut 50 zck_106_0 zck_106_1)
theorem zcm_106 : zMok 106 = true := by decide +kernel
theorem zck_107 : (zcs.getD 107 []).all (fun e => zOK 107 e.1 e.2.1 e.2.2) = true := by decide +kernel
theorem zcm_107 : zMok 107 = true := by decide +kernel
theorem zck_108 : (zcs.getD 108 []).all (fun e => zOK 108 e.1 e.2.1 e.2.2) = true := by decide +kernel
theorem zcm_108 : zMok 108 = true := by decide +kernel
theorem zck_109 : (zcs.getD 109 []).all (fun e => zOK 109 e.1 e.2.1 e.2.2) = true := by decide +kernel
theorem zcm_109 : zMok 109 = true := by decide +kernel
theorem zck_110 : (zcs.getD 110 []).all (fun e => zOK 110 e.1 e.2.1 e.2.2) = true := by decide +kernel
theorem zcm_110 : zMok 110 = true := by decide +kernel
end
section
theorem zck_111 : (zcs.getD 111 []).all (fun e => zOK 111 e.1 e.2.1 e.2.2) = true := by decide +kernel
theorem zcm_111 : zMok 111 = true := by decide +kernel
theorem zck_112 : (zcs.getD 112 []).all (fun e => zOK 112 e.1 e.2.1 e.2.2) = true := by decide +kernel
theorem zcm_112 : zMok 112 = true := by decide +kernel
theorem zck_113 : (zcs.getD 113 []).all (fun e => zOK 113 e.1 e.2.1 e.2.2) = true := by decide +kernel
theorem zcm_113 : zMok 113 = true := by decide +kernel
theorem zck_114 : (zcs.getD 114 []).all (fun e => zOK 114 e.1 e.2.1 e.2.2) = true := by decide +kernel
theorem zcm_114 : zMok 114 = true := by decide +kernel
theorem zck_115 : (zcs.getD 115 []).all (fun e => zOK 115 e.1 e.2.1 e.2.2) = true := by decide +kernel
theorem zcm_115 : zMok 115 = true := by decide +kernel
theorem zck_116 : (zcs.getD 116 []).all (fun e => zOK 116 e.1 e.2.1 e.2.2) = true := by decide +kernel
theorem zcm_116 : zMok 116 = true := by decide +kernel
theorem zck_117 : (zcs.getD 117 []).all (fun e => zOK 117 e.1 e.2.1 e.2.2) = true := by decide +kernel
theorem zcm_117 : zMok 117 = true := by decide +kernel
theorem zck_118 : (zcs.getD 118 []).all (fun e => zOK 118 e.1 e.2.1 e.2.2) = true := by decide +kernel
theorem zcm_118 : zMok 118 = true := by decide +kernel
theorem zck_119 : (zcs.getD 119 []).all (fun e => zOK 119 e.1 e.2.1 e.2.2) = true := by decide +kernel
theorem zcm_119 : zMok 119 = true := by decide +kernel
theorem zck_120 : (zcs.getD 120 []).all (fun e => zOK 120 e.1 e.2.1 e.2.2) = true := by decide +kernel
theorem zcm_120 : zMok 120 = true := by decide +kernel
theorem zck_121 : (zcs.getD 121 []).all (fun e => zOK 121 e.1 e.2.1 e.2.2) = true := by decide +kernel
theorem zcm_121 : zMok 121 = true := by decide +kernel
theorem zck_122 : (zcs.getD 122 []).all (fun e => zOK 122 e.1 e.2.1 e.2.2) = true := by decide +kernel
theorem zcm_122 : zMok 122 = true := by decide +kernel
theorem zck_123 : (zcs.getD 123 []).all (fun e => zOK 123 e.1 e.2.1 e.2.2) = true := by decide +kernel
theorem zcm_123 : zMok 123 = true := by decide +kernel
theorem zck_124 : (zcs.getD 124 []).all (fun e => zOK 124 e.1 e.2.1 e.2.2) = true := by decide +kernel
theorem zcm_124 : zMok 124 = true := by decide +kernel
theorem zck_125 : (zcs.getD 125 []).all (fun e => zOK 125 e.1 e.2.1 e.2.2) = true := by decide +kernel
theorem zcm_125 : zMok 125 = true := by decide +kernel
theorem zck_126 : (zcs.getD 126 []).all (fun e => zOK 126 e.1 e.2.1 e.2.2) = true := by decide +kernel
theorem zcm_126 : zMok 126 = true := by decide +kernel
theorem zck_127 : (zcs.getD 127 []).all (fun e => zOK 127 e.1 e.2.1 e.2.2) = true := by decide +kernel
theorem zcm_127 : zMok 127 = true := by decide +kernel
theorem zck_128 : (zcs.getD 128 []).all (fun e => zOK 128 e.1 e.2.1 e.2.2) = true := by decide +kernel
theorem zcm_128 : zMok 128 = true := by decide +kernel
theorem zck_129_0 : ((zcs.getD 129 []).take 50).all (fun e => zOK 129 e.1 e.2.1 e.2.2) = true := by decide +kernel
theorem zck_129_1 : ((zcs.getD 129 []).drop 50).all (fun e => zOK 129 e.1 e.2.1 e.2.2) = true := by decide +kernel
theorem zck_129 : (zcs.getD 129 []).all (fun e => zOK 129 e.1 e.2.1 e.2.2) = true := (zck_cut 50 zck_129_0 zck_129_1)
theorem zcm_129 : zMok 129 = true := by decide +kernel
theorem zck_130_0 : ((zcs.getD 130 []).take 50).all (fun e => zOK 130 e.1 e.2.1 e.2.2) = true := by decide +kernel
theorem zck_130_1 : ((zcs.getD 130 []).drop 50).all (fun e => zOK 130 e.1 e.2.1 e.2.2) = true := by decide +kernel
theorem zck_130 : (zcs.getD 130 []).all (fun e => zOK 130 e.1 e.2.1 e.2.2) = true := (zck_cut 50 zck_130_0 zck_130_1)
theorem zcm_130 : zMok 130 = true := by decide +kernel
theorem zck_131 : (zcs.getD 131 []).all (fun e => zOK 131 e.1 e.2.1 e.2.2) = true := by decide +kernel
theorem zcm_131 : zMok 131 = true := by decide +kernel
theorem zck_132 : (zcs.getD 132 []).all (fun e => zOK 132 e.1 e.2.1 e.2.2) = true := by decide +kernel
theorem zcm_132 : zMok 132 = true := by decide +kernel
end
section
theorem zck_133 : (zcs.getD 133 []).all (fun e => zOK 133 e.1 e.2.1 e.2.2) = true := by decide +kernel
theorem zcm_133 : zMok 133 = true := by decide +kernel
theorem zck_134 : (zcs.getD 134 []).all (fun e => zOK 134 e.1 e.2.1 e.2.2) = true := by decide +kernel
theorem zcm_134 : zMok 134 = true := by decide +kernel
theorem zck_135 : (zcs.getD 135 []).all (fun e => zOK 135 e.1 e.2.1 e.2.2) = true := by decide +kernel
theorem zcm_135 : zMok 135 = true := by decide +kernel
theorem zck_136 : (zcs.getD 136 []).all (fun e => zOK 136 e.1 e.2.1 e.2.2) = true := by decide +kernel
theorem zcm_136 : zMok 136 = true := by decide +kernel
theorem zck_137 : (zcs.getD 137 []).all (fun e => zOK 137 e.1 e.2.1 e.2.2) = true := by decide +kernel
theorem zcm_137 : zMok 137 = true := by decide +kernel
theorem zck_138 : (zcs.getD 138 []).all (fun e => zOK 138 e.1 e.2.1 e.2.2) = true := by decide +kernel
theorem zcm_138 : zMok 138 = true := by decide +kernel
theorem zck_139 : (zcs.getD 139 []).all (fun e => zOK 139 e.1 e.2.1 e.2.2) = true := by decide +kernel
theorem zcm_139 : zMok 139 = true := by decide +kernel
theorem zck_140 : (zcs.getD 140 []).all (fun e => zOK 140 e.1 e.2.1 e.2.2) = true := by decide +kernel
theorem zcm_140 : zMok 140 = true := by decide +kernel
theorem zck_141 : (zcs.getD 141 []).all (fun e => zOK 141 e.1 e.2.1 e.2.2) = true := by decide +kernel
theorem zcm_141 : zMok 141 = true := by decide +kernel
theorem zck_142 : (zcs.getD 142 []).all (fun e => zOK 142 e.1 e.2.1 e.2.2) = true := by decide +kernel
theorem zcm_142 : zMok 142 = true := by decide +kernel
theorem zck_143 : (zcs.getD 143 []).all (fun e => zOK 143 e.1 e.2.1 e.2.2) = true := by decide +kernel
theorem zcm_143 : zMok 143 = true := by decide +kernel
theorem zck_144 : (zcs.getD 144 []).all (fun e => zOK 144 e.1 e.2.1 e.2.2) = true := by decide +kernel
theorem zcm_144 : zMok 144 = true := by decide +kernel
theorem zck_145 : (zcs.getD 145 []).all (fun e => zOK 145 e.1 e.2.1 e.2.2) = true := by decide +kernel
theorem zcm_145 : zMok 145 = true := by decide +kernel
theorem zck_146 : (zcs.getD 146 []).all (fun e => zOK 146 e.1 e.2.1 e.2.2) = true := by decide +kernel
theorem zcm_146 : zMok 146 = true := by decide +kernel
theorem zck_147 : (zcs.getD 147 []).all (fun e => zOK 147 e.1 e.2.1 e.2.2) = true := by decide +kernel
theorem zcm_147 : zMok 147 = true := by decide +kernel
theorem zck_148 : (zcs.getD 148 []).all (fun e => zOK 148 e.1 e.2.1 e.2.2) = true := by decide +kernel
theorem zcm_148 : zMok 148 = true := by decide +kernel
theorem zck_149 : (zcs.getD 149 []).all (fun e => zOK 149 e.1 e.2.1 e.2.2) = true := by decide +kernel
theorem zcm_149 : zMok 149 = true := by decide +kernel
theorem zck_150 : (zcs.getD 150 []).all (fun e => zOK 150 e.1 e.2.1 e.2.2) = true := by decide +kernel
theorem zcm_150 : zMok 150 = true := by decide +kernel
theorem zck_151 : (zcs.getD 151 []).all (fun e => zOK 151 e.1 e.2.1 e.2.2) = true := by decide +kernel
theorem zcm_151 : zMok 151 = true := by decide +kernel
theorem zck_152 : (zcs.getD 152 []).all (fun e => zOK 152 e.1 e.2.1 e.2.2) = true := by decide +kernel
theorem zcm_152 : zMok 152 = true := by decide +kernel
theorem zck_153 : (zcs.getD 153 []).all (fun e => zOK 153 e.1 e.2.1 e.2.2) = true := by decide +kernel
theorem zcm_153 : zMok 153 = true := by decide +kernel
theorem zck_154 : (zcs.getD 154 []).all (fun e => zOK 154 e.1 e.2.1 e.2.2) = true := by decide +kernel
theorem zcm_154 : zMok 154 = true := by decide +kernel
theorem zck_155 : (zcs.getD 155 []).all (fun e => zOK 155 e.1 e.2.1 e.2.2) = true := by decide +kernel
theorem zcm_155 : zMok 155 = true := by decide +kernel
end
section
theorem zck_156_0 : ((zcs.getD 156 []).take 50).all (fun e => zOK 156 e.1 e.2.1 e.2.2) = true := by decide +kernel
theorem zck_156_1 : (((zcs.getD 156 []).drop 50).take 50).all (fun e => zOK 156 e.1 e.2.1 e.2.2) = true := by decide +kernel
theorem zck_156_2 : (((zcs.getD 156 []).drop 100).take 50).all (fun e => zOK 156 e.1 e.2.1 e.2.2) = true := by decide +kernel
theorem zck_156_3 : (((zcs.getD 156 []).drop 150).take 50).all (fun e => zOK 156 e.1 e.2.1 e.2.2) = true := by decide +kernel
theorem zck_156_4 : ((zcs.getD 156 []).drop 200).all (fun e => zOK 156 e.1 e.2.1 e.2.2) = true := by decide +kernel
theorem zck_156 : (zcs.getD 156 []).all (fun e => zOK 156 e.1 e.2.1 e.2.2) = true := (zck_cut 50 zck_156_0 (zck_cut 50 zck_156_1 (by rw [List.drop_drop]; exact (zck_cut 50 zck_156_2 (by rw [List.drop_drop]; exact (zck_cut 50 zck_156_3 (by rw [List.drop_drop]; exact zck_156_4)))))))
theorem zcm_156 : zMok 156 = true := by decide +kernel
end
section
theorem zck_all : ∀ y, y < znm → (zcs.getD y []).all (fun e => zOK y e.1 e.2.1 e.2.2) = true := by
  intro y hy
  match y, hy with
  | 0, _ => exact zck_0
  | 1, _ => exact zck_1
  | 2, _ => exact zck_2
  | 3, _ => exact zck_3
  | 4, _ => exact zck_4
  | 5, _ => exact zck_5
  | 6, _ => exact zck_6
  | 7, _ => exact zck_7
  | 8, _ => exact zck_8
  | 9, _ => exact zck_9
  | 10, _ => exact zck_10
  | 11, _ => exact zck_11
  | 12, _ => exact zck_12
  | 13, _ => exact zck_13
  | 14, _ => exact zck_14
  | 15, _ => exact zck_15
  | 16, _ => exact zck_16
  | 17, _ => exact zck_17
  | 18, _ => exact zck_18
  | 19, _ => exact zck_19
  | 20, _ => exact zck_20
  | 21, _ => exact zck_21
  | 22, _ => exact zck_22
  | 23, _ => exact zck_23
  | 24, _ => exact zck_24
  | 25, _ => exact zck_25
  | 26, _ => exact zck_26
  | 27, _ => exact zck_27
  | 28, _ => exact zck_28
  | 29, _ => exact zck_29
  | 30, _ => exact zck_30
  | 31, _ => exact zck_31
  | 32, _ => exact zck_32
  | 33, _ => exact zck_33
  | 34, _ => exact zck_34
  | 35, _ => exact zck_35
  | 36, _ => exact zck_36
  | 37, _ => exact zck_37
  | 38, _ => exact zck_38
  | 39, _ => exact zck_39
  | 40, _ => exact zck_40
  | 41, _ => exact zck_41
  | 42, _ => exact zck_42
  | 43, _ => exact zck_43
  | 44, _ => exact zck_44
  | 45, _ => exact zck_45
  | 46, _ => exact zck_46
  | 47, _ => exact zck_47
  | 48, _ => exact zck_48
  | 49, _ => exact zck_49
  | 50, _ => exact zck_50
  | 51, _ => exact zck_51
  | 52, _ => exact zck_52
  | 53, _ => exact zck_53
  | 54, _ => exact zck_54
  | 55, _ => exact zck_55
  | 56, _ => exact zck_56
  | 57, _ => exact zck_57
  | 58, _ => exact zck_58
  | 59, _ => exact zck_59
  | 60, _ => exact zck_60
  | 61, _ => exact zck_61
  | 62, _ => exact zck_62
  | 63, _ => exact zck_63
  | 64, _ => exact zck_64
  | 65, _ => exact zck_65
  | 66, _ => exact zck_66
  | 67, _ => exact zck_67
  | 68, _ => exact zck_68
  | 69, _ => exact zck_69
  | 70, _ => exact zck_70
  | 71, _ => exact zck_71
  | 72, _ => exact zck_72
  | 73, _ => exact zck_73
  | 74, _ => exact zck_74
  | 75, _ => exact zck_75
  | 76, _ => exact zck_76
  | 77, _ => exact zck_77
  | 78, _ => exact zck_78
  | 79, _ => exact zck_79
  | 80, _ => exact zck_80
  | 81, _ => exact zck_81
  | 82, _ => exact zck_82
  | 83, _ => exact zck_83
  | 84, _ => exact zck_84
  | 85, _ => exact zck_85
  | 86, _ => exact zck_86
  | 87, _ => exact zck_87
  | 88, _ => exact zck_88
  | 89, _ => exact zck_89
  | 90, _ => exact zck_90
  | 91, _ => exact zck_91
  | 92, _ => exact zck_92
  | 93, _ => exact zck_93
  | 94, _ => exact zck_94
  | 95, _ => exact zck_95
  | 96, _ => exact zck_96
  | 97, _ => exact zck_97
  | 98, _ => exact zck_98
  | 99, _ => exact zck_99
  | 100, _ => exact zck_100
  | 101, _ => exact zck_101
  | 102, _ => exact zck_102
  | 103, _ => exact zck_103
  | 104, _ => exact zck_104
  | 105, _ => exact zck_105
  | 106, _ => exact zck_106
  | 107, _ => exact zck_107
  | 108, _ => exact zck_108
  | 109, _ => exact zck_109
  | 110, _ => exact zck_110
  | 111, _ => exact zck_111
  | 112, _ => exact zck_112
  | 113, _ => exact zck_113
  | 114, _ => exact zck_114
  | 115, _ => exact zck_115
  | 116, _ => exact zck_116
  | 117, _ => exact zck_117
  | 118, _ => exact zck_118
  | 119, _ => exact zck_119
  | 120, _ => exact zck_120
  | 121, _ => exact zck_121
  | 122, _ => exact zck_122
  | 123, _ => exact zck_123
  | 124, _ => exact zck_124
  | 125, _ => exact zck_125
  | 126, _ => exact zck_126
  | 127, _ => exact zck_127
  | 128, _ => exact zck_128
  | 129, _ => exact zck_129
  | 130, _ => exact zck_130
  | 131, _ => exact zck_131
  | 132, _ => exact zck_132
  | 133, _ => exact zck_133
  | 134, _ => exact zck_134
  | 135, _ => exact zck_135
  | 136, _ => exact zck_136
  | 137, _ => exact zck_137
  | 138, _ => exact zck_138
  | 139, _ => exact zck_139
  | 140, _ => exact zck_140
  | 141, _ => exact zck_141
  | 142, _ => exact zck_142
  | 143, _ => exact zck_143
  | 144, _ => exact zck_144
  | 145, _ => exact zck_145
  | 146, _ => exact zck_146
  | 147, _ => exact zck_147
  | 148, _ => exact zck_148
  | 149, _ => exact zck_149
  | 150, _ => exact zck_150
  | 151, _ => exact zck_151
  | 152, _ => exact zck_152
  | 153, _ => exact zck_153
  | 154, _ => exact zck_154
  | 155, _ => exact zck_155
  | 156, _ => exact zck_156
  | k + 157, hy => exact absurd hy (by unfold znm; omega)
theorem zcm_all : ∀ y, y < znm → zMok y = true := by
  intro y hy
  match y, hy with
  | 0, _ => exact zcm_0
  | 1, _ => exact zcm_1
  | 2, _ => exact zcm_2
  | 3, _ => exact zcm_3
  | 4, _ => exact zcm_4
  | 5, _ => exact zcm_5
  | 6, _ => exact zcm_6
  | 7, _ => exact zcm_7
  | 8, _ => exact zcm_8
  | 9, _ => exact zcm_9
  | 10, _ => exact zcm_10
  | 11, _ => exact zcm_11
  | 12, _ => exact zcm_12
  | 13, _ => exact zcm_13
  | 14, _ => exact zcm_14
  | 15, _ => exact zcm_15
  | 16, _ => exact zcm_16
  | 17, _ => exact zcm_17
  | 18, _ => exact zcm_18
  | 19, _ => exact zcm_19
  | 20, _ => exact zcm_20
  | 21, _ => exact zcm_21
  | 22, _ => exact zcm_22
  | 23, _ => exact zcm_23
  | 24, _ => exact zcm_24
  | 25, _ => exact zcm_25
  | 26, _ => exact zcm_26
  | 27, _ => exact zcm_27
  | 28, _ => exact zcm_28
  | 29, _ => exact zcm_29
  | 30, _ => exact zcm_30
  | 31, _ => exact zcm_31
  | 32, _ => exact zcm_32
  | 33, _ => exact zcm_33
  | 34, _ => exact zcm_34
  | 35, _ => exact zcm_35
  | 36, _ => exact zcm_36
  | 37, _ => exact zcm_37
  | 38, _ => exact zcm_38
  | 39, _ => exact zcm_39
  | 40, _ => exact zcm_40
  | 41, _ => exact zcm_41
  | 42, _ => exact zcm_42
  | 43, _ => exact zcm_43
  | 44, _ => exact zcm_44
  | 45, _ => exact zcm_45
  | 46, _ => exact zcm_46
  | 47, _ => exact zcm_47
  | 48, _ => exact zcm_48
  | 49, _ => exact zcm_49
  | 50, _ => exact zcm_50
  | 51, _ => exact zcm_51
  | 52, _ => exact zcm_52
  | 53, _ => exact zcm_53
  | 54, _ => exact zcm_54
  | 55, _ => exact zcm_55
  | 56, _ => exact zcm_56
  | 57, _ => exact zcm_57
  | 58, _ => exact zcm_58
  | 59, _ => exact zcm_59
  | 60, _ => exact zcm_60
  | 61, _ => exact zcm_61
  | 62, _ => exact zcm_62
  | 63, _ => exact zcm_63
  | 64, _ => exact zcm_64
  | 65, _ => exact zcm_65
  | 66, _ => exact zcm_66
  | 67, _ => exact zcm_67
  | 68, _ => exact zcm_68
  | 69, _ => exact zcm_69
  | 70, _ => exact zcm_70
  | 71, _ => exact zcm_71
  | 72, _ => exact zcm_72
  | 73, _ => exact zcm_73
  | 74, _ => exact zcm_74
  | 75, _ => exact zcm_75
  | 76, _ => exact zcm_76
  | 77, _ => exact zcm_77
  | 78, _ => exact zcm_78
  | 79, _ => exact zcm_79
  | 80, _ => exact zcm_80
  | 81, _ => exact zcm_81
  | 82, _ => exact zcm_82
  | 83, _ => exact zcm_83
  | 84, _ => exact zcm_84
  | 85, _ => exact zcm_85
  | 86, _ => exact zcm_86
  | 87, _ => exact zcm_87
  | 88, _ => exact zcm_88
  | 89, _ => exact zcm_89
  | 90, _ => exact zcm_90
  | 91, _ => exact zcm_91
  | 92, _ => exact zcm_92
  | 93, _ => exact zcm_93
  | 94, _ => exact zcm_94
  | 95, _ => exact zcm_95
  | 96, _ => exact zcm_96
  | 97, _ => exact zcm_97
  | 98, _ => exact zcm_98
  | 99, _ => exact zcm_99
  | 100, _ => exact zcm_100
  | 101, _ => exact zcm_101
  | 102, _ => exact zcm_102
  | 103, _ => exact zcm_103
  | 104, _ => exact zcm_104
  | 105, _ => exact zcm_105
  | 106, _ => exact zcm_106
  | 107, _ => exact zcm_107
  | 108, _ => exact zcm_108
  | 109, _ => exact zcm_109
  | 110, _ => exact zcm_110
  | 111, _ => exact zcm_111
  | 112, _ => exact zcm_112
  | 113, _ => exact zcm_113
  | 114, _ => exact zcm_114
  | 115, _ => exact zcm_115
  | 116, _ => exact zcm_116
  | 117, _ => exact zcm_117
  | 118, _ => exact zcm_118
  | 119, _ => exact zcm_119
  | 120, _ => exact zcm_120
  | 121, _ => exact zcm_121
  | 122, _ => exact zcm_122
  | 123, _ => exact zcm_123
  | 124, _ => exact zcm_124
  | 125, _ => exact zcm_125
  | 126, _ => exact zcm_126
  | 127, _ => exact zcm_127
  | 128, _ => exact zcm_128
  | 129, _ => exact zcm_129
  | 130, _ => exact zcm_130
  | 131, _ => exact zcm_131
  | 132, _ => exact zcm_132
  | 133, _ => exact zcm_133
  | 134, _ => exact zcm_134
  | 135, _ => exact zcm_135
  | 136, _ => exact zcm_136
  | 137, _ => exact zcm_137
  | 138, _ => exact zcm_138
  | 139, _ => exact zcm_139
  | 140, _ => exact zcm_140
  | 141, _ => exact zcm_141
  | 142, _ => exact zcm_142
  | 143, _ => exact zcm_143
  | 144, _ => exact zcm_144
  | 145, _ => exact zcm_145
  | 146, _ => exact zcm_146
  | 147, _ => exact zcm_147
  | 148, _ => exact zcm_148
  | 149, _ => exact zcm_149
  | 150, _ => exact zcm_150
  | 151, _ => exact zcm_151
  | 152, _ => exact zcm_152
  | 153, _ => exact zcm_153
  | 154, _ => exact zcm_154
  | 155, _ => exact zcm_155
  | 156, _ => exact zcm_156
  | k + 157, hy => exact absurd hy (by unfold znm; omega)
theorem zcs_len : zcs.length = znm := by decide +kernel
theorem zms_len : zms.length = znm := by decide +kernel
/-- a class of the table: its fields are as the tables lay them -/
def zlayOK (ci : Nat) : Bool := (List.range (zcK ci)).all (fun k => zw ((zlay.getD ci []).getD k 0) (u_lay (zcN ci) (zcF ci) k) && decide (parseFieldDescriptor (zcF ci k).2.2.1 = some (ztyp ci k)) && (List.range (zcK ci)).all (fun j => decide (j = k ∨ (zcF ci j).2.1 ≠ (zcF ci k).2.1)))
theorem zcl_ok_0 : zlayOK 0 = true := by decide +kernel
theorem zcl_ok_1 : zlayOK 1 = true := by decide +kernel
theorem zcl_ok_2 : zlayOK 2 = true := by decide +kernel
theorem zcl_ok_3 : zlayOK 3 = true := by decide +kernel
theorem zcl_ok_4 : zlayOK 4 = true := by decide +kernel
theorem zcl_ok_5 : zlayOK 5 = true := by decide +kernel
theorem zcl_ok_6 : zlayOK 6 = true := by decide +kernel
theorem zcl_ok_7 : zlayOK 7 = true := by decide +kernel
theorem zcl_all : ∀ ci, ci < zcl.length → zlayOK ci = true := by
  intro ci h
  match ci, h with
  | 0, _ => exact zcl_ok_0
  | 1, _ => exact zcl_ok_1
  | 2, _ => exact zcl_ok_2
  | 3, _ => exact zcl_ok_3
  | 4, _ => exact zcl_ok_4
  | 5, _ => exact zcl_ok_5
  | 6, _ => exact zcl_ok_6
  | 7, _ => exact zcl_ok_7
  | k + 8, h => exact absurd h (by simp [zcl])
end
section
/-! THE MACHINE'S HEAP AND THE PURE CELLS: cell i stands at the address al i; the script is cell 0, and is never written -/
def zv (al : Nat → Nat) : Value → Value
  | .ref i => .ref (al i)
  | v => v
theorem zv_cat (al : Nat → Nat) (v : Value) : (zv al v).category = v.category := by cases v <;> rfl
theorem zv_cats (al : Nat → Nat) (st : List Value) : ((st.map (zv al)).map fun v => v.category).sum = (st.map fun v => v.category).sum := by
  rw [List.map_map]
  congr 1
  exact List.map_congr_left fun v _ => zv_cat al v
def zca (al : Nat → Nat) (a : vp_A) : vp_A := (a.1, match a.2 with
  | .inr (.inr (.inr (.inr f))) => .inr (.inr (.inr (.inr (fun j => (f j).map al))))
  | x => x)
def zmc (al : Nat → Nat) (CA : Nat → ClassId) : zE → va_E
  | .inl a => .inl (CA a.1, zca al a.2)
  | .inr o => .inr (o.1, o.2.map (zv al))
def zkty : Nat → FieldType
  | 0 => .int
  | 1 => .long
  | 2 => .boolean
  | _ => .array .int
def zAt (al : Nat → Nat) (CA : Nat → ClassId) (D : va_G) (i : Nat) (e : zE) (H : Heap) : Prop := (∀ a, e = .inl a → a.1 ∈ zkin) ∧ va_at D zcl (al i, zmc al CA e) H
def zHH (al : Nat → Nat) (CA : Nat → ClassId) (D : va_G) (h : zH) (H : Heap) : Prop := 1 ≤ h.length ∧ H.size = al h.length ∧ ∀ (i : Nat) (e : zE), h[i]? = some e → zAt al CA D i e H
/-- the numbering: no two cells at one address; new cells stand behind each other -/
def zal (al : Nat → Nat) : Prop := (∀ i j, al i = al j → i = j) ∧ ∀ i, 1 ≤ i → al (i + 1) = al i + 1
/-- the cells that may be written -/
def zA (al : Nat → Nat) : Addr → Prop := fun q => ∃ i, 1 ≤ i ∧ q = al i
def zK3 (CA : Nat → ClassId) (U : State) : Prop := (∃ (k kc : Class), U.vm.classes[CA 3]? = some k ∧ k.kind = .array (CA 0) (.array .int) ∧ U.vm.classes[CA 0]? = some kc) ∧ (Jvm.Cond.arrayOver (.array .int)).before #[] U = true
/-- what the tables say, at any state of the run -/
def zK (D : va_G) (CA : Nat → ClassId) (U : State) : Prop := va_K D zcl [] U ∧ (∀ t ∈ zkin, ArrOfT U (CA t) (zkty t) ∧ U.vm.findClass ("[" ++ (zkty t).toString) = some (CA t)) ∧ (3 ∈ zkin → zK3 CA U) ∧ ∀ q ∈ znest, va_Nw (.methodLinkNest q.1 q.2.1 q.2.2.1 q.2.2.2) U
theorem zAO_moved {u U : State} (hvm : u.vm.Alike U.vm) (h : (Jvm.Cond.arrayOver (.array .int)).before #[] u = true) : (Jvm.Cond.arrayOver (.array .int)).before #[] U = true := by
  obtain ⟨comp, c, k, h1, h2, h3, h4, h5⟩ := arrayOverA_spec h
  obtain ⟨k', hk', he⟩ := hvm.2.2 _ _ h3
  have key := va_idx_bare U.vm comp
  have key2 := va_idx_bare u.vm comp
  have hb : U.vm.bare = u.vm.bare := by first | exact hvm.bare_eq.symm | exact hvm.bare_eq
  rw [hb] at key
  have hi := key.symm.trans (key2.trans h2)
  have hkind : k'.kind = .array comp (.array .int) := by rw [he]; exact h4
  have f1 : U.vm.findClass (FieldType.array .int).toString = some comp := by rw [hvm.findClass]; exact h1
  have f2 : U.vm.findClass ("[" ++ (FieldType.array .int).toString) = some c := by rw [hvm.findClass]; exact h5
  unfold Jvm.Cond.before Jvm.Cond.holds
  simp only [Jvm.Cond.value]
  rw [f1, Option.bind_some]
  refine (congrArg (fun o : Option Nat => (o.bind (fun c => (U.vm.classes[c]?).map fun (k : Class) => match k.kind with | .array _ ty => decide (ty = FieldType.array .int) && decide (U.vm.findClass ("[" ++ (FieldType.array .int).toString) = some c) | _ => false) == some true)) hi).trans ?_
  simp [hk', hkind, f2]
theorem zK3_moved {CA : Nat → ClassId} {u U : State} (hvm : u.vm.Alike U.vm) (h : zK3 CA u) : zK3 CA U := by
  obtain ⟨⟨k, kc, h1, h2, h3⟩, h4⟩ := h
  obtain ⟨k', hk', he⟩ := hvm.2.2 _ _ h1
  obtain ⟨kc', hkc', -⟩ := hvm.2.2 _ _ h3
  exact ⟨⟨k', kc', hk', by rw [he]; exact h2, hkc'⟩, zAO_moved hvm h4⟩
theorem zK_warm {D : va_G} {CA : Nat → ClassId} {s U : State} (hW : s.WarmedH U.vm) (h : zK D CA s) : zK D CA U := by
  obtain ⟨h1, h2, h3, h4⟩ := h
  have hvm : s.vm.Alike U.vm := hW.alike
  refine ⟨va_K.moved hvm h1, fun t ht => ⟨arrOfT_moved hvm (h2 t ht).1, ?_⟩, fun h => zK3_moved hvm (h3 h), fun q hq => va_Nw.warmM hW (h4 q hq)⟩
  rw [hvm.findClass]
  exact (h2 t ht).2
theorem zK_same {D : va_G} {CA : Nat → ClassId} {u U : State} (hvm : u.vm = U.vm) (h : zK D CA u) : zK D CA U := by
  obtain ⟨h1, h2, h3, h4⟩ := h
  have ha : u.vm.Alike U.vm := hvm ▸ Vm.Alike.refl _
  refine ⟨va_K.moved ha h1, fun t ht => ⟨arrOfT_moved ha (h2 t ht).1, ?_⟩, fun h => zK3_moved ha (h3 h), fun q hq => va_Nw.same rfl hvm (h4 q hq)⟩
  rw [← hvm]
  exact (h2 t ht).2
theorem zAt_lt {al : Nat → Nat} {CA : Nat → ClassId} {D : va_G} {i : Nat} {e : zE} {H : Heap} (h : zAt al CA D i e H) : al i < H.size := h.2.lt
theorem zAt_kept {al : Nat → Nat} {CA : Nat → ClassId} {D : va_G} {i : Nat} {e : zE} {H H1 : Heap} (h : zAt al CA D i e H) (hq : H1[al i]? = H[al i]?) : zAt al CA D i e H1 := ⟨h.1, h.2.kept hq⟩
theorem zHH_set {al : Nat → Nat} {CA : Nat → ClassId} {D : va_G} {h : zH} {H H1 : Heap} {i : Nat} {e' : zE} (ha : zal al) (hH : zHH al CA D h H) (hi : i < h.length) (z : H1.size = H.size) (oq : ∀ q, q ≠ al i → H1[q]? = H[q]?) (he : zAt al CA D i e' H1) : zHH al CA D (h.set i e') H1 := by
  refine ⟨by rw [List.length_set]; exact hH.1, by rw [List.length_set, z]; exact hH.2.1, fun j e hj => ?_⟩
  by_cases hij : i = j
  · subst hij
    rw [List.getElem?_set_self hi] at hj
    cases hj
    exact he
  · rw [List.getElem?_set_ne hij] at hj
    exact zAt_kept (hH.2.2 j e hj) (oq _ fun q => hij (ha.1 _ _ q).symm)
theorem zHH_app {al : Nat → Nat} {CA : Nat → ClassId} {D : va_G} {h : zH} {H H1 : Heap} {e' : zE} (ha : zal al) (hH : zHH al CA D h H) (z : H1.size = H.size + 1) (oq : ∀ q, q < H.size → H1[q]? = H[q]?) (he : zAt al CA D h.length e' H1) : zHH al CA D (h ++ [e']) H1 := by
  refine ⟨by simp, by rw [List.length_append, z, hH.2.1]; exact (ha.2 _ hH.1).symm, fun j e hj => ?_⟩
  by_cases hl : j < h.length
  · rw [List.getElem?_append_left hl] at hj
    exact zAt_kept (hH.2.2 j e hj) (oq _ (zAt_lt (hH.2.2 j e hj)))
  · rw [List.getElem?_append_right (by omega)] at hj
    have hz : j - h.length < 1 := (List.getElem?_eq_some_iff.mp hj).1
    have hj2 : j = h.length := by omega
    subst hj2
    rw [Nat.sub_self] at hj
    cases hj
    exact he
/-- the locals -/
def zLl (al : Nat → Nat) (L : zL) : List (Nat × Value) := (List.range L.length).filterMap fun i => (zget L i).map fun v => (i, zv al v)
def zLh (al : Nat → Nat) (ls : Array Slot) (n : Nat) (L : zL) : Prop := L.length = n ∧ lv_has ls n (zLl al L)
theorem zget_some {L : zL} {i : Nat} {v : Value} : zget L i = some v ↔ L[i]? = some (some v) := by
  unfold zget
  cases h : L[i]? with
  | none => simp
  | some o => cases o <;> simp
theorem zLl_mem {al : Nat → Nat} {L : zL} {i : Nat} {w : Value} : (i, w) ∈ zLl al L ↔ ∃ v, L[i]? = some (some v) ∧ w = zv al v := by
  unfold zLl
  rw [List.mem_filterMap]
  constructor
  · rintro ⟨j, -, hj⟩
    cases hg : zget L j with
    | none => rw [hg] at hj; simp at hj
    | some v =>
      rw [hg] at hj
      simp only [Option.map_some, Option.some.injEq, Prod.mk.injEq] at hj
      obtain ⟨rfl, rfl⟩ := hj
      exact ⟨v, zget_some.mp hg, rfl⟩
  · rintro ⟨v, hv, rfl⟩
    exact ⟨i, List.mem_range.mpr (List.getElem?_eq_some_iff.mp hv).1, by rw [zget_some.mpr hv]; rfl⟩
theorem zLh_at {al : Nat → Nat} {ls : Array Slot} {n : Nat} {L : zL} (h : zLh al ls n L) {i : Nat} {v : Value} (hv : L[i]? = some (some v)) : ls[i]? = some (.val (zv al v)) := h.2.2.2 (i, zv al v) (zLl_mem.mpr ⟨v, hv, rfl⟩)
theorem zkill_len (L : zL) (i : Nat) : (zkill L i).length = L.length := by
  unfold zkill
  split
  · rfl
  · split <;> simp
theorem zkill_get {L : zL} {i j : Nat} {v : Value} (h : (zkill L i)[j]? = some (some v)) : L[j]? = some (some v) ∧ (j + 1 = i → v.category ≠ 2) := by
  unfold zkill at h
  split at h
  · exact ⟨h, fun q => by omega⟩
  · rename_i k
    split at h
    · by_cases hj : k = j
      · subst hj
        rw [List.getElem?_set_self (by rename_i q; exact (List.getElem?_eq_some_iff.mp q).1)] at h
        simp at h
      · rw [List.getElem?_set_ne hj] at h
        exact ⟨h, fun q => by omega⟩
    · by_cases hj : k = j
      · subst hj
        rw [List.getElem?_set_self (by rename_i q; exact (List.getElem?_eq_some_iff.mp q).1)] at h
        simp at h
      · rw [List.getElem?_set_ne hj] at h
        exact ⟨h, fun q => by omega⟩
    · rename_i n1 n2
      refine ⟨h, fun q hc => ?_⟩
      have hk : j = k := by omega
      subst hk
      cases v <;> simp [Value.category] at hc
      · exact n1 _ h
      · exact n2 _ h
theorem zst1_has {al : Nat → Nat} {ls' : Array Slot} {n : Nat} {L : zL} {i : Nat} {v : Value} (hL : L.length = n) (hi : i < n) (h : lv_has ls' n ((i, zv al v) :: (zLl al L).filter (fun q => !(q.1 == i) && !(q.1 + 1 == i && q.2.category == 2)))) : zLh al ls' n (zst1 L i v) := by
  refine ⟨by unfold zst1; rw [List.length_set, zkill_len]; exact hL, h.1, h.2.1, ?_⟩
  rintro ⟨j, w⟩ hw
  obtain ⟨x, hx, rfl⟩ := zLl_mem.mp hw
  refine h.2.2 (j, zv al x) ?_
  unfold zst1 at hx
  by_cases hij : i = j
  · subst hij
    rw [List.getElem?_set_self (by rw [zkill_len]; omega)] at hx
    cases hx
    exact List.mem_cons_self
  · rw [List.getElem?_set_ne hij] at hx
    obtain ⟨h1, h2⟩ := zkill_get hx
    refine List.mem_cons_of_mem _ (List.mem_filter.mpr ⟨zLl_mem.mpr ⟨x, h1, rfl⟩, ?_⟩)
    simp only [zv_cat, Bool.and_eq_true, Bool.not_eq_true', beq_eq_false_iff_ne, ne_eq, Bool.and_eq_false_iff]
    refine ⟨fun q => hij q.symm, ?_⟩
    by_cases hji : j + 1 = i
    · exact Or.inr (h2 hji)
    · exact Or.inl hji
theorem zst2_has {al : Nat → Nat} {ls' : Array Slot} {n : Nat} {L : zL} {i : Nat} {v : Value} (hL : L.length = n) (hi : i + 1 < n) (h : lv_has ls' n ((i, zv al v) :: (zLl al L).filter (fun q => !(q.1 == i) && (!(q.1 == i + 1) && !(q.1 + 1 == i && q.2.category == 2))))) : zLh al ls' n (zst2 L i v) := by
  refine ⟨by unfold zst2; rw [List.length_set, List.length_set, zkill_len]; exact hL, h.1, h.2.1, ?_⟩
  rintro ⟨j, w⟩ hw
  obtain ⟨x, hx, rfl⟩ := zLl_mem.mp hw
  refine h.2.2 (j, zv al x) ?_
  unfold zst2 at hx
  by_cases hi1 : i + 1 = j
  · subst hi1
    rw [List.getElem?_set_self (by rw [List.length_set, zkill_len]; omega)] at hx
    cases hx
  · rw [List.getElem?_set_ne hi1] at hx
    by_cases hij : i = j
    · subst hij
      rw [List.getElem?_set_self (by rw [zkill_len]; omega)] at hx
      cases hx
      exact List.mem_cons_self
    · rw [List.getElem?_set_ne hij] at hx
      obtain ⟨h1, h2⟩ := zkill_get hx
      refine List.mem_cons_of_mem _ (List.mem_filter.mpr ⟨zLl_mem.mpr ⟨x, h1, rfl⟩, ?_⟩)
      simp only [zv_cat, Bool.and_eq_true, Bool.not_eq_true', beq_eq_false_iff_ne, ne_eq, Bool.and_eq_false_iff]
      refine ⟨fun q => hij q.symm, fun q => hi1 q.symm, ?_⟩
      by_cases hji : j + 1 = i
      · exact Or.inr (h2 hji)
      · exact Or.inl hji
/-- a method's locals at its entry -/
theorem zent_sl (al : Nat → Nat) : ∀ (vs : List Value), (lg_sl (vs.map (zv al))).length = (zent vs).length
  | [] => rfl
  | v :: vs => by
    have ih := zent_sl al vs
    cases v <;> simp [lg_sl, zent, zv, Value.category] at ih ⊢ <;> omega
theorem zent_get : ∀ (vs : List Value) (i : Nat) (v : Value) (k : Nat), (zent vs)[i]? = some (some v) → (k + i, v) ∈ lv_args k vs
  | [], i, v, k, h => by simp [zent] at h
  | w :: vs, i, v, k, h => by
    have ih := zent_get vs
    have one : zent (w :: vs) = some w :: zent vs → lv_args k (w :: vs) = (k, w) :: lv_args (k + 1) vs → (k + i, v) ∈ lv_args k (w :: vs) := fun e1 e2 => by
      rw [e1] at h
      rw [e2]
      rcases i with _ | i
      · simp at h
        subst h
        simp
      · refine List.mem_cons_of_mem _ ?_
        have := ih i v (k + 1) (by simpa using h)
        rwa [show k + (i + 1) = k + 1 + i by omega]
    have two : zent (w :: vs) = some w :: none :: zent vs → lv_args k (w :: vs) = (k, w) :: lv_args (k + 2) vs → (k + i, v) ∈ lv_args k (w :: vs) := fun e1 e2 => by
      rw [e1] at h
      rw [e2]
      rcases i with _ | _ | i
      · simp at h
        subst h
        simp
      · simp at h
      · refine List.mem_cons_of_mem _ ?_
        have := ih i v (k + 2) (by simpa using h)
        rwa [show k + (i + 1 + 1) = k + 2 + i by omega]
    cases w
    case long => exact two rfl rfl
    case double => exact two rfl rfl
    all_goals exact one rfl rfl
theorem zargs_map (al : Nat → Nat) : ∀ (vs : List Value) (k : Nat) (i : Nat) (v : Value), (i, v) ∈ lv_args k vs → (i, zv al v) ∈ lv_args k (vs.map (zv al))
  | [], k, i, v, h => by simp [lv_args] at h
  | w :: vs, k, i, v, h => by
    simp only [lv_args, List.map_cons, zv_cat] at h ⊢
    rcases List.mem_cons.mp h with h | h
    · cases h
      exact List.mem_cons_self
    · exact List.mem_cons_of_mem _ (zargs_map al vs _ i v h)
theorem zentry_has (al : Nat → Nat) (vs : List Value) {n : Nat} (h : (zent vs).length ≤ n) : zLh al ((lg_sl (vs.map (zv al)) ++ List.replicate (n - (lg_sl (vs.map (zv al))).length) Slot.unset).toArray) n (zentry n vs) := by
  have hl := lv_entry (vs.map (zv al)) (n := n) (by rw [zent_sl]; exact h)
  refine ⟨by unfold zentry; rw [List.length_append, List.length_replicate]; omega, hl.1, hl.2.1, ?_⟩
  rintro ⟨j, w⟩ hw
  obtain ⟨x, hx, rfl⟩ := zLl_mem.mp hw
  refine hl.2.2 (j, zv al x) (zargs_map al vs 0 j x ?_)
  unfold zentry at hx
  by_cases hj : j < (zent vs).length
  · rw [List.getElem?_append_left hj] at hx
    have := zent_get vs j x 0 hx
    rwa [Nat.zero_add] at this
  · rw [List.getElem?_append_right (by omega)] at hx
    have := List.eq_of_mem_replicate (List.mem_of_getElem? hx)
    cases this
end
section
/-! one instruction of the pure machine, on the machine -/
theorem zdc_of {y pc : Nat} {i : Instr} {ax : List Nat} (h : zOK y pc i ax = true) (hw : zsw i = false) : decode (zMt y).2.1 pc = .ok (i, zlen i) := by
  simp only [zOK, Bool.and_eq_true] at h
  have h1 := h.1
  unfold zdc at h1
  split at h1
  · rename_i q hq
    simp only [Bool.and_eq_true, decide_eq_true_eq, Bool.or_eq_true, hw, Bool.false_eq_true, false_or] at h1
    exact hq.trans (congrArg Except.ok (Prod.ext h1.1 h1.2))
  · simp at h1
theorem zdc_sw {y pc : Nat} {i : Instr} {ax : List Nat} (h : zOK y pc i ax = true) : ∃ n, decode (zMt y).2.1 pc = .ok (i, n) := by
  simp only [zOK, Bool.and_eq_true] at h
  have h1 := h.1
  unfold zdc at h1
  split at h1
  · rename_i q hq
    simp only [Bool.and_eq_true, decide_eq_true_eq] at h1
    exact ⟨q.2, by rw [hq, ← h1.1]⟩
  · simp at h1
theorem zw_mem {p : Nat} {w : Jvm.Cond} (h : zw p w = true) : w ∈ zall := by
  unfold zw at h
  simp only [decide_eq_true_eq] at h
  exact zchk_in _ w (List.mem_of_getElem? h)
theorem zcl_at {c : Nat} (h : c < zcl.length) : zcl[c]? = some (zcN c, zcF c, zcK c) := by
  unfold zcN zcF zcK
  rw [List.getD_eq_getElem?_getD, List.getElem?_eq_getElem h]
  rfl
/-- what holds all along a method's run -/
def zCtx (p : Program) (R : Room) (s : State) (m : MethodId) (args : Array Value) (meth : Method) (c : Code) (al : Nat → Nat) (CA : Nat → ClassId) (D : va_G) (y : Nat) : Prop :=
  p.tables.exec = Jvm.exec ∧ c.code = (zMt y).2.1 ∧ c.maxLocals = (zMt y).2.2.1 ∧ s.vm.findClass (zMt y).1.cls = some m.cls ∧ (∀ w ∈ zall, w.before args s = true) ∧ zK D CA s ∧ zal al ∧ (zMt y).2.2.2.2.1 ≤ R.frames ∧ (zMt y).2.2.2.2.2 ≤ R.locals ∧ ((zMt y).1.name = "<init>" → meth.name = "<init>")
section ZST
variable {p : Program} {l : Launch} {e : Env} {R : Room} {s : State} {m : MethodId} {args : Array Value} {below : List Frame} {meth : Method} {c : Code} {H : Heap} {locs : List Loc} {cells slots : Nat} {Q : State → Prop}
variable {al : Nat → Nat} {CA : Nat → ClassId} {D : va_G} {y pc : Nat} {ls : Array Slot} {ax : List Nat} {L : zL} {st : List Value} {h : zH} {x : zR ⊕ zS} {kr : Nat}
/-- how it goes on -/
def zGo (p : Program) (l : Launch) (e : Env) (R : Room) (s : State) (m : MethodId) (args : Array Value) (below : List Frame) (meth : Method) (c : Code) (cells slots : Nat) (Q : State → Prop) (al : Nat → Nat) (CA : Nat → ClassId) (D : va_G) (y : Nat) (h : zH) (x : zR ⊕ zS) : Prop :=
  ∀ (pc' : Nat) (L' : zL) (st' : List Value) (h' : zH), x = .inr (pc', L', st', h') → ∀ (H' : Heap) (ls' : Array Slot) (locs' : List Loc), zHH al CA D h' H' → zLh al ls' (zMt y).2.2.1 L' → (∀ q ∈ locs', zA al q.base) → W p l e R s m args below meth c H' locs' (cells + (h'.length - h.length)) (slots + (zss h' - zss h)) Q (F0 m pc' ls' (st'.map (zv al)))
theorem zGo.same (k : zGo p l e R s m args below meth c cells slots Q al CA D y h x) (hH : zHH al CA D h H) (hlo : ∀ q ∈ locs, zA al q.base) {pc' : Nat} {L' : zL} {st' : List Value} (hx : some (Sum.inr (pc', L', st', h) : zR ⊕ zS) = some x) {ls' : Array Slot} (hL : zLh al ls' (zMt y).2.2.1 L') : W p l e R s m args below meth c H locs cells slots Q (F0 m pc' ls' (st'.map (zv al))) := by
  have := k pc' L' st' h (Option.some.inj hx).symm H ls' locs hH hL hlo
  rwa [Nat.sub_self, Nat.sub_self, Nat.add_zero, Nat.add_zero] at this
theorem zGo.put (k : zGo p l e R s m args below meth c cells slots Q al CA D y h x) {H' : Heap} {locs' : List Loc} {i : Nat} {e0 e' : zE} (he : h[i]? = some e0) (hz : zsz e' = zsz e0) (hH : zHH al CA D (h.set i e') H') (hlo : ∀ q ∈ locs', zA al q.base) {pc' : Nat} {L' : zL} {st' : List Value} (hx : some (Sum.inr (pc', L', st', h.set i e') : zR ⊕ zS) = some x) {ls' : Array Slot} (hL : zLh al ls' (zMt y).2.2.1 L') : W p l e R s m args below meth c H' locs' cells slots Q (F0 m pc' ls' (st'.map (zv al))) := by
  have := k pc' L' st' _ (Option.some.inj hx).symm H' ls' locs' hH hL hlo
  rwa [List.length_set, zss_set h i e0 e' he hz, Nat.sub_self, Nat.sub_self, Nat.add_zero, Nat.add_zero] at this
theorem zGo.app (k : zGo p l e R s m args below meth c cells slots Q al CA D y h x) {H' : Heap} {e' : zE} (hH : zHH al CA D (h ++ [e']) H') (hlo : ∀ q ∈ locs, zA al q.base) {pc' : Nat} {L' : zL} {st' : List Value} (hx : some (Sum.inr (pc', L', st', h ++ [e']) : zR ⊕ zS) = some x) {ls' : Array Slot} (hL : zLh al ls' (zMt y).2.2.1 L') : W p l e R s m args below meth c H' locs (cells + 1) (slots + zsz e') Q (F0 m pc' ls' (st'.map (zv al))) := by
  have := k pc' L' st' _ (Option.some.inj hx).symm H' ls' locs hH hL hlo
  rwa [List.length_append, zss_app, Nat.add_sub_cancel_left, Nat.add_sub_cancel_left] at this

theorem zs_iconst {n : Int} (X : zCtx p R s m args meth c al CA D y) (hok : zOK y pc (.iconst n) ax = true) (hs : zbase kr pc (.iconst n) ax L st h = some x) (hH : zHH al CA D h H) (hL : zLh al ls (zMt y).2.2.1 L) (hlo : ∀ q ∈ locs, zA al q.base) (k : zGo p l e R s m args below meth c cells slots Q al CA D y h x) : W p l e R s m args below meth c H locs cells slots Q (F0 m pc ls (st.map (zv al))) := by
  have hd := zdc_of hok rfl
  obtain ⟨hx, hb, -⟩ := X
  simp only [zbase, zgo] at hs
  exact lv_iconst hx hb hd rfl (k.same hH hlo hs hL)
theorem zs_bipush {n : Int} (X : zCtx p R s m args meth c al CA D y) (hok : zOK y pc (.bipush n) ax = true) (hs : zbase kr pc (.bipush n) ax L st h = some x) (hH : zHH al CA D h H) (hL : zLh al ls (zMt y).2.2.1 L) (hlo : ∀ q ∈ locs, zA al q.base) (k : zGo p l e R s m args below meth c cells slots Q al CA D y h x) : W p l e R s m args below meth c H locs cells slots Q (F0 m pc ls (st.map (zv al))) := by
  have hd := zdc_of hok rfl
  obtain ⟨hx, hb, -⟩ := X
  simp only [zbase, zgo] at hs
  exact lv_bipush hx hb hd rfl (k.same hH hlo hs hL)
theorem zs_sipush {n : Int} (X : zCtx p R s m args meth c al CA D y) (hok : zOK y pc (.sipush n) ax = true) (hs : zbase kr pc (.sipush n) ax L st h = some x) (hH : zHH al CA D h H) (hL : zLh al ls (zMt y).2.2.1 L) (hlo : ∀ q ∈ locs, zA al q.base) (k : zGo p l e R s m args below meth c cells slots Q al CA D y h x) : W p l e R s m args below meth c H locs cells slots Q (F0 m pc ls (st.map (zv al))) := by
  have hd := zdc_of hok rfl
  obtain ⟨hx, hb, -⟩ := X
  simp only [zbase, zgo] at hs
  exact lv_sipush hx hb hd rfl (k.same hH hlo hs hL)
theorem zs_lconst {n : Fin 2} (X : zCtx p R s m args meth c al CA D y) (hok : zOK y pc (.lconst n) ax = true) (hs : zbase kr pc (.lconst n) ax L st h = some x) (hH : zHH al CA D h H) (hL : zLh al ls (zMt y).2.2.1 L) (hlo : ∀ q ∈ locs, zA al q.base) (k : zGo p l e R s m args below meth c cells slots Q al CA D y h x) : W p l e R s m args below meth c H locs cells slots Q (F0 m pc ls (st.map (zv al))) := by
  have hd := zdc_of hok rfl
  obtain ⟨hx, hb, -⟩ := X
  simp only [zbase, zgo] at hs
  exact lv_lconst hx hb hd rfl (k.same hH hlo hs hL)
theorem zs_dconst {n : Fin 2} (X : zCtx p R s m args meth c al CA D y) (hok : zOK y pc (.dconst n) ax = true) (hs : zbase kr pc (.dconst n) ax L st h = some x) (hH : zHH al CA D h H) (hL : zLh al ls (zMt y).2.2.1 L) (hlo : ∀ q ∈ locs, zA al q.base) (k : zGo p l e R s m args below meth c cells slots Q al CA D y h x) : W p l e R s m args below meth c H locs cells slots Q (F0 m pc ls (st.map (zv al))) := by
  have hd := zdc_of hok rfl
  obtain ⟨hx, hb, -⟩ := X
  simp only [zbase, zgo] at hs
  split at hs
  · rename_i q
    subst q
    exact lv_dconst0 hx hb hd (k.same hH hlo hs hL)
  · simp at hs
theorem zs_ldc {n : Nat} (X : zCtx p R s m args meth c al CA D y) (hok : zOK y pc (.ldc n) ax = true) (hs : zbase kr pc (.ldc n) ax L st h = some x) (hH : zHH al CA D h H) (hL : zLh al ls (zMt y).2.2.1 L) (hlo : ∀ q ∈ locs, zA al q.base) (k : zGo p l e R s m args below meth c cells slots Q al CA D y h x) : W p l e R s m args below meth c H locs cells slots Q (F0 m pc ls (st.map (zv al))) := by
  have hd := zdc_of hok rfl
  obtain ⟨hx, hb, -, hown, hts, -⟩ := X
  simp only [zbase, zgo] at hs
  split at hs
  · rename_i v r
    simp only [zOK, Bool.and_eq_true] at hok
    have h2 := hok.2
    cases r with
    | nil => simp at h2
    | cons q r => exact lv_ldc hx hb hown (hts _ (zw_mem h2)) hd (k.same hH hlo hs hL)
  · simp at hs
theorem zs_ldc_w {n : Nat} (X : zCtx p R s m args meth c al CA D y) (hok : zOK y pc (.ldc_w n) ax = true) (hs : zbase kr pc (.ldc_w n) ax L st h = some x) (hH : zHH al CA D h H) (hL : zLh al ls (zMt y).2.2.1 L) (hlo : ∀ q ∈ locs, zA al q.base) (k : zGo p l e R s m args below meth c cells slots Q al CA D y h x) : W p l e R s m args below meth c H locs cells slots Q (F0 m pc ls (st.map (zv al))) := by
  have hd := zdc_of hok rfl
  obtain ⟨hx, hb, -, hown, hts, -⟩ := X
  simp only [zbase, zgo] at hs
  split at hs
  · rename_i v r
    simp only [zOK, Bool.and_eq_true] at hok
    have h2 := hok.2
    cases r with
    | nil => simp at h2
    | cons q r => exact lv_ldcw hx hb hown (hts _ (zw_mem h2)) hd (k.same hH hlo hs hL)
  · simp at hs
theorem zs_ldc2_w {n : Nat} (X : zCtx p R s m args meth c al CA D y) (hok : zOK y pc (.ldc2_w n) ax = true) (hs : zbase kr pc (.ldc2_w n) ax L st h = some x) (hH : zHH al CA D h H) (hL : zLh al ls (zMt y).2.2.1 L) (hlo : ∀ q ∈ locs, zA al q.base) (k : zGo p l e R s m args below meth c cells slots Q al CA D y h x) : W p l e R s m args below meth c H locs cells slots Q (F0 m pc ls (st.map (zv al))) := by
  have hd := zdc_of hok rfl
  obtain ⟨hx, hb, -, hown, hts, -⟩ := X
  simp only [zbase, zgo] at hs
  split at hs
  · rename_i v r
    simp only [zOK, Bool.and_eq_true] at hok
    have h2 := hok.2
    cases r with
    | nil => simp at h2
    | cons q r => exact lv_ldc2 hx hb hown (hts _ (zw_mem h2)) hd (k.same hH hlo hs hL)
  · simp at hs
theorem zs_iload {n : Nat} (X : zCtx p R s m args meth c al CA D y) (hok : zOK y pc (.iload n) ax = true) (hs : zbase kr pc (.iload n) ax L st h = some x) (hH : zHH al CA D h H) (hL : zLh al ls (zMt y).2.2.1 L) (hlo : ∀ q ∈ locs, zA al q.base) (k : zGo p l e R s m args below meth c cells slots Q al CA D y h x) : W p l e R s m args below meth c H locs cells slots Q (F0 m pc ls (st.map (zv al))) := by
  have hd := zdc_of hok rfl
  obtain ⟨hx, hb, -⟩ := X
  simp only [zbase, zloadI, zgo] at hs
  split at hs
  · rename_i v hv
    exact lv_iload hx hb hd (zLh_at hL hv) (k.same hH hlo hs hL)
  · simp at hs
theorem zs_iload_n {n : Fin 4} (X : zCtx p R s m args meth c al CA D y) (hok : zOK y pc (.iload_n n) ax = true) (hs : zbase kr pc (.iload_n n) ax L st h = some x) (hH : zHH al CA D h H) (hL : zLh al ls (zMt y).2.2.1 L) (hlo : ∀ q ∈ locs, zA al q.base) (k : zGo p l e R s m args below meth c cells slots Q al CA D y h x) : W p l e R s m args below meth c H locs cells slots Q (F0 m pc ls (st.map (zv al))) := by
  have hd := zdc_of hok rfl
  obtain ⟨hx, hb, -⟩ := X
  simp only [zbase, zloadI, zgo] at hs
  split at hs
  · rename_i v hv
    exact lv_iload_n hx hb hd rfl (zLh_at hL hv) (k.same hH hlo hs hL)
  · simp at hs
theorem zs_lload {n : Nat} (X : zCtx p R s m args meth c al CA D y) (hok : zOK y pc (.lload n) ax = true) (hs : zbase kr pc (.lload n) ax L st h = some x) (hH : zHH al CA D h H) (hL : zLh al ls (zMt y).2.2.1 L) (hlo : ∀ q ∈ locs, zA al q.base) (k : zGo p l e R s m args below meth c cells slots Q al CA D y h x) : W p l e R s m args below meth c H locs cells slots Q (F0 m pc ls (st.map (zv al))) := by
  have hd := zdc_of hok rfl
  obtain ⟨hx, hb, -⟩ := X
  simp only [zbase, zloadL, zgo] at hs
  split at hs
  · rename_i v hv
    exact lv_lload hx hb hd (zLh_at hL hv) (k.same hH hlo hs hL)
  · simp at hs
theorem zs_lload_n {n : Fin 4} (X : zCtx p R s m args meth c al CA D y) (hok : zOK y pc (.lload_n n) ax = true) (hs : zbase kr pc (.lload_n n) ax L st h = some x) (hH : zHH al CA D h H) (hL : zLh al ls (zMt y).2.2.1 L) (hlo : ∀ q ∈ locs, zA al q.base) (k : zGo p l e R s m args below meth c cells slots Q al CA D y h x) : W p l e R s m args below meth c H locs cells slots Q (F0 m pc ls (st.map (zv al))) := by
  have hd := zdc_of hok rfl
  obtain ⟨hx, hb, -⟩ := X
  simp only [zbase, zloadL, zgo] at hs
  split at hs
  · rename_i v hv
    exact lv_lload_n hx hb hd rfl (zLh_at hL hv) (k.same hH hlo hs hL)
  · simp at hs
theorem zs_dload {n : Nat} (X : zCtx p R s m args meth c al CA D y) (hok : zOK y pc (.dload n) ax = true) (hs : zbase kr pc (.dload n) ax L st h = some x) (hH : zHH al CA D h H) (hL : zLh al ls (zMt y).2.2.1 L) (hlo : ∀ q ∈ locs, zA al q.base) (k : zGo p l e R s m args below meth c cells slots Q al CA D y h x) : W p l e R s m args below meth c H locs cells slots Q (F0 m pc ls (st.map (zv al))) := by
  have hd := zdc_of hok rfl
  obtain ⟨hx, hb, -⟩ := X
  simp only [zbase, zloadD, zgo] at hs
  split at hs
  · rename_i v hv
    exact lv_dload hx hb hd (zLh_at hL hv) (k.same hH hlo hs hL)
  · simp at hs
theorem zs_dload_n {n : Fin 4} (X : zCtx p R s m args meth c al CA D y) (hok : zOK y pc (.dload_n n) ax = true) (hs : zbase kr pc (.dload_n n) ax L st h = some x) (hH : zHH al CA D h H) (hL : zLh al ls (zMt y).2.2.1 L) (hlo : ∀ q ∈ locs, zA al q.base) (k : zGo p l e R s m args below meth c cells slots Q al CA D y h x) : W p l e R s m args below meth c H locs cells slots Q (F0 m pc ls (st.map (zv al))) := by
  have hd := zdc_of hok rfl
  obtain ⟨hx, hb, -⟩ := X
  simp only [zbase, zloadD, zgo] at hs
  split at hs
  · rename_i v hv
    exact lv_dload_n hx hb hd rfl (zLh_at hL hv) (k.same hH hlo hs hL)
  · simp at hs
theorem zs_aload {n : Nat} (X : zCtx p R s m args meth c al CA D y) (hok : zOK y pc (.aload n) ax = true) (hs : zbase kr pc (.aload n) ax L st h = some x) (hH : zHH al CA D h H) (hL : zLh al ls (zMt y).2.2.1 L) (hlo : ∀ q ∈ locs, zA al q.base) (k : zGo p l e R s m args below meth c cells slots Q al CA D y h x) : W p l e R s m args below meth c H locs cells slots Q (F0 m pc ls (st.map (zv al))) := by
  have hd := zdc_of hok rfl
  obtain ⟨hx, hb, -⟩ := X
  simp only [zbase, zloadA, zgo] at hs
  split at hs
  · rename_i v hv
    exact lv_aload hx hb hd (zLh_at hL hv) (k.same hH hlo hs hL)
  · simp at hs
theorem zs_aload_n {n : Fin 4} (X : zCtx p R s m args meth c al CA D y) (hok : zOK y pc (.aload_n n) ax = true) (hs : zbase kr pc (.aload_n n) ax L st h = some x) (hH : zHH al CA D h H) (hL : zLh al ls (zMt y).2.2.1 L) (hlo : ∀ q ∈ locs, zA al q.base) (k : zGo p l e R s m args below meth c cells slots Q al CA D y h x) : W p l e R s m args below meth c H locs cells slots Q (F0 m pc ls (st.map (zv al))) := by
  have hd := zdc_of hok rfl
  obtain ⟨hx, hb, -⟩ := X
  simp only [zbase, zloadA, zgo] at hs
  split at hs
  · rename_i v hv
    exact lv_aload_n hx hb hd rfl (zLh_at hL hv) (k.same hH hlo hs hL)
  · simp at hs
theorem zs_istore {n : Nat} (X : zCtx p R s m args meth c al CA D y) (hok : zOK y pc (.istore n) ax = true) (hs : zbase kr pc (.istore n) ax L st h = some x) (hH : zHH al CA D h H) (hL : zLh al ls (zMt y).2.2.1 L) (hlo : ∀ q ∈ locs, zA al q.base) (k : zGo p l e R s m args below meth c cells slots Q al CA D y h x) : W p l e R s m args below meth c H locs cells slots Q (F0 m pc ls (st.map (zv al))) := by
  have hd := zdc_of hok rfl
  obtain ⟨hx, hb, -⟩ := X
  simp only [zbase, zstoreI, zgo] at hs
  split at hs
  · split at hs
    · rename_i v _ hn
      rw [hL.1] at hn
      exact lv_istore hx hb hd hL.2 hn rfl (fun ls2 h2 => k.same hH hlo hs (zst1_has hL.1 hn h2))
    · simp at hs
  · simp at hs
theorem zs_istore_n {n : Fin 4} (X : zCtx p R s m args meth c al CA D y) (hok : zOK y pc (.istore_n n) ax = true) (hs : zbase kr pc (.istore_n n) ax L st h = some x) (hH : zHH al CA D h H) (hL : zLh al ls (zMt y).2.2.1 L) (hlo : ∀ q ∈ locs, zA al q.base) (k : zGo p l e R s m args below meth c cells slots Q al CA D y h x) : W p l e R s m args below meth c H locs cells slots Q (F0 m pc ls (st.map (zv al))) := by
  have hd := zdc_of hok rfl
  obtain ⟨hx, hb, -⟩ := X
  simp only [zbase, zstoreI, zgo] at hs
  split at hs
  · split at hs
    · rename_i v _ hn
      rw [hL.1] at hn
      exact lv_istore_n hx hb hd rfl hL.2 hn rfl (fun ls2 h2 => k.same hH hlo hs (zst1_has hL.1 hn h2))
    · simp at hs
  · simp at hs
theorem zs_astore {n : Nat} (X : zCtx p R s m args meth c al CA D y) (hok : zOK y pc (.astore n) ax = true) (hs : zbase kr pc (.astore n) ax L st h = some x) (hH : zHH al CA D h H) (hL : zLh al ls (zMt y).2.2.1 L) (hlo : ∀ q ∈ locs, zA al q.base) (k : zGo p l e R s m args below meth c cells slots Q al CA D y h x) : W p l e R s m args below meth c H locs cells slots Q (F0 m pc ls (st.map (zv al))) := by
  have hd := zdc_of hok rfl
  obtain ⟨hx, hb, -⟩ := X
  simp only [zbase, zstoreA, zgo] at hs
  split at hs
  · split at hs
    · rename_i v _ hn
      rw [hL.1] at hn
      exact lv_astore hx hb hd hL.2 hn rfl (fun ls2 h2 => k.same hH hlo hs (zst1_has hL.1 hn h2))
    · simp at hs
  · simp at hs
theorem zs_astore_n {n : Fin 4} (X : zCtx p R s m args meth c al CA D y) (hok : zOK y pc (.astore_n n) ax = true) (hs : zbase kr pc (.astore_n n) ax L st h = some x) (hH : zHH al CA D h H) (hL : zLh al ls (zMt y).2.2.1 L) (hlo : ∀ q ∈ locs, zA al q.base) (k : zGo p l e R s m args below meth c cells slots Q al CA D y h x) : W p l e R s m args below meth c H locs cells slots Q (F0 m pc ls (st.map (zv al))) := by
  have hd := zdc_of hok rfl
  obtain ⟨hx, hb, -⟩ := X
  simp only [zbase, zstoreA, zgo] at hs
  split at hs
  · split at hs
    · rename_i v _ hn
      rw [hL.1] at hn
      exact lv_astore_n hx hb hd rfl hL.2 hn rfl (fun ls2 h2 => k.same hH hlo hs (zst1_has hL.1 hn h2))
    · simp at hs
  · simp at hs
theorem zs_lstore {n : Nat} (X : zCtx p R s m args meth c al CA D y) (hok : zOK y pc (.lstore n) ax = true) (hs : zbase kr pc (.lstore n) ax L st h = some x) (hH : zHH al CA D h H) (hL : zLh al ls (zMt y).2.2.1 L) (hlo : ∀ q ∈ locs, zA al q.base) (k : zGo p l e R s m args below meth c cells slots Q al CA D y h x) : W p l e R s m args below meth c H locs cells slots Q (F0 m pc ls (st.map (zv al))) := by
  have hd := zdc_of hok rfl
  obtain ⟨hx, hb, -⟩ := X
  simp only [zbase, zstoreL, zgo] at hs
  split at hs
  · split at hs
    · rename_i v _ hn
      rw [hL.1] at hn
      exact lv_lstore hx hb hd hL.2 hn rfl (fun ls2 h2 => k.same hH hlo hs (zst2_has hL.1 hn h2))
    · simp at hs
  · simp at hs
theorem zs_lstore_n {n : Fin 4} (X : zCtx p R s m args meth c al CA D y) (hok : zOK y pc (.lstore_n n) ax = true) (hs : zbase kr pc (.lstore_n n) ax L st h = some x) (hH : zHH al CA D h H) (hL : zLh al ls (zMt y).2.2.1 L) (hlo : ∀ q ∈ locs, zA al q.base) (k : zGo p l e R s m args below meth c cells slots Q al CA D y h x) : W p l e R s m args below meth c H locs cells slots Q (F0 m pc ls (st.map (zv al))) := by
  have hd := zdc_of hok rfl
  obtain ⟨hx, hb, -⟩ := X
  simp only [zbase, zstoreL, zgo] at hs
  split at hs
  · split at hs
    · rename_i v _ hn
      rw [hL.1] at hn
      exact lv_lstore_n hx hb hd rfl hL.2 hn rfl (fun ls2 h2 => k.same hH hlo hs (zst2_has hL.1 hn h2))
    · simp at hs
  · simp at hs
theorem zs_dstore {n : Nat} (X : zCtx p R s m args meth c al CA D y) (hok : zOK y pc (.dstore n) ax = true) (hs : zbase kr pc (.dstore n) ax L st h = some x) (hH : zHH al CA D h H) (hL : zLh al ls (zMt y).2.2.1 L) (hlo : ∀ q ∈ locs, zA al q.base) (k : zGo p l e R s m args below meth c cells slots Q al CA D y h x) : W p l e R s m args below meth c H locs cells slots Q (F0 m pc ls (st.map (zv al))) := by
  have hd := zdc_of hok rfl
  obtain ⟨hx, hb, -⟩ := X
  simp only [zbase, zstoreD, zgo] at hs
  split at hs
  · split at hs
    · rename_i v _ hn
      rw [hL.1] at hn
      exact lv_dstore hx hb hd hL.2 hn rfl (fun ls2 h2 => k.same hH hlo hs (zst2_has hL.1 hn h2))
    · simp at hs
  · simp at hs
theorem zs_dstore_n {n : Fin 4} (X : zCtx p R s m args meth c al CA D y) (hok : zOK y pc (.dstore_n n) ax = true) (hs : zbase kr pc (.dstore_n n) ax L st h = some x) (hH : zHH al CA D h H) (hL : zLh al ls (zMt y).2.2.1 L) (hlo : ∀ q ∈ locs, zA al q.base) (k : zGo p l e R s m args below meth c cells slots Q al CA D y h x) : W p l e R s m args below meth c H locs cells slots Q (F0 m pc ls (st.map (zv al))) := by
  have hd := zdc_of hok rfl
  obtain ⟨hx, hb, -⟩ := X
  simp only [zbase, zstoreD, zgo] at hs
  split at hs
  · split at hs
    · rename_i v _ hn
      rw [hL.1] at hn
      exact lv_dstore_n hx hb hd rfl hL.2 hn rfl (fun ls2 h2 => k.same hH hlo hs (zst2_has hL.1 hn h2))
    · simp at hs
  · simp at hs
theorem zs_iinc {n : Nat} {z : Int} (X : zCtx p R s m args meth c al CA D y) (hok : zOK y pc (.iinc n z) ax = true) (hs : zbase kr pc (.iinc n z) ax L st h = some x) (hH : zHH al CA D h H) (hL : zLh al ls (zMt y).2.2.1 L) (hlo : ∀ q ∈ locs, zA al q.base) (k : zGo p l e R s m args below meth c cells slots Q al CA D y h x) : W p l e R s m args below meth c H locs cells slots Q (F0 m pc ls (st.map (zv al))) := by
  have hd := zdc_of hok rfl
  obtain ⟨hx, hb, -⟩ := X
  simp only [zbase, zgo] at hs
  split at hs
  · rename_i v hv
    split at hs
    · rename_i hn
      rw [hL.1] at hn
      obtain ⟨j, hj⟩ := List.getElem?_of_mem (zLl_mem (al := al).mpr ⟨_, hv, rfl⟩)
      exact lv_iinc hx hb hd hL.2 hj rfl hn rfl (fun ls2 h2 => k.same hH hlo hs (zst1_has (v := .int _) hL.1 hn h2))
    · simp at hs
  · simp at hs
theorem zs_iadd  (X : zCtx p R s m args meth c al CA D y) (hok : zOK y pc .iadd ax = true) (hs : zbase kr pc .iadd ax L st h = some x) (hH : zHH al CA D h H) (hL : zLh al ls (zMt y).2.2.1 L) (hlo : ∀ q ∈ locs, zA al q.base) (k : zGo p l e R s m args below meth c cells slots Q al CA D y h x) : W p l e R s m args below meth c H locs cells slots Q (F0 m pc ls (st.map (zv al))) := by
  have hd := zdc_of hok rfl
  obtain ⟨hx, hb, -⟩ := X
  simp only [zbase, zii, zgo] at hs
  split at hs
  · exact lv_iadd hx hb hd (k.same hH hlo hs hL)
  · simp at hs
theorem zs_isub  (X : zCtx p R s m args meth c al CA D y) (hok : zOK y pc .isub ax = true) (hs : zbase kr pc .isub ax L st h = some x) (hH : zHH al CA D h H) (hL : zLh al ls (zMt y).2.2.1 L) (hlo : ∀ q ∈ locs, zA al q.base) (k : zGo p l e R s m args below meth c cells slots Q al CA D y h x) : W p l e R s m args below meth c H locs cells slots Q (F0 m pc ls (st.map (zv al))) := by
  have hd := zdc_of hok rfl
  obtain ⟨hx, hb, -⟩ := X
  simp only [zbase, zii, zgo] at hs
  split at hs
  · exact lv_isub hx hb hd (k.same hH hlo hs hL)
  · simp at hs
theorem zs_imul  (X : zCtx p R s m args meth c al CA D y) (hok : zOK y pc .imul ax = true) (hs : zbase kr pc .imul ax L st h = some x) (hH : zHH al CA D h H) (hL : zLh al ls (zMt y).2.2.1 L) (hlo : ∀ q ∈ locs, zA al q.base) (k : zGo p l e R s m args below meth c cells slots Q al CA D y h x) : W p l e R s m args below meth c H locs cells slots Q (F0 m pc ls (st.map (zv al))) := by
  have hd := zdc_of hok rfl
  obtain ⟨hx, hb, -⟩ := X
  simp only [zbase, zii, zgo] at hs
  split at hs
  · exact lv_imul hx hb hd (k.same hH hlo hs hL)
  · simp at hs
theorem zs_iand  (X : zCtx p R s m args meth c al CA D y) (hok : zOK y pc .iand ax = true) (hs : zbase kr pc .iand ax L st h = some x) (hH : zHH al CA D h H) (hL : zLh al ls (zMt y).2.2.1 L) (hlo : ∀ q ∈ locs, zA al q.base) (k : zGo p l e R s m args below meth c cells slots Q al CA D y h x) : W p l e R s m args below meth c H locs cells slots Q (F0 m pc ls (st.map (zv al))) := by
  have hd := zdc_of hok rfl
  obtain ⟨hx, hb, -⟩ := X
  simp only [zbase, zii, zgo] at hs
  split at hs
  · exact lv_iand hx hb hd (k.same hH hlo hs hL)
  · simp at hs
theorem zs_ior  (X : zCtx p R s m args meth c al CA D y) (hok : zOK y pc .ior ax = true) (hs : zbase kr pc .ior ax L st h = some x) (hH : zHH al CA D h H) (hL : zLh al ls (zMt y).2.2.1 L) (hlo : ∀ q ∈ locs, zA al q.base) (k : zGo p l e R s m args below meth c cells slots Q al CA D y h x) : W p l e R s m args below meth c H locs cells slots Q (F0 m pc ls (st.map (zv al))) := by
  have hd := zdc_of hok rfl
  obtain ⟨hx, hb, -⟩ := X
  simp only [zbase, zii, zgo] at hs
  split at hs
  · exact lv_ior hx hb hd (k.same hH hlo hs hL)
  · simp at hs
theorem zs_ishl  (X : zCtx p R s m args meth c al CA D y) (hok : zOK y pc .ishl ax = true) (hs : zbase kr pc .ishl ax L st h = some x) (hH : zHH al CA D h H) (hL : zLh al ls (zMt y).2.2.1 L) (hlo : ∀ q ∈ locs, zA al q.base) (k : zGo p l e R s m args below meth c cells slots Q al CA D y h x) : W p l e R s m args below meth c H locs cells slots Q (F0 m pc ls (st.map (zv al))) := by
  have hd := zdc_of hok rfl
  obtain ⟨hx, hb, -⟩ := X
  simp only [zbase, zii, zgo] at hs
  split at hs
  · exact lv_ishl hx hb hd (k.same hH hlo hs hL)
  · simp at hs
theorem zs_ishr  (X : zCtx p R s m args meth c al CA D y) (hok : zOK y pc .ishr ax = true) (hs : zbase kr pc .ishr ax L st h = some x) (hH : zHH al CA D h H) (hL : zLh al ls (zMt y).2.2.1 L) (hlo : ∀ q ∈ locs, zA al q.base) (k : zGo p l e R s m args below meth c cells slots Q al CA D y h x) : W p l e R s m args below meth c H locs cells slots Q (F0 m pc ls (st.map (zv al))) := by
  have hd := zdc_of hok rfl
  obtain ⟨hx, hb, -⟩ := X
  simp only [zbase, zii, zgo] at hs
  split at hs
  · exact lv_ishr hx hb hd (k.same hH hlo hs hL)
  · simp at hs
theorem zs_iushr  (X : zCtx p R s m args meth c al CA D y) (hok : zOK y pc .iushr ax = true) (hs : zbase kr pc .iushr ax L st h = some x) (hH : zHH al CA D h H) (hL : zLh al ls (zMt y).2.2.1 L) (hlo : ∀ q ∈ locs, zA al q.base) (k : zGo p l e R s m args below meth c cells slots Q al CA D y h x) : W p l e R s m args below meth c H locs cells slots Q (F0 m pc ls (st.map (zv al))) := by
  have hd := zdc_of hok rfl
  obtain ⟨hx, hb, -⟩ := X
  simp only [zbase, zii, zgo] at hs
  split at hs
  · exact lv_iushr hx hb hd rfl (k.same hH hlo hs hL)
  · simp at hs
theorem zs_idiv  (X : zCtx p R s m args meth c al CA D y) (hok : zOK y pc .idiv ax = true) (hs : zbase kr pc .idiv ax L st h = some x) (hH : zHH al CA D h H) (hL : zLh al ls (zMt y).2.2.1 L) (hlo : ∀ q ∈ locs, zA al q.base) (k : zGo p l e R s m args below meth c cells slots Q al CA D y h x) : W p l e R s m args below meth c H locs cells slots Q (F0 m pc ls (st.map (zv al))) := by
  have hd := zdc_of hok rfl
  obtain ⟨hx, hb, -⟩ := X
  simp only [zbase, zgo] at hs
  split at hs
  · split at hs
    · simp at hs
    · rename_i hne
      exact lv_idiv hx hb hd hne (k.same hH hlo hs hL)
  · simp at hs
theorem zs_irem  (X : zCtx p R s m args meth c al CA D y) (hok : zOK y pc .irem ax = true) (hs : zbase kr pc .irem ax L st h = some x) (hH : zHH al CA D h H) (hL : zLh al ls (zMt y).2.2.1 L) (hlo : ∀ q ∈ locs, zA al q.base) (k : zGo p l e R s m args below meth c cells slots Q al CA D y h x) : W p l e R s m args below meth c H locs cells slots Q (F0 m pc ls (st.map (zv al))) := by
  have hd := zdc_of hok rfl
  obtain ⟨hx, hb, -⟩ := X
  simp only [zbase, zgo] at hs
  split at hs
  · split at hs
    · simp at hs
    · rename_i hne
      exact lv_irem hx hb hd hne (k.same hH hlo hs hL)
  · simp at hs
theorem zs_ladd  (X : zCtx p R s m args meth c al CA D y) (hok : zOK y pc .ladd ax = true) (hs : zbase kr pc .ladd ax L st h = some x) (hH : zHH al CA D h H) (hL : zLh al ls (zMt y).2.2.1 L) (hlo : ∀ q ∈ locs, zA al q.base) (k : zGo p l e R s m args below meth c cells slots Q al CA D y h x) : W p l e R s m args below meth c H locs cells slots Q (F0 m pc ls (st.map (zv al))) := by
  have hd := zdc_of hok rfl
  obtain ⟨hx, hb, -⟩ := X
  simp only [zbase, zll, zgo] at hs
  split at hs
  · exact lv_ladd hx hb hd (k.same hH hlo hs hL)
  · simp at hs
theorem zs_lmul  (X : zCtx p R s m args meth c al CA D y) (hok : zOK y pc .lmul ax = true) (hs : zbase kr pc .lmul ax L st h = some x) (hH : zHH al CA D h H) (hL : zLh al ls (zMt y).2.2.1 L) (hlo : ∀ q ∈ locs, zA al q.base) (k : zGo p l e R s m args below meth c cells slots Q al CA D y h x) : W p l e R s m args below meth c H locs cells slots Q (F0 m pc ls (st.map (zv al))) := by
  have hd := zdc_of hok rfl
  obtain ⟨hx, hb, -⟩ := X
  simp only [zbase, zll, zgo] at hs
  split at hs
  · exact lv_lmul hx hb hd (k.same hH hlo hs hL)
  · simp at hs
theorem zs_lcmp  (X : zCtx p R s m args meth c al CA D y) (hok : zOK y pc .lcmp ax = true) (hs : zbase kr pc .lcmp ax L st h = some x) (hH : zHH al CA D h H) (hL : zLh al ls (zMt y).2.2.1 L) (hlo : ∀ q ∈ locs, zA al q.base) (k : zGo p l e R s m args below meth c cells slots Q al CA D y h x) : W p l e R s m args below meth c H locs cells slots Q (F0 m pc ls (st.map (zv al))) := by
  have hd := zdc_of hok rfl
  obtain ⟨hx, hb, -⟩ := X
  simp only [zbase, zgo] at hs
  split at hs
  · exact W.lcmp hx hb hd (k.same hH hlo hs hL)
  · simp at hs
theorem zs_i2l  (X : zCtx p R s m args meth c al CA D y) (hok : zOK y pc .i2l ax = true) (hs : zbase kr pc .i2l ax L st h = some x) (hH : zHH al CA D h H) (hL : zLh al ls (zMt y).2.2.1 L) (hlo : ∀ q ∈ locs, zA al q.base) (k : zGo p l e R s m args below meth c cells slots Q al CA D y h x) : W p l e R s m args below meth c H locs cells slots Q (F0 m pc ls (st.map (zv al))) := by
  have hd := zdc_of hok rfl
  obtain ⟨hx, hb, -⟩ := X
  simp only [zbase, zgo] at hs
  split at hs
  · exact lv_i2l hx hb hd rfl (k.same hH hlo hs hL)
  · simp at hs
theorem zs_i2d  (X : zCtx p R s m args meth c al CA D y) (hok : zOK y pc .i2d ax = true) (hs : zbase kr pc .i2d ax L st h = some x) (hH : zHH al CA D h H) (hL : zLh al ls (zMt y).2.2.1 L) (hlo : ∀ q ∈ locs, zA al q.base) (k : zGo p l e R s m args below meth c cells slots Q al CA D y h x) : W p l e R s m args below meth c H locs cells slots Q (F0 m pc ls (st.map (zv al))) := by
  have hd := zdc_of hok rfl
  obtain ⟨hx, hb, -⟩ := X
  simp only [zbase, zgo] at hs
  split at hs
  · exact lv_i2d hx hb hd (k.same hH hlo hs hL)
  · simp at hs
theorem zs_ddiv  (X : zCtx p R s m args meth c al CA D y) (hok : zOK y pc .ddiv ax = true) (hs : zbase kr pc .ddiv ax L st h = some x) (hH : zHH al CA D h H) (hL : zLh al ls (zMt y).2.2.1 L) (hlo : ∀ q ∈ locs, zA al q.base) (k : zGo p l e R s m args below meth c cells slots Q al CA D y h x) : W p l e R s m args below meth c H locs cells slots Q (F0 m pc ls (st.map (zv al))) := by
  have hd := zdc_of hok rfl
  obtain ⟨hx, hb, -⟩ := X
  simp only [zbase, zgo] at hs
  split at hs
  · split at hs
    · rename_i hne
      exact lv_ddiv hx hb hd hne (k.same hH hlo hs hL)
    · simp at hs
  · simp at hs
theorem zs_dcmp {n : CmpOp} (X : zCtx p R s m args meth c al CA D y) (hok : zOK y pc (.dcmp n) ax = true) (hs : zbase kr pc (.dcmp n) ax L st h = some x) (hH : zHH al CA D h H) (hL : zLh al ls (zMt y).2.2.1 L) (hlo : ∀ q ∈ locs, zA al q.base) (k : zGo p l e R s m args below meth c cells slots Q al CA D y h x) : W p l e R s m args below meth c H locs cells slots Q (F0 m pc ls (st.map (zv al))) := by
  have hd := zdc_of hok rfl
  obtain ⟨hx, hb, -⟩ := X
  simp only [zbase, zgo] at hs
  split at hs
  · exact lv_dcmp hx hb hd (k.same hH hlo hs hL)
  · simp at hs
theorem zs_dup  (X : zCtx p R s m args meth c al CA D y) (hok : zOK y pc .dup ax = true) (hs : zbase kr pc .dup ax L st h = some x) (hH : zHH al CA D h H) (hL : zLh al ls (zMt y).2.2.1 L) (hlo : ∀ q ∈ locs, zA al q.base) (k : zGo p l e R s m args below meth c cells slots Q al CA D y h x) : W p l e R s m args below meth c H locs cells slots Q (F0 m pc ls (st.map (zv al))) := by
  have hd := zdc_of hok rfl
  obtain ⟨hx, hb, -⟩ := X
  simp only [zbase, zgo] at hs
  split at hs
  · split at hs
    · rename_i hc
      exact lv_dup hx hb hd (by rw [zv_cat]; exact hc) (k.same hH hlo hs hL)
    · simp at hs
  · simp at hs
theorem zs_pop  (X : zCtx p R s m args meth c al CA D y) (hok : zOK y pc .pop ax = true) (hs : zbase kr pc .pop ax L st h = some x) (hH : zHH al CA D h H) (hL : zLh al ls (zMt y).2.2.1 L) (hlo : ∀ q ∈ locs, zA al q.base) (k : zGo p l e R s m args below meth c cells slots Q al CA D y h x) : W p l e R s m args below meth c H locs cells slots Q (F0 m pc ls (st.map (zv al))) := by
  have hd := zdc_of hok rfl
  obtain ⟨hx, hb, -⟩ := X
  simp only [zbase, zgo] at hs
  split at hs
  · split at hs
    · rename_i hc
      exact lv_pop hx hb hd (by rw [zv_cat]; exact hc) (k.same hH hlo hs hL)
    · simp at hs
  · simp at hs
theorem zs_dup_x1  (X : zCtx p R s m args meth c al CA D y) (hok : zOK y pc .dup_x1 ax = true) (hs : zbase kr pc .dup_x1 ax L st h = some x) (hH : zHH al CA D h H) (hL : zLh al ls (zMt y).2.2.1 L) (hlo : ∀ q ∈ locs, zA al q.base) (k : zGo p l e R s m args below meth c cells slots Q al CA D y h x) : W p l e R s m args below meth c H locs cells slots Q (F0 m pc ls (st.map (zv al))) := by
  have hd := zdc_of hok rfl
  obtain ⟨hx, hb, -⟩ := X
  simp only [zbase, zgo] at hs
  split at hs
  · split at hs
    · rename_i hc
      exact lv_dup_x1 hx hb hd (by rw [zv_cat]; exact hc.1) (by rw [zv_cat]; exact hc.2) (k.same hH hlo hs hL)
    · simp at hs
  · simp at hs
theorem zs_dup2  (X : zCtx p R s m args meth c al CA D y) (hok : zOK y pc .dup2 ax = true) (hs : zbase kr pc .dup2 ax L st h = some x) (hH : zHH al CA D h H) (hL : zLh al ls (zMt y).2.2.1 L) (hlo : ∀ q ∈ locs, zA al q.base) (k : zGo p l e R s m args below meth c cells slots Q al CA D y h x) : W p l e R s m args below meth c H locs cells slots Q (F0 m pc ls (st.map (zv al))) := by
  have hd := zdc_of hok rfl
  obtain ⟨hx, hb, -⟩ := X
  simp only [zbase, zgo] at hs
  split at hs
  · split at hs
    · rename_i hc
      exact lv_dup2_11 hx hb hd (by rw [zv_cat]; exact hc.1) (by rw [zv_cat]; exact hc.2) (k.same hH hlo hs hL)
    · simp at hs
  · simp at hs
theorem zs_dup_x2  (X : zCtx p R s m args meth c al CA D y) (hok : zOK y pc .dup_x2 ax = true) (hs : zbase kr pc .dup_x2 ax L st h = some x) (hH : zHH al CA D h H) (hL : zLh al ls (zMt y).2.2.1 L) (hlo : ∀ q ∈ locs, zA al q.base) (k : zGo p l e R s m args below meth c cells slots Q al CA D y h x) : W p l e R s m args below meth c H locs cells slots Q (F0 m pc ls (st.map (zv al))) := by
  have hd := zdc_of hok rfl
  obtain ⟨hx, hb, -⟩ := X
  simp only [zbase, zgo] at hs
  split at hs
  · split at hs
    · rename_i hc
      exact lv_dup_x2 hx hb hd (by rw [zv_cat]; exact hc.1) (by rw [zv_cat]; exact hc.2.1) (by rw [zv_cat]; exact hc.2.2) (k.same hH hlo hs hL)
    · simp at hs
  · simp at hs
theorem zs_ifCond {cd : Jvm.ClassFile.Cond} {off : Int} (X : zCtx p R s m args meth c al CA D y) (hok : zOK y pc (.ifCond cd off) ax = true) (hs : zbase kr pc (.ifCond cd off) ax L st h = some x) (hH : zHH al CA D h H) (hL : zLh al ls (zMt y).2.2.1 L) (hlo : ∀ q ∈ locs, zA al q.base) (k : zGo p l e R s m args below meth c cells slots Q al CA D y h x) : W p l e R s m args below meth c H locs cells slots Q (F0 m pc ls (st.map (zv al))) := by
  have hd := zdc_of hok rfl
  obtain ⟨hx, hb, -⟩ := X
  simp only [zbase] at hs
  split at hs
  · simp only [zif] at hs
    split at hs
    · rename_i t r
      simp only [zOK, Bool.and_eq_true, decide_eq_true_eq] at hok
      have ht := hok.2
      cases cd
      · exact lv_if_eq hx hb hd ht (fun q => k.same hH hlo (by simpa [zcnd, q] using hs) hL) (fun q => k.same hH hlo (by simpa [zcnd, q] using hs) hL)
      · exact lv_if_ne hx hb hd ht (fun q => k.same hH hlo (by simpa [zcnd, q] using hs) hL) (fun q => k.same hH hlo (by simpa [zcnd, q] using hs) hL)
      · exact lv_if_lt hx hb hd ht (fun q => k.same hH hlo (by simpa [zcnd, q] using hs) hL) (fun q => k.same hH hlo (by simpa [zcnd, q] using hs) hL)
      · exact lv_if_ge hx hb hd ht (fun q => k.same hH hlo (by simpa [zcnd, q] using hs) hL) (fun q => k.same hH hlo (by simpa [zcnd, q] using hs) hL)
      · exact lv_if_gt hx hb hd ht (fun q => k.same hH hlo (by simpa [zcnd, q] using hs) hL) (fun q => k.same hH hlo (by simpa [zcnd, q] using hs) hL)
      · exact lv_if_le hx hb hd ht (fun q => k.same hH hlo (by simpa [zcnd, q] using hs) hL) (fun q => k.same hH hlo (by simpa [zcnd, q] using hs) hL)
    · simp at hs
  · simp at hs
theorem zs_if_icmp {cd : Jvm.ClassFile.Cond} {off : Int} (X : zCtx p R s m args meth c al CA D y) (hok : zOK y pc (.if_icmp cd off) ax = true) (hs : zbase kr pc (.if_icmp cd off) ax L st h = some x) (hH : zHH al CA D h H) (hL : zLh al ls (zMt y).2.2.1 L) (hlo : ∀ q ∈ locs, zA al q.base) (k : zGo p l e R s m args below meth c cells slots Q al CA D y h x) : W p l e R s m args below meth c H locs cells slots Q (F0 m pc ls (st.map (zv al))) := by
  have hd := zdc_of hok rfl
  obtain ⟨hx, hb, -⟩ := X
  simp only [zbase] at hs
  split at hs
  · simp only [zif] at hs
    split at hs
    · rename_i t r
      simp only [zOK, Bool.and_eq_true, decide_eq_true_eq] at hok
      have ht := hok.2
      cases cd
      · exact lv_icmp_eq hx hb hd ht (fun q => k.same hH hlo (by simpa [zcnd, q] using hs) hL) (fun q => k.same hH hlo (by simpa [zcnd, q] using hs) hL)
      · exact lv_icmp_ne hx hb hd ht (fun q => k.same hH hlo (by simpa [zcnd, q] using hs) hL) (fun q => k.same hH hlo (by simpa [zcnd, q] using hs) hL)
      · exact lv_icmp_lt hx hb hd ht (fun q => k.same hH hlo (by simpa [zcnd, q] using hs) hL) (fun q => k.same hH hlo (by simpa [zcnd, q] using hs) hL)
      · exact lv_icmp_ge hx hb hd ht (fun q => k.same hH hlo (by simpa [zcnd, q] using hs) hL) (fun q => k.same hH hlo (by simpa [zcnd, q] using hs) hL)
      · exact lv_icmp_gt hx hb hd ht (fun q => k.same hH hlo (by simpa [zcnd, q] using hs) hL) (fun q => k.same hH hlo (by simpa [zcnd, q] using hs) hL)
      · exact lv_icmp_le hx hb hd ht (fun q => k.same hH hlo (by simpa [zcnd, q] using hs) hL) (fun q => k.same hH hlo (by simpa [zcnd, q] using hs) hL)
    · simp at hs
  · simp at hs
theorem zs_goto {off : Int} (X : zCtx p R s m args meth c al CA D y) (hok : zOK y pc (.goto off) ax = true) (hs : zbase kr pc (.goto off) ax L st h = some x) (hH : zHH al CA D h H) (hL : zLh al ls (zMt y).2.2.1 L) (hlo : ∀ q ∈ locs, zA al q.base) (k : zGo p l e R s m args below meth c cells slots Q al CA D y h x) : W p l e R s m args below meth c H locs cells slots Q (F0 m pc ls (st.map (zv al))) := by
  have hd := zdc_of hok rfl
  obtain ⟨hx, hb, -⟩ := X
  simp only [zbase, zjump] at hs
  split at hs
  · rename_i t ht
    cases ax with
    | nil => simp at ht
    | cons t2 r =>
      simp only [List.getElem?_cons_zero, Option.some.injEq] at ht
      subst ht
      simp only [zOK, Bool.and_eq_true, decide_eq_true_eq] at hok
      exact lv_goto hx hb hd hok.2 (k.same hH hlo hs hL)
  · simp at hs
end ZST
end
section
/-! switches, fields, new cells, rows -/
theorem zcl_ok {ci : Nat} (h : ci < zcl.length) : (∀ w ∈ u_ws (zcN ci) (zcF ci) (zcK ci), w ∈ zall) ∧ (∀ k, k < zcK ci → parseFieldDescriptor (zcF ci k).2.2.1 = some (ztyp ci k)) ∧ (∀ a, a < zcK ci → ∀ b, b < zcK ci → a ≠ b → (zcF ci a).2.1 ≠ (zcF ci b).2.1) := by
  have hk := zcl_all ci h
  simp only [zlayOK, List.all_eq_true, List.mem_range, Bool.and_eq_true, decide_eq_true_eq] at hk
  refine ⟨fun w hw => ?_, fun k hk2 => (hk k hk2).1.2, fun a ha b hb hab => ?_⟩
  · obtain ⟨k, hk2, rfl⟩ := List.mem_map.mp hw
    exact zw_mem (hk k (List.mem_range.mp hk2)).1.1
  · rcases (hk b hb).2 a ha with q | q
    · exact absurd q hab
    · exact q
theorem zP1 {al : Nat → Nat} {CA : Nat → ClassId} {D : va_G} {i : Nat} {e : zE} {H : Heap} (h : zAt al CA D i e H) : va_P D zcl [(al i, zmc al CA e)] H := by
  intro k q hk
  rcases k with _ | k
  · simp only [List.getElem?_cons_zero, Option.some.injEq] at hk
    subst hk
    exact h.2
  · simp at hk
theorem zoff : ∀ (l : List Int) (ts : List Nat) (pc k t : Nat), l.map (fun o => (pc : Int) + o) = ts.map Int.ofNat → ts[k]? = some t → ∃ o, l[k]? = some o ∧ (pc : Int) + o = (t : Int) := by
  intro l ts pc k t h ht
  have h1 : (l.map (fun o => (pc : Int) + o))[k]? = some (t : Int) := by
    rw [h, List.getElem?_map, ht]
    rfl
  rw [List.getElem?_map] at h1
  cases ho : l[k]? with
  | none => rw [ho] at h1; simp at h1
  | some o =>
    rw [ho] at h1
    exact ⟨o, rfl, Option.some.inj h1⟩
theorem zlk_ge : ∀ (ps : List (Int × Int)) (x : Int) (k : Nat), zlk ps x k = 0 ∨ k ≤ zlk ps x k
  | [], _, _ => Or.inl rfl
  | (a, o) :: r, x, k => by
    unfold zlk
    split
    · exact Or.inr (Nat.le_refl _)
    · rcases zlk_ge r x (k + 1) with h | h
      · exact Or.inl h
      · exact Or.inr (by omega)
theorem zlk_off : ∀ (ps : List (Int × Int)) (x d : Int) (k pc t0 t : Nat) (ts : List Nat), ps.map (fun o => (pc : Int) + o.2) = ts.map Int.ofNat → (pc : Int) + d = (t0 : Int) → (if zlk ps x (k + 1) = 0 then some t0 else ts[zlk ps x (k + 1) - (k + 1)]?) = some t → (pc : Int) + Op.lookupswitch.offset ps d x = (t : Int)
  | [], x, d, k, pc, t0, t, ts, _, h2, h3 => by
    simp only [zlk, if_true, Option.some.injEq] at h3
    subst h3
    exact h2
  | (a, o) :: r, x, d, k, pc, t0, t, ts, h1, h2, h3 => by
    cases ts with
    | nil => simp at h1
    | cons u ts =>
      simp only [List.map_cons, List.cons.injEq] at h1
      unfold zlk at h3
      rw [Op.lookupswitch.offset_cons]
      by_cases hx : x = a
      · rw [if_pos hx] at h3
        rw [if_pos hx.symm]
        rw [if_neg (by omega), Nat.sub_self] at h3
        simp only [List.getElem?_cons_zero, Option.some.injEq] at h3
        subst h3
        exact h1.1
      · rw [if_neg hx] at h3
        rw [if_neg (Ne.symm hx)]
        refine zlk_off r x d (k + 1) pc t0 t ts h1.2 h2 ?_
        by_cases hz : zlk r x (k + 1 + 1) = 0
        · rw [if_pos hz] at h3 ⊢
          exact h3
        · rw [if_neg hz] at h3 ⊢
          rcases zlk_ge r x (k + 1 + 1) with q | q
          · exact absurd q hz
          · rw [show zlk r x (k + 1 + 1) - (k + 1) = (zlk r x (k + 1 + 1) - (k + 1 + 1)) + 1 by omega, List.getElem?_cons_succ] at h3
            exact h3
section ZST2
variable {p : Program} {l : Launch} {e : Env} {R : Room} {s : State} {m : MethodId} {args : Array Value} {below : List Frame} {meth : Method} {c : Code} {H : Heap} {locs : List Loc} {cells slots : Nat} {Q : State → Prop}
variable {al : Nat → Nat} {CA : Nat → ClassId} {D : va_G} {y pc : Nat} {ls : Array Slot} {ax : List Nat} {L : zL} {st : List Value} {h : zH} {x : zR ⊕ zS} {kr : Nat}
theorem zs_tableswitch {d lo hi : Int} {offs : Array Int} (X : zCtx p R s m args meth c al CA D y) (hok : zOK y pc (.tableswitch d lo hi offs) ax = true) (hs : zbase kr pc (.tableswitch d lo hi offs) ax L st h = some x) (hH : zHH al CA D h H) (hL : zLh al ls (zMt y).2.2.1 L) (hlo : ∀ q ∈ locs, zA al q.base) (k : zGo p l e R s m args below meth c cells slots Q al CA D y h x) : W p l e R s m args below meth c H locs cells slots Q (F0 m pc ls (st.map (zv al))) := by
  obtain ⟨nn, hd⟩ := zdc_sw hok
  obtain ⟨hx, hb, -⟩ := X
  simp only [zbase] at hs
  cases ax with
  | nil => simp [zOK] at hok
  | cons t0 ts =>
    simp only [zOK, Bool.and_eq_true, decide_eq_true_eq] at hok
    obtain ⟨-, ⟨⟨h1, h2⟩, -⟩, -⟩ := hok
    split at hs
    · rename_i v st2
      simp only [zjump] at hs
      split at hs
      · rename_i hout
        simp only [List.getElem?_cons_zero] at hs
        exact lv_tableOut hx hb hd hout h1 (k.same hH hlo hs hL)
      · rename_i hin
        simp only [List.getElem?_cons_succ] at hs
        split at hs
        · rename_i t ht
          obtain ⟨o, ho, hp⟩ := zoff _ _ _ _ _ h2 ht
          exact lv_tableIn hx hb hd (fun q => hin (Or.inl q)) (fun q => hin (Or.inr q)) (by rw [← Array.getElem?_toList]; exact ho) hp (k.same hH hlo hs hL)
        · simp at hs
    · simp at hs
theorem zs_lookupswitch {d : Int} {ps : Array (Int × Int)} (X : zCtx p R s m args meth c al CA D y) (hok : zOK y pc (.lookupswitch d ps) ax = true) (hs : zbase kr pc (.lookupswitch d ps) ax L st h = some x) (hH : zHH al CA D h H) (hL : zLh al ls (zMt y).2.2.1 L) (hlo : ∀ q ∈ locs, zA al q.base) (k : zGo p l e R s m args below meth c cells slots Q al CA D y h x) : W p l e R s m args below meth c H locs cells slots Q (F0 m pc ls (st.map (zv al))) := by
  obtain ⟨nn, hd⟩ := zdc_sw hok
  obtain ⟨hx, hb, -⟩ := X
  simp only [zbase] at hs
  cases ax with
  | nil => simp [zOK] at hok
  | cons t0 ts =>
    simp only [zOK, Bool.and_eq_true, decide_eq_true_eq] at hok
    obtain ⟨-, ⟨h1, h2⟩, h3⟩ := hok
    split at hs
    · rename_i v st2
      simp only [zjump] at hs
      split at hs
      · rename_i t ht
        refine lv_lookup hx hb hd h3 rfl (zlk_off ps.toList v.toInt d 0 pc t0 t ts h2 h1 ?_) (k.same hH hlo hs hL)
        by_cases hz : zlk ps.toList v.toInt (0 + 1) = 0
        · rw [if_pos hz]
          rw [show zlk ps.toList v.toInt 1 = 0 from hz] at ht
          exact ht
        · rw [if_neg hz]
          rcases zlk_ge ps.toList v.toInt (0 + 1) with q | q
          · exact absurd q hz
          · rw [show zlk ps.toList v.toInt 1 = (zlk ps.toList v.toInt (0 + 1) - (0 + 1)) + 1 by show zlk ps.toList v.toInt (0 + 1) = _; omega] at ht
            exact ht
      · simp at hs
    · simp at hs
theorem zs_getfield {ix : Nat} (X : zCtx p R s m args meth c al CA D y) (hok : zOK y pc (.getfield ix) ax = true) (hs : zbase kr pc (.getfield ix) ax L st h = some x) (hH : zHH al CA D h H) (hL : zLh al ls (zMt y).2.2.1 L) (hlo : ∀ q ∈ locs, zA al q.base) (k : zGo p l e R s m args below meth c cells slots Q al CA D y h x) : W p l e R s m args below meth c H locs cells slots Q (F0 m pc ls (st.map (zv al))) := by
  have hd := zdc_of hok rfl
  obtain ⟨hx, hb, -, hown, hts, hK, -⟩ := X
  simp only [zbase, zget1, zgo] at hs
  split at hs
  · rename_i i st2 ci fk r
    split at hs
    · rename_i cc fs hc
      split at hs
      · rename_i hci
        subst hci
        split at hs
        · rename_i v hv
          rcases r with _ | ⟨q1, _ | ⟨q2, r⟩⟩
          · simp [zOK] at hok
          · simp only [zOK, Bool.and_eq_true, decide_eq_true_eq] at hok
            obtain ⟨-, ⟨h1, h2⟩, h3⟩ := hok
            have hP := zP1 (hH.2.2 _ _ hc)
            exact va_get hx hb hts (zcl_ok h1).1 hown hK.1 hP 0 (fs := fs.map (zv al)) rfl (zcl_at h1) fk h2 (hts _ (zw_mem h3)) (fun _ q => q) (by rw [List.getElem?_map, hv]; rfl) hd (k.same hH hlo hs hL)
          · simp [zOK] at hok
        · simp at hs
      · simp at hs
    · simp at hs
  · simp at hs
theorem zfit_ok {al : Nat → Nat} {ty : FieldType} {kd : Nat} {v : Value} (h1 : zkd ty = kd) (h2 : kd < 2) (h3 : zfits kd v = true) : narrow ty (zv al v) = zv al v ∧ fits ty (zv al v) = true := by
  subst h1
  cases ty <;> simp [zkd] at h2 h3 ⊢ <;> cases v <;> simp [zfits] at h3 <;> exact ⟨rfl, rfl⟩
theorem zs_putfield {ix : Nat} (X : zCtx p R s m args meth c al CA D y) (hok : zOK y pc (.putfield ix) ax = true) (hs : zbase kr pc (.putfield ix) ax L st h = some x) (hH : zHH al CA D h H) (hL : zLh al ls (zMt y).2.2.1 L) (hlo : ∀ q ∈ locs, zA al q.base) (k : zGo p l e R s m args below meth c cells slots Q al CA D y h x) : W p l e R s m args below meth c H locs cells slots Q (F0 m pc ls (st.map (zv al))) := by
  have hd := zdc_of hok rfl
  obtain ⟨hx, hb, -, hown, hts, hK, hal, -, -, hini⟩ := X
  simp only [zbase, zput1, zgo] at hs
  split at hs
  · rename_i v i st2 ci fk kd r
    split at hs
    · rename_i cc fs hc
      split at hs
      · rename_i hci
        obtain ⟨hci, hlen, hfit⟩ := hci
        subst hci
        rcases r with _ | ⟨q1, _ | ⟨q2, r⟩⟩
        · simp [zOK] at hok
        · simp only [zOK, Bool.and_eq_true, decide_eq_true_eq, Bool.or_eq_true, beq_iff_eq] at hok
          obtain ⟨-, ⟨⟨⟨⟨h1, h2⟩, h3⟩, h4⟩, h5⟩, h6⟩ := hok
          obtain ⟨hin, hty, hnm⟩ := zcl_ok h1
          have hz := zfit_ok (al := al) h4 h5 hfit
          have hat := hH.2.2 _ _ hc
          have hap := va_apart (own := (zMt y).1.cls) hts hin (ztyp cc) hty hnm hK.1 (zcl_at h1)
          obtain ⟨r, g1, cell, p1, p2, p3, p4⟩ := hat.2
          cases (zcl_at h1).symm.trans g1
          obtain ⟨hS, hfc, kC, hkC, hkind⟩ := hK.1.1 cc _ (zcl_at h1)
          obtain ⟨cf, kf, fi, f, hi, hsl⟩ := hS fk h2
          have hlay := hts _ (hin _ (u_in_lay h2))
          unfold u_lay at hlay
          have hst := (u_facts hfc hkC (u_lays hts hin h2) hi).1
          have hlink := hts _ (zw_mem h3)
          have fin : ∀ H' : Heap, H'[al (i + 1)]? = some (cell.setSlot f.slot (zv al v)) → H'.size = H.size → (∀ q, q ≠ al (i + 1) → H'[q]? = H[q]?) → W p l e R s m args below meth c H' (locs ++ [⟨al (i + 1), f.slot⟩]) cells slots Q (F0 m (pc + 3) ls (st2.map (zv al))) := fun H' e1 e2 e3 => by
            rw [hsl] at e1
            refine k.put hc (by simp [zsz]) (zHH_set hal hH (List.getElem?_eq_some_iff.mp hc).1 e2 e3 ⟨fun a ha => (by cases ha), ?_⟩) (fun q hq => ?_) hs hL
            · refine ⟨_, zcl_at h1, t_OB.to (V := updV (vp_V (fs.map (zv al))) fk (zv al v)) ⟨_, e1, p2, p3, t_set p4 hap h2 _⟩ (fun j _ => ?_)⟩
              rw [vp_updV_set (by rw [List.length_map]; exact hlen) _ j]
              show vp_V ((fs.map (zv al)).set fk (zv al v)) j = vp_V ((fs.set fk v).map (zv al)) j
              rw [List.map_set]
            · rcases List.mem_append.mp hq with q | q
              · exact hlo _ q
              · simp only [List.mem_singleton] at q
                subst q
                exact ⟨i + 1, by omega, rfl⟩
          rcases h6 with h6 | h6
          · rw [if_neg (by rw [h6]; decide)] at hlay
            have h7 := u_store hfc hkC hkind hlay hi (hty fk h2) hz.1 hz.2
            exact W.putK hx hb (f := f) ⟨hown, hlink, ⟨_, _, _, hi⟩, hst⟩ (by rw [p2]; exact h7) p1 p3 (by rw [hsl]; exact k2_hasslot (p4 fk h2)) rfl rfl hd fin
          · by_cases hf : (zcF cc fk).2.2.2 = true
            · rw [if_pos hf] at hlay
              have hcf : m.cls = cf := by
                obtain ⟨_, _, c', _, _, _, -, -, hf', -, -, -, hown2, -⟩ := Cond.laysFinal_spec hlay
                have e1 : c' = cf := by have := hi.symm.trans hf'; simp at this; exact this.1.symm
                rw [h6.2] at hown2
                rw [← e1]; exact Option.some.inj (hown.symm.trans hown2)
              have h7 := u_fits hfc hkC hkind (Or.inr hlay) hi (hty fk h2) hz.1 hz.2
              exact W.putFinK hx hb hown hlink hi hst hcf (hini h6.1) (by rw [p2]; exact h7) p1 p3 (by rw [hsl]; exact k2_hasslot (p4 fk h2)) rfl rfl hd fin
            · rw [if_neg hf] at hlay
              have h7 := u_store hfc hkC hkind hlay hi (hty fk h2) hz.1 hz.2
              exact W.putK hx hb (f := f) ⟨hown, hlink, ⟨_, _, _, hi⟩, hst⟩ (by rw [p2]; exact h7) p1 p3 (by rw [hsl]; exact k2_hasslot (p4 fk h2)) rfl rfl hd fin
        · simp [zOK] at hok
      · simp at hs
    · simp at hs
  · simp at hs
end ZST2
end
section
/-! new cells, rows -/
section ZST3
variable {p : Program} {l : Launch} {e : Env} {R : Room} {s : State} {m : MethodId} {args : Array Value} {below : List Frame} {meth : Method} {c : Code} {H : Heap} {locs : List Loc} {cells slots : Nat} {Q : State → Prop}
variable {al : Nat → Nat} {CA : Nat → ClassId} {D : va_G} {y pc : Nat} {ls : Array Slot} {ax : List Nat} {L : zL} {st : List Value} {h : zH} {x : zR ⊕ zS} {kr : Nat}
theorem zs_new {ix : Nat} (X : zCtx p R s m args meth c al CA D y) (hok : zOK y pc (.new ix) ax = true) (hs : zbase kr pc (.new ix) ax L st h = some x) (hH : zHH al CA D h H) (hL : zLh al ls (zMt y).2.2.1 L) (hlo : ∀ q ∈ locs, zA al q.base) (hr : cells + ((zhp x).length - h.length) ≤ R.cells ∧ slots + (zss (zhp x) - zss h) ≤ R.slots) (k : zGo p l e R s m args below meth c cells slots Q al CA D y h x) : W p l e R s m args below meth c H locs cells slots Q (F0 m pc ls (st.map (zv al))) := by
  have hd := zdc_of hok rfl
  obtain ⟨hx, hb, -, hown, hts, hK, hal, -⟩ := X
  simp only [zbase, znew, zgo] at hs
  split at hs
  · rename_i ci q1 q2 q3 ds
    simp only [zOK, Bool.and_eq_true, decide_eq_true_eq, List.all_eq_true, List.mem_range] at hok
    obtain ⟨-, ⟨⟨⟨⟨h1, h2⟩, h3⟩, h4⟩, h5⟩, h6⟩ := hok
    obtain ⟨hin, hty, hnm⟩ := zcl_ok h1
    have hxe := Option.some.inj hs
    rw [← hxe] at hr
    simp only [zhp, List.length_append, List.length_singleton, zss_app, zsz, Nat.add_sub_cancel_left, h5] at hr
    have hKn := hK.1.1 ci _ (zcl_at h1)
    refine W.newcK hx hb hown (hts _ (zw_mem h2)) (hts _ (zw_mem h3)) (hts _ (zw_mem h4)) rfl hd hr.1 hr.2 hKn.2.1 rfl fun H1 kC hkC e1 z1 o1 => ?_
    have hnew := hH.2.1
    have hHH : zHH al CA D (h ++ [.inr (ci, zdef ds)]) H1 := by
      refine zHH_app hal hH z1 o1 ⟨fun a ha => (by cases ha), _, zcl_at h1, ?_⟩
      show t_OB (al h.length) (D.1 ci) (zcK ci) (D.2 ci) H1 (vp_V ((zdef ds).map (zv al)))
      rw [← hnew]
      refine (u_born (ztyp ci) hts hin hKn hkC e1 hty).to fun j hj => ?_
      rw [h6 j hj]
      unfold vp_V
      rw [List.getD_eq_getElem?_getD, List.getD_eq_getElem?_getD, List.getElem?_map]
      cases hg : (zdef ds)[j]? with
      | none => rfl
      | some v =>
        have : v = .int 0 ∨ v = .null := by
          have hm := List.mem_of_getElem? hg
          clear hg h6 h5 hs hr hxe
          induction ds with
          | nil => simp [zdef] at hm
          | cons a r ih =>
            cases a with
            | zero =>
              simp only [zdef] at hm
              rcases List.mem_cons.mp hm with q | q
              · exact Or.inl q
              · exact ih q
            | succ a =>
              simp only [zdef] at hm
              rcases List.mem_cons.mp hm with q | q
              · exact Or.inr q
              · exact ih q
        rcases this with rfl | rfl <;> rfl
    have := k.app (H' := H1) hHH hlo hs hL
    rw [show zsz (.inr (ci, zdef ds)) = zcK ci from h5] at this
    rw [hnew]
    exact this
  · simp at hs
theorem zs_newarray {a : ArrayType} (X : zCtx p R s m args meth c al CA D y) (hok : zOK y pc (.newarray a) ax = true) (hs : zbase kr pc (.newarray a) ax L st h = some x) (hH : zHH al CA D h H) (hL : zLh al ls (zMt y).2.2.1 L) (hlo : ∀ q ∈ locs, zA al q.base) (hr : cells + ((zhp x).length - h.length) ≤ R.cells ∧ slots + (zss (zhp x) - zss h) ≤ R.slots) (k : zGo p l e R s m args below meth c cells slots Q al CA D y h x) : W p l e R s m args below meth c H locs cells slots Q (F0 m pc ls (st.map (zv al))) := by
  have hd := zdc_of hok rfl
  obtain ⟨hx, hb, -, hown, hts, hK, hal, -⟩ := X
  simp only [zbase, znewa, zgo] at hs
  split at hs
  · rename_i n st2 t r
    cases r with
    | nil => simp [zOK] at hok
    | cons q1 r =>
      simp only [zOK, Bool.and_eq_true, decide_eq_true_eq] at hok
      obtain ⟨-, ⟨⟨h1, h2⟩, h3⟩, h4⟩ := hok
      split at hs
      · simp at hs
      · rename_i hn
        have hn1 : ¬ n < 0 := fun q => hn (Or.inl q)
        have hn2 : n.toNatClampNeg ≤ 10000 := Nat.not_lt.mp fun q => hn (Or.inr q)
        have hxe := Option.some.inj hs
        rw [← hxe] at hr
        have hz : zsz (.inl (t, zdefA t n.toNatClampNeg)) = n.toNatClampNeg := by
          show (zdefA t n.toNatClampNeg).1 = _
          unfold zdefA
          split <;> rfl
        simp only [zhp, List.length_append, List.length_singleton, zss_app, hz, Nat.add_sub_cancel_left] at hr
        have hkt : newarray.typeOf a = zkty t := by
          subst h1
          cases a <;> first | rfl | simp [zat1] at h2
        refine va_newaK hx hb (hts _ (zw_mem h4)) rfl hd rfl hn1 rfl (by
          have : componentBytes (newarray.typeOf a) ≤ 8 := by cases a <;> decide
          calc n.toNatClampNeg * componentBytes (newarray.typeOf a) ≤ 10000 * 8 := Nat.mul_le_mul hn2 this
            _ ≤ 536870912 := by decide) hr.1 hr.2 rfl fun H1 cA e1 z1 o1 hAr hNm => ?_
        have hnew := hH.2.1
        have hcA : cA = CA t := by
          have h9 := (hK.2.1 t h3).2
          rw [← hkt] at h9
          rw [hNm] at h9
          exact Option.some.inj h9
        have hHH : zHH al CA D (h ++ [.inl (t, zdefA t n.toNatClampNeg)]) H1 := by
          refine zHH_app hal hH z1 o1 ⟨fun b hb2 => (by cases hb2; exact h3), ?_⟩
          show H1[al h.length]? = some (vp_cell (CA t) (zca al (zdefA t n.toNatClampNeg)))
          rw [← hnew, e1, hcA, hkt]
          rcases (show t = 0 ∨ t = 1 ∨ t = 2 by omega) with rfl | rfl | rfl <;> rfl
        have := k.app (H' := H1) hHH hlo hs hL
        rw [hz] at this
        rw [hnew]
        exact this
  · simp at hs
theorem zs_anewarray {ix : Nat} (X : zCtx p R s m args meth c al CA D y) (hok : zOK y pc (.anewarray ix) ax = true) (hs : zbase kr pc (.anewarray ix) ax L st h = some x) (hH : zHH al CA D h H) (hL : zLh al ls (zMt y).2.2.1 L) (hlo : ∀ q ∈ locs, zA al q.base) (hr : cells + ((zhp x).length - h.length) ≤ R.cells ∧ slots + (zss (zhp x) - zss h) ≤ R.slots) (k : zGo p l e R s m args below meth c cells slots Q al CA D y h x) : W p l e R s m args below meth c H locs cells slots Q (F0 m pc ls (st.map (zv al))) := by
  have hd := zdc_of hok rfl
  obtain ⟨hx, hb, -, hown, hts, hK, hal, -⟩ := X
  simp only [zbase, znewa, zgo] at hs
  split at hs
  · rename_i n st2 t r
    cases r with
    | nil => simp [zOK] at hok
    | cons q1 r =>
      simp only [zOK, Bool.and_eq_true, decide_eq_true_eq] at hok
      obtain ⟨-, ⟨h1, h3⟩, h4⟩ := hok
      subst h1
      split at hs
      · simp at hs
      · rename_i hn
        have hn1 : ¬ n < 0 := fun q => hn (Or.inl q)
        have hn2 : n.toNatClampNeg ≤ 10000 := Nat.not_lt.mp fun q => hn (Or.inr q)
        have hxe := Option.some.inj hs
        rw [← hxe] at hr
        have hz : zsz (.inl (3, zdefA 3 n.toNatClampNeg)) = n.toNatClampNeg := rfl
        simp only [zhp, List.length_append, List.length_singleton, zss_app, hz, Nat.add_sub_cancel_left] at hr
        obtain ⟨-, hAO⟩ := hK.2.2.1 h3
        refine W.anewA (t := .int) hx hb hown (hts _ (zw_mem h4)) hAO rfl hd rfl hn1 (by omega) hr.1 hr.2 fun cA kA comp hNm hkA hkind hcomp => ?_
        have hnew := hH.2.1
        have hcA : cA = CA 3 := by
          have h9 := (hK.2.1 3 h3).2
          rw [show zkty 3 = .array .int from rfl, hNm] at h9
          exact Option.some.inj h9
        have hHH : zHH al CA D (h ++ [.inl (3, zdefA 3 n.toNatClampNeg)]) (H.push { cls := cA, slots := Array.replicate n.toNatClampNeg .null, vm := .none }) := by
          refine zHH_app hal hH (by simp) (fun q hq => by rw [Array.getElem?_push, if_neg (Nat.ne_of_lt hq)]) ⟨fun b hb2 => (by cases hb2; exact h3), ?_⟩
          show (H.push _)[al h.length]? = some (vp_cell (CA 3) (zca al (zdefA 3 n.toNatClampNeg)))
          rw [← hnew, arrV_new, hcA]
          simp
          rfl
        have := k.app hHH hlo hs hL
        rw [hz] at this
        rw [hnew]
        exact this
  · simp at hs
theorem zs_arraylength (X : zCtx p R s m args meth c al CA D y) (hok : zOK y pc .arraylength ax = true) (hs : zbase kr pc .arraylength ax L st h = some x) (hH : zHH al CA D h H) (hL : zLh al ls (zMt y).2.2.1 L) (hlo : ∀ q ∈ locs, zA al q.base) (k : zGo p l e R s m args below meth c cells slots Q al CA D y h x) : W p l e R s m args below meth c H locs cells slots Q (F0 m pc ls (st.map (zv al))) := by
  have hd := zdc_of hok rfl
  obtain ⟨hx, hb, -, hown, hts, hK, -⟩ := X
  simp only [zbase, zalen, zgo] at hs
  split at hs
  · split at hs
    · rename_i i st2 _ t n f hc
      have hat := hH.2.2 _ _ hc
      have ht := (hK.2.1 t (hat.1 _ rfl)).1
      have hcell : H[al i]? = some (vp_cell (CA t) (zca al (n, f))) := hat.2
      obtain f | f | f | f | f := f
      · exact W.alen (n := Int32.ofNat n) hx hb hcell (ht n (fun j => .int (f j))) (by show (arrV _ _ _).slots.size.toInt32 = _; rw [arrV_size]; rfl) rfl rfl hd (k.same hH hlo hs hL)
      · exact W.alen (n := Int32.ofNat n) hx hb hcell (ht n (fun j => .long (f j))) (by show (arrV _ _ _).slots.size.toInt32 = _; rw [arrV_size]; rfl) rfl rfl hd (k.same hH hlo hs hL)
      · exact W.alen (n := Int32.ofNat n) hx hb hcell (ht n (fun j => .float (f j))) (by show (arrV _ _ _).slots.size.toInt32 = _; rw [arrV_size]; rfl) rfl rfl hd (k.same hH hlo hs hL)
      · exact W.alen (n := Int32.ofNat n) hx hb hcell (ht n (fun j => .double (f j))) (by show (arrV _ _ _).slots.size.toInt32 = _; rw [arrV_size]; rfl) rfl rfl hd (k.same hH hlo hs hL)
      · exact W.alen (n := Int32.ofNat n) hx hb hcell (ht n (fun j => va_rf ((f j).map al))) (by show (arrV _ _ _).slots.size.toInt32 = _; rw [arrV_size]; rfl) rfl rfl hd (k.same hH hlo hs hL)
    · simp at hs
  · simp at hs
theorem zs_iaload (X : zCtx p R s m args meth c al CA D y) (hok : zOK y pc .iaload ax = true) (hs : zbase kr pc .iaload ax L st h = some x) (hH : zHH al CA D h H) (hL : zLh al ls (zMt y).2.2.1 L) (hlo : ∀ q ∈ locs, zA al q.base) (k : zGo p l e R s m args below meth c cells slots Q al CA D y h x) : W p l e R s m args below meth c H locs cells slots Q (F0 m pc ls (st.map (zv al))) := by
  have hd := zdc_of hok rfl
  obtain ⟨hx, hb, -, hown, hts, hK, -⟩ := X
  simp only [zbase, ziald, zgo] at hs
  split at hs
  · split at hs
    · rename_i j i st2 _ n f hc
      split at hs
      · simp at hs
      · rename_i hin
        have hat := hH.2.2 _ _ hc
        have ht := (hK.2.1 0 (hat.1 _ rfl)).1
        have hlt : j.toNatClampNeg < n := Nat.not_le.mp fun q => hin (Or.inr q)
        exact W.iald (v := .int (f j.toNatClampNeg)) hx hb (show H[al i]? = some (arrV (CA 0) n (fun j => .int (f j))) from hat.2) (ht n (fun j => .int (f j))) (fun q => by cases q) (by rw [arrV_size]; exact hin) (by rw [arrV_read _ _ hlt]) rfl rfl hd (k.same hH hlo hs hL)
    · simp at hs
  · simp at hs
theorem zs_laload (X : zCtx p R s m args meth c al CA D y) (hok : zOK y pc .laload ax = true) (hs : zbase kr pc .laload ax L st h = some x) (hH : zHH al CA D h H) (hL : zLh al ls (zMt y).2.2.1 L) (hlo : ∀ q ∈ locs, zA al q.base) (k : zGo p l e R s m args below meth c cells slots Q al CA D y h x) : W p l e R s m args below meth c H locs cells slots Q (F0 m pc ls (st.map (zv al))) := by
  have hd := zdc_of hok rfl
  obtain ⟨hx, hb, -, hown, hts, hK, -⟩ := X
  simp only [zbase, zlald, zgo] at hs
  split at hs
  · split at hs
    · rename_i j i st2 _ n f hc
      split at hs
      · simp at hs
      · rename_i hin
        have hat := hH.2.2 _ _ hc
        have ht := (hK.2.1 1 (hat.1 _ rfl)).1
        have hlt : j.toNatClampNeg < n := Nat.not_le.mp fun q => hin (Or.inr q)
        exact W.lald (v := .long (f j.toNatClampNeg)) hx hb (show H[al i]? = some (arrV (CA 1) n (fun j => .long (f j))) from hat.2) (ht n (fun j => .long (f j))) (fun q => by cases q) (by rw [arrV_size]; exact hin) (by rw [arrV_read _ _ hlt]) rfl rfl hd (k.same hH hlo hs hL)
    · simp at hs
  · simp at hs
theorem zs_aaload (X : zCtx p R s m args meth c al CA D y) (hok : zOK y pc .aaload ax = true) (hs : zbase kr pc .aaload ax L st h = some x) (hH : zHH al CA D h H) (hL : zLh al ls (zMt y).2.2.1 L) (hlo : ∀ q ∈ locs, zA al q.base) (k : zGo p l e R s m args below meth c cells slots Q al CA D y h x) : W p l e R s m args below meth c H locs cells slots Q (F0 m pc ls (st.map (zv al))) := by
  have hd := zdc_of hok rfl
  obtain ⟨hx, hb, -, hown, hts, hK, -⟩ := X
  simp only [zbase, zaald, zgo] at hs
  split at hs
  · split at hs
    · rename_i j i st2 _ n f hc
      split at hs
      · simp at hs
      · rename_i hin
        split at hs
        · rename_i r hr
          have hat := hH.2.2 _ _ hc
          have ht := (hK.2.1 3 (hat.1 _ rfl)).1
          have hlt : j.toNatClampNeg < n := Nat.not_le.mp fun q => hin (Or.inr q)
          refine W.aald (v := va_rf ((f j.toNatClampNeg).map al)) (ty := .array .int) hx hb (show H[al i]? = some (arrV (CA 3) n (fun j => va_rf ((f j).map al))) from hat.2) (ht n (fun j => va_rf ((f j).map al))) rfl (fun q => by cases q) (by rw [arrV_size]; exact hin) (by rw [arrV_read _ _ hlt]) rfl rfl hd ?_
          rw [hr]
          exact k.same hH hlo hs hL
        · simp at hs
    · simp at hs
  · simp at hs
theorem zlo_app {al : Nat → Nat} {locs : List Loc} {i j : Nat} (hlo : ∀ q ∈ locs, zA al q.base) : ∀ q ∈ locs ++ [(⟨al (i + 1), j⟩ : Loc)], zA al q.base := fun q hq => by
  rcases List.mem_append.mp hq with h | h
  · exact hlo _ h
  · simp only [List.mem_singleton] at h
    subst h
    exact ⟨i + 1, by omega, rfl⟩
theorem zs_iastore (X : zCtx p R s m args meth c al CA D y) (hok : zOK y pc .iastore ax = true) (hs : zbase kr pc .iastore ax L st h = some x) (hH : zHH al CA D h H) (hL : zLh al ls (zMt y).2.2.1 L) (hlo : ∀ q ∈ locs, zA al q.base) (k : zGo p l e R s m args below meth c cells slots Q al CA D y h x) : W p l e R s m args below meth c H locs cells slots Q (F0 m pc ls (st.map (zv al))) := by
  have hd := zdc_of hok rfl
  obtain ⟨hx, hb, -, hown, hts, hK, hal, -⟩ := X
  simp only [zbase, ziast, zgo] at hs
  split at hs
  · split at hs
    · rename_i v j i st2 _ n f hc
      split at hs
      · simp at hs
      · rename_i hin
        have hat := hH.2.2 _ _ hc
        have hkin : (0 : Nat) ∈ zkin := hat.1 _ rfl
        have ht := (hK.2.1 0 (hat.1 _ rfl)).1
        refine W.iast hx hb (show H[al (i + 1)]? = some (arrV (CA 0) n (fun j => .int (f j))) from hat.2) (ht n (fun j => .int (f j))) (fun q => by cases q) (by rw [arrV_size]; exact hin) rfl rfl hd fun H1 e1 z1 oq => ?_
        refine k.put hc (by simp [zsz]) (zHH_set hal hH (List.getElem?_eq_some_iff.mp hc).1 z1 oq ⟨fun a ha => (by cases ha; exact hkin), ?_⟩) (zlo_app hlo) hs hL
        show H1[al (i + 1)]? = some (arrV (CA 0) n (fun q => .int (upd f j.toNatClampNeg v q)))
        rw [e1, arrV_store]
        congr 2
        funext q
        by_cases hq : q = j.toNatClampNeg
        · subst hq
          simp [updV, upd]
        · simp [updV, upd, hq]
    · simp at hs
  · simp at hs
theorem zs_lastore (X : zCtx p R s m args meth c al CA D y) (hok : zOK y pc .lastore ax = true) (hs : zbase kr pc .lastore ax L st h = some x) (hH : zHH al CA D h H) (hL : zLh al ls (zMt y).2.2.1 L) (hlo : ∀ q ∈ locs, zA al q.base) (k : zGo p l e R s m args below meth c cells slots Q al CA D y h x) : W p l e R s m args below meth c H locs cells slots Q (F0 m pc ls (st.map (zv al))) := by
  have hd := zdc_of hok rfl
  obtain ⟨hx, hb, -, hown, hts, hK, hal, -⟩ := X
  simp only [zbase, zlast, zgo] at hs
  split at hs
  · split at hs
    · rename_i v j i st2 _ n f hc
      split at hs
      · simp at hs
      · rename_i hin
        have hat := hH.2.2 _ _ hc
        have hkin : (1 : Nat) ∈ zkin := hat.1 _ rfl
        have ht := (hK.2.1 1 (hat.1 _ rfl)).1
        refine W.last hx hb (show H[al (i + 1)]? = some (arrV (CA 1) n (fun j => .long (f j))) from hat.2) (ht n (fun j => .long (f j))) (fun q => by cases q) (by rw [arrV_size]; exact hin) rfl rfl hd fun H1 e1 z1 oq => ?_
        refine k.put hc (by simp [zsz]) (zHH_set hal hH (List.getElem?_eq_some_iff.mp hc).1 z1 oq ⟨fun a ha => (by cases ha; exact hkin), ?_⟩) (zlo_app hlo) hs hL
        show H1[al (i + 1)]? = some (arrV (CA 1) n (fun q => .long (vp_updL f j.toNatClampNeg v q)))
        rw [e1, arrV_store]
        congr 2
        funext q
        by_cases hq : q = j.toNatClampNeg
        · subst hq
          simp [updV, vp_updL]
        · simp [updV, vp_updL, hq]
    · simp at hs
  · simp at hs
theorem zs_aastore (X : zCtx p R s m args meth c al CA D y) (hok : zOK y pc .aastore ax = true) (hs : zbase kr pc .aastore ax L st h = some x) (hH : zHH al CA D h H) (hL : zLh al ls (zMt y).2.2.1 L) (hlo : ∀ q ∈ locs, zA al q.base) (k : zGo p l e R s m args below meth c cells slots Q al CA D y h x) : W p l e R s m args below meth c H locs cells slots Q (F0 m pc ls (st.map (zv al))) := by
  have hd := zdc_of hok rfl
  obtain ⟨hx, hb, -, hown, hts, hK, hal, -⟩ := X
  simp only [zbase, zaast, zgo] at hs
  split at hs
  · split at hs
    · rename_i r j i st2 _ n f hc
      split at hs
      · rename_i n2 f2 hc2
        split at hs
        · simp at hs
        · rename_i hin
          have hat := hH.2.2 _ _ hc
          have hkin : (3 : Nat) ∈ zkin := hat.1 _ rfl
          have hat2 := hH.2.2 _ _ hc2
          have ht := (hK.2.1 3 (hat.1 _ rfl)).1
          obtain ⟨⟨k3, kc, g1, g2, g3⟩, -⟩ := hK.2.2.1 (hat.1 _ rfl)
          have hin2 : ¬ j < 0 ∧ j.toNatClampNeg < n := ⟨fun q => hin (Or.inl q), Nat.not_le.mp fun q => hin (Or.inr q)⟩
          refine W.aast (cell := arrV (CA 3) n (fun j => va_rf ((f j).map al))) (cv := arrV (CA 0) n2 (fun j => .int (f2 j))) (t := .array .int) hx hb hat.2 (fun q h => by cases h) (fun h => by cases h) g1 g2 rfl g3 (by rw [arrV_size]; exact hin2) hat2.2 (fun q h => by cases h) g3 (va_asg _ _) rfl rfl hd fun H1 e1 z1 oq => ?_
          refine k.put hc (by simp [zsz]) (zHH_set hal hH (List.getElem?_eq_some_iff.mp hc).1 z1 oq ⟨fun a ha => (by cases ha; exact hkin), ?_⟩) (zlo_app hlo) hs hL
          show H1[al (i + 1)]? = some (arrV (CA 3) n (fun q => va_rf ((va_up f j.toNatClampNeg (some r) q).map al)))
          rw [e1, arrV_store]
          congr 2
          funext q
          by_cases hq : q = j.toNatClampNeg
          · subst hq
            simp [updV, va_up, va_rf]
          · simp [updV, va_up, hq]
      · simp at hs
    · simp at hs
  · simp at hs
end ZST3
end
section
/-! EVERY RUN OF THE PURE MACHINE IS ONE OF THE MACHINE'S -/
theorem zbase_ret {kr pc : Nat} {i : Instr} {ax : List Nat} {L : zL} {st : List Value} {h : zH} {r : zR} (hs : zbase kr pc i ax L st h = some (.inl r)) : (i = .ireturn ∧ ∃ v, st = [.int v] ∧ r = (some (.int v), h) ∧ (kr = 1 ∨ (kr = 2 ∧ (v = 0 ∨ v = 1)))) ∨ (i = .lreturn ∧ ∃ v, st = [.long v] ∧ r = (some (.long v), h) ∧ kr = 3) ∨ (i = .dreturn ∧ ∃ v, st = [.double v] ∧ r = (some (.double v), h) ∧ kr = 4) ∨ (i = .areturn ∧ ∃ v, st = [.ref v] ∧ r = (some (.ref v), h) ∧ kr = 5) ∨ (i = .return_ ∧ st = [] ∧ r = (none, h) ∧ kr = 0) := by
  cases i <;> simp only [zbase, zgo, zloadI, zloadL, zloadD, zloadA, zstoreI, zstoreA, zstoreL, zstoreD, zii, zll, zget1, zput1, znew, znewa, zalen, ziald, zlald, zaald, ziast, zlast, zaast, zif, zjump] at hs
  case ireturn =>
    split at hs
    · split at hs
      · rename_i v hk
        refine Or.inl ⟨rfl, v, rfl, ?_, hk⟩
        simp at hs
        exact hs.symm
      · simp at hs
    · simp at hs
  case lreturn =>
    split at hs
    · split at hs
      · rename_i v hk
        refine Or.inr (Or.inl ⟨rfl, v, rfl, ?_, hk⟩)
        simp at hs
        exact hs.symm
      · simp at hs
    · simp at hs
  case dreturn =>
    split at hs
    · split at hs
      · rename_i v hk
        refine Or.inr (Or.inr (Or.inl ⟨rfl, v, rfl, ?_, hk⟩))
        simp at hs
        exact hs.symm
      · simp at hs
    · simp at hs
  case areturn =>
    split at hs
    · split at hs
      · rename_i v hk
        refine Or.inr (Or.inr (Or.inr (Or.inl ⟨rfl, v, rfl, ?_, hk⟩)))
        simp at hs
        exact hs.symm
      · simp at hs
    · simp at hs
  case return_ =>
    split at hs
    · split at hs
      · rename_i hk
        refine Or.inr (Or.inr (Or.inr (Or.inr ⟨rfl, rfl, ?_, hk⟩)))
        simp at hs
        exact hs.symm
      · simp at hs
    · simp at hs
  all_goals
    exfalso
    (repeat' split at hs) <;> simp at hs
theorem zcall_ret {C : Nat → List Value → zH → Option zR} {pc : Nat} {ax : List Nat} {L : zL} {st : List Value} {h : zH} {r : zR} (hs : zcall C pc ax L st h = some (.inl r)) : False := by
  simp only [zcall, zinv, zcopy, zmax, zobj, zback, zgo] at hs
  (repeat' split at hs) <;> simp at hs
section ZM
variable {p : Program} {l : Launch} {e : Env} {R : Room} {s : State} {m : MethodId} {args : Array Value} {below : List Frame} {meth : Method} {c : Code} {H : Heap} {locs : List Loc} {cells slots : Nat} {Q : State → Prop}
variable {al : Nat → Nat} {CA : Nat → ClassId} {D : va_G} {y pc : Nat} {ls : Array Slot} {ax : List Nat} {L : zL} {st : List Value} {h : zH} {x : zR ⊕ zS} {kr : Nat}
set_option maxHeartbeats 1000000 in
theorem zbaseW {i : Instr} (X : zCtx p R s m args meth c al CA D y) (hok : zOK y pc i ax = true) {q : zS} (hx : x = .inr q) (hs : zbase kr pc i ax L st h = some x) (hH : zHH al CA D h H) (hL : zLh al ls (zMt y).2.2.1 L) (hlo : ∀ q ∈ locs, zA al q.base) (hr : cells + ((zhp x).length - h.length) ≤ R.cells ∧ slots + (zss (zhp x) - zss h) ≤ R.slots) (k : zGo p l e R s m args below meth c cells slots Q al CA D y h x) : W p l e R s m args below meth c H locs cells slots Q (F0 m pc ls (st.map (zv al))) := by
  cases i
  case iconst => exact zs_iconst X hok hs hH hL hlo k
  case bipush => exact zs_bipush X hok hs hH hL hlo k
  case sipush => exact zs_sipush X hok hs hH hL hlo k
  case lconst => exact zs_lconst X hok hs hH hL hlo k
  case dconst => exact zs_dconst X hok hs hH hL hlo k
  case ldc => exact zs_ldc X hok hs hH hL hlo k
  case ldc_w => exact zs_ldc_w X hok hs hH hL hlo k
  case ldc2_w => exact zs_ldc2_w X hok hs hH hL hlo k
  case iload => exact zs_iload X hok hs hH hL hlo k
  case iload_n => exact zs_iload_n X hok hs hH hL hlo k
  case lload => exact zs_lload X hok hs hH hL hlo k
  case lload_n => exact zs_lload_n X hok hs hH hL hlo k
  case dload => exact zs_dload X hok hs hH hL hlo k
  case dload_n => exact zs_dload_n X hok hs hH hL hlo k
  case aload => exact zs_aload X hok hs hH hL hlo k
  case aload_n => exact zs_aload_n X hok hs hH hL hlo k
  case istore => exact zs_istore X hok hs hH hL hlo k
  case istore_n => exact zs_istore_n X hok hs hH hL hlo k
  case lstore => exact zs_lstore X hok hs hH hL hlo k
  case lstore_n => exact zs_lstore_n X hok hs hH hL hlo k
  case dstore => exact zs_dstore X hok hs hH hL hlo k
  case dstore_n => exact zs_dstore_n X hok hs hH hL hlo k
  case astore => exact zs_astore X hok hs hH hL hlo k
  case astore_n => exact zs_astore_n X hok hs hH hL hlo k
  case iinc => exact zs_iinc X hok hs hH hL hlo k
  case iadd => exact zs_iadd X hok hs hH hL hlo k
  case isub => exact zs_isub X hok hs hH hL hlo k
  case imul => exact zs_imul X hok hs hH hL hlo k
  case iand => exact zs_iand X hok hs hH hL hlo k
  case ior => exact zs_ior X hok hs hH hL hlo k
  case ishl => exact zs_ishl X hok hs hH hL hlo k
  case ishr => exact zs_ishr X hok hs hH hL hlo k
  case iushr => exact zs_iushr X hok hs hH hL hlo k
  case idiv => exact zs_idiv X hok hs hH hL hlo k
  case irem => exact zs_irem X hok hs hH hL hlo k
  case ladd => exact zs_ladd X hok hs hH hL hlo k
  case lmul => exact zs_lmul X hok hs hH hL hlo k
  case lcmp => exact zs_lcmp X hok hs hH hL hlo k
  case i2l => exact zs_i2l X hok hs hH hL hlo k
  case i2d => exact zs_i2d X hok hs hH hL hlo k
  case ddiv => exact zs_ddiv X hok hs hH hL hlo k
  case dcmp => exact zs_dcmp X hok hs hH hL hlo k
  case dup => exact zs_dup X hok hs hH hL hlo k
  case pop => exact zs_pop X hok hs hH hL hlo k
  case dup_x1 => exact zs_dup_x1 X hok hs hH hL hlo k
  case dup_x2 => exact zs_dup_x2 X hok hs hH hL hlo k
  case dup2 => exact zs_dup2 X hok hs hH hL hlo k
  case ifCond => exact zs_ifCond X hok hs hH hL hlo k
  case if_icmp => exact zs_if_icmp X hok hs hH hL hlo k
  case goto => exact zs_goto X hok hs hH hL hlo k
  case tableswitch => exact zs_tableswitch X hok hs hH hL hlo k
  case lookupswitch => exact zs_lookupswitch X hok hs hH hL hlo k
  case getfield => exact zs_getfield X hok hs hH hL hlo k
  case putfield => exact zs_putfield X hok hs hH hL hlo k
  case new => exact zs_new X hok hs hH hL hlo hr k
  case newarray => exact zs_newarray X hok hs hH hL hlo hr k
  case anewarray => exact zs_anewarray X hok hs hH hL hlo hr k
  case arraylength => exact zs_arraylength X hok hs hH hL hlo k
  case iaload => exact zs_iaload X hok hs hH hL hlo k
  case laload => exact zs_laload X hok hs hH hL hlo k
  case aaload => exact zs_aaload X hok hs hH hL hlo k
  case iastore => exact zs_iastore X hok hs hH hL hlo k
  case lastore => exact zs_lastore X hok hs hH hL hlo k
  case aastore => exact zs_aastore X hok hs hH hL hlo k
  case ireturn =>
    subst hx
    simp only [zbase] at hs
    (repeat' split at hs) <;> simp at hs
  case lreturn =>
    subst hx
    simp only [zbase] at hs
    (repeat' split at hs) <;> simp at hs
  case dreturn =>
    subst hx
    simp only [zbase] at hs
    (repeat' split at hs) <;> simp at hs
  case areturn =>
    subst hx
    simp only [zbase] at hs
    (repeat' split at hs) <;> simp at hs
  case return_ =>
    subst hx
    simp only [zbase] at hs
    (repeat' split at hs) <;> simp at hs
  all_goals simp [zbase] at hs
end ZM
end
section
/-! calls, and the whole -/
def zQ (al : Nat → Nat) (CA : Nat → ClassId) (D : va_G) (r : zR) : Array Value → State → Outcome → State → Prop := fun _ _ oc t => oc = .returned (r.1.map (zv al)) ∧ zHH al CA D r.2 t.heap
def zws (y : Nat) : List Jvm.Cond := .code (zMt y).1 (zMt y).2.1 (zMt y).2.2.1 (zMt y).2.2.2.1 :: zall
def zrm (y mc ms : Nat) : Room := { frames := (zMt y).2.2.2.2.1, cells := mc, slots := ms, locals := (zMt y).2.2.2.2.2 }
def zPc (al : Nat → Nat) (CA : Nat → ClassId) (D : va_G) (a : List Value) (h : zH) : Array Value → State → Prop := va_Pc (a.map (zv al)) (fun U => zHH al CA D h U.heap ∧ zK D CA U)
/-- the contract that a run of the pure machine gives -/
def zMet (l : Launch) (y : Nat) (a : List Value) (h : zH) (r : zR) : Prop := ∀ (al : Nat → Nat) (CA : Nat → ClassId) (D : va_G), zal al → Met l (zMt y).1 (zws y) (zrm y (r.2.length - h.length) (zss r.2 - zss h)) (zPc al CA D a h) (zQ al CA D r) (r.2.length - h.length) (zss r.2 - zss h) (zA al)
theorem zPc_blind {al : Nat → Nat} {CA : Nat → ClassId} {D : va_G} {a : List Value} {h : zH} : FrameBlind (zPc al CA D a h) := fun _ U g mk q => ⟨q.1, q.2.1, zK_same (u := U) (U := U.calling g mk _) rfl q.2.2⟩
theorem zgood {w : Jvm.Cond} (h : w ∈ zall) : (w.onTables && w.keeps) = true ∨ ∃ ty, w = .arrayClass ty := good_of_word (List.all_eq_true.mp zall_good w h)
theorem zgoodIn {y p4 : Nat} (h : zw p4 (.code (zMt y).1 (zMt y).2.1 (zMt y).2.2.1 (zMt y).2.2.2.1) = true) : GoodIn zall (zws y) := fun w hw => by
  rcases List.mem_cons.mp hw with q | q
  · rw [q]
    exact ⟨zw_mem h, zgood (zw_mem h)⟩
  · exact ⟨q, zgood q⟩
section ZC
variable {p : Program} {l : Launch} {e : Env} {R : Room} {s : State} {m : MethodId} {args : Array Value} {below : List Frame} {meth : Method} {c : Code} {H : Heap} {locs : List Loc} {cells slots : Nat} {Q : State → Prop}
variable {al : Nat → Nat} {CA : Nat → ClassId} {D : va_G} {y pc : Nat} {ls : Array Slot} {ax : List Nat} {L : zL} {st : List Value} {h : zH} {x : zR ⊕ zS} {kr : Nat}
theorem zrunW {r : zR} {mc ms : Nat} {st0 rest : List Value} {a : Array Value} (hr : va_Run p l e R s m args below meth c H locs cells slots mc ms (F0 m pc ls st0) rest (zQ al CA D r a) (zA al)) (hlo : ∀ q ∈ locs, zA al q.base) (kk : ∀ (H' : Heap) (locs' : List Loc), zHH al CA D r.2 H' → (∀ q ∈ locs', zA al q.base) → W p l e R s m args below meth c H' locs' (cells + mc) (slots + ms) Q (F0 m (pc + 3) ls ((r.1.map (zv al)).toList ++ rest))) : W p l e R s m args below meth c H locs cells slots Q (F0 m pc ls st0) := by
  intro T hT X
  obtain ⟨v, st₀, t, T', L, h0, X', hL, e1, e2, hq, st⟩ := hr T hT X
  have hv : v = r.1.map (zv al) := by
    have := hq.1
    simpa using this
  subst hv
  obtain ⟨t2, a1, b1⟩ := kk T'.heap (locs ++ L) (by rw [e1]; exact hq.2) (fun q hq2 => (List.mem_append.mp hq2).elim (hlo q) (hL q)) T' rfl X'
  exact ⟨t2, st t2 a1, b1⟩
theorem zPre {al : Nat → Nat} {a : List Value} (X : zK D CA s) (hH : zHH al CA D h H) (As : List Value) (ha : As = a.map (zv al)) : ∀ U : State, U.heap = H → s.WarmedH U.vm → zPc al CA D a h As.toArray U := fun U hU hW => ⟨by rw [ha], by rw [hU]; exact hH, zK_warm hW X⟩
/-- what the check says of a call -/
theorem zcall_ok {ix kind y' mode n ci p1 p2 p3 p4 lk lp : Nat} (hok : zcallOK y ix kind [y', mode, n, ci, p1, p2, p3, p4, lk, lp] = true) (h3 : mode ≠ 3) (h4 : mode ≠ 4) (h5 : mode ≠ 5) : y' < znm ∧ zlink lk lp (zMt y).1.cls ix (zMt y').1 = true ∧ zw p3 (.initialized (zMt y').1.cls) = true ∧ zw p4 (.code (zMt y').1 (zMt y').2.1 (zMt y').2.2.1 (zMt y').2.2.2.1) = true ∧ ((zMt y').1.cls ≠ "java/lang/invoke/MethodHandle" ∧ (zMt y').1.cls ≠ "java/lang/invoke/VarHandle") ∧ (parseMethodDescriptor (zMt y').1.desc).map (fun d => d.parameters.length) = some n ∧ (zMt y').2.2.2.2.1 + 1 ≤ (zMt y).2.2.2.2.1 ∧ 8 + ((zMt y').2.2.1 + 11) + (zMt y').2.2.2.2.2 ≤ (zMt y).2.2.2.2.2 ∧ kind = mode ∧ (mode = 0 → lk = 0 ∧ ci < zcl.length ∧ zcN ci = (zMt y').1.cls ∧ zw p1 (.instanceMethod (zMt y').1) = true ∧ zw p2 (.selects (zMt y').1.cls (zMt y').1 (zMt y').1) = true) ∧ (mode = 1 → zw p1 (.static (zMt y').1) = true) ∧ (mode = 2 → zw p1 (.instanceMethod (zMt y').1) = true ∧ (zMt y').1.name = "<init>" ∧ (zMt y').2.2.2.1 = none) := by
  simp only [zcallOK, Bool.and_eq_true, decide_eq_true_eq] at hok
  obtain ⟨⟨⟨⟨⟨⟨⟨⟨⟨a1, a2⟩, a3⟩, a4⟩, a5⟩, a6⟩, a7⟩, a8⟩, a9⟩, a10⟩ := hok
  refine ⟨a1, a2, a3, a4, a5, a6, a7, a8, a9, fun q => ?_, fun q => ?_, fun q => ?_⟩
  · subst q
    simp only [Bool.and_eq_true, decide_eq_true_eq] at a10
    exact ⟨a10.1.1.1.1, a10.1.1.1.2, a10.1.1.2, a10.1.2, a10.2⟩
  · subst q
    exact a10
  · subst q
    simp only [Bool.and_eq_true, decide_eq_true_eq] at a10
    exact ⟨a10.1.1, a10.1.2, a10.2⟩
theorem zstack (al : Nat → Nat) {n : Nat} {st : List Value} (h : n ≤ st.length) : st.map (zv al) = (((st.take n).reverse.map (zv al))).reverse ++ (st.drop n).map (zv al) := by
  rw [List.map_reverse, List.reverse_reverse, ← List.map_append, List.take_append_drop]
theorem zback_inr {r : Option zR} {rest : List Value} (hs : zback pc L rest r = some x) : ∃ q, r = some q ∧ x = .inr (pc + 3, L, q.1.toList ++ rest, q.2) := by
  unfold zback at hs
  split at hs
  · simp only [zgo, Option.some.injEq] at hs
    exact ⟨_, rfl, hs.symm⟩
  · simp only [zgo, Option.some.injEq] at hs
    exact ⟨_, rfl, hs.symm⟩
  · simp at hs
/-- behind a callee -/
theorem zbackW {q : zR} {rest : List Value} {st0 : List Value} {a : Array Value} (hx : x = .inr (pc + 3, L, q.1.toList ++ rest, q.2)) (hlo : ∀ q ∈ locs, zA al q.base) (hL : zLh al ls (zMt y).2.2.1 L) (k : zGo p l e R s m args below meth c cells slots Q al CA D y h x) (hr : va_Run p l e R s m args below meth c H locs cells slots (q.2.length - h.length) (zss q.2 - zss h) (F0 m pc ls st0) (rest.map (zv al)) (zQ al CA D q a) (zA al)) : W p l e R s m args below meth c H locs cells slots Q (F0 m pc ls st0) := by
  refine zrunW hr hlo fun H' locs' hH' hlo' => ?_
  have := k _ _ _ _ hx H' ls locs' hH' hL hlo'
  rwa [show (q.1.toList ++ rest).map (zv al) = (q.1.map (zv al)).toList ++ rest.map (zv al) by cases q.1 <;> rfl] at this
theorem zinvW {C : Nat → List Value → zH → Option zR} {ix kind : Nat} (hC : ∀ y' a h' r, y' < znm → C y' a h' = some r → zMet l y' a h' r) (X : zCtx p R s m args meth c al CA D y) (hok : zcallOK y ix kind ax = true) (hd : decode (zMt y).2.1 pc = .ok (if kind = 0 then .invokevirtual ix else if kind = 1 then .invokestatic ix else .invokespecial ix, 3)) (h345 : ∀ a m r, ax = a :: m :: r → m ≠ 3 ∧ m ≠ 4 ∧ m ≠ 5) (hs : zinv C pc ax L st h = some x) (hH : zHH al CA D h H) (hL : zLh al ls (zMt y).2.2.1 L) (hlo : ∀ q ∈ locs, zA al q.base) (hr : cells + ((zhp x).length - h.length) ≤ R.cells ∧ slots + (zss (zhp x) - zss h) ≤ R.slots) (k : zGo p l e R s m args below meth c cells slots Q al CA D y h x) : W p l e R s m args below meth c H locs cells slots Q (F0 m pc ls (st.map (zv al))) := by
  obtain ⟨hx, hb, hml, hown, hts, hK, hal, hfr, hlc, -⟩ := X
  unfold zinv at hs
  split at hs
  · rename_i y' mode n ci r
    obtain ⟨n3, n4, n5⟩ := h345 _ _ _ rfl
    obtain ⟨p1, p2, p3, p4, lk, lp, rfl⟩ : ∃ p1 p2 p3 p4 lk lp, r = [p1, p2, p3, p4, lk, lp] := by
      rcases r with _ | ⟨p1, _ | ⟨p2, _ | ⟨p3, _ | ⟨p4, _ | ⟨lk, _ | ⟨lp, _ | ⟨z, r⟩⟩⟩⟩⟩⟩⟩ <;> first | exact ⟨_, _, _, _, _, _, rfl⟩ | (exfalso; revert hok; unfold zcallOK; split <;> simp_all)
    obtain ⟨a1, a2, a3, a4, a5, a6, a7, a8, a9, a10, a11, a12⟩ := zcall_ok hok n3 n4 n5
    split at hs
    · rename_i hn
      have hini := hts _ (zw_mem a3)
      have hG := zgoodIn a4
      have hrest : ∀ rest : List Value, ((rest.map fun v => v.category).sum ≤ 8) → 2 * (F0 m pc ls (st.map (zv al))).monitorRoom + ((rest.map (zv al)).map fun v => v.category).sum ≤ 8 := fun rest q => lv_room (by rw [zv_cats]; exact q)
      have hlink0 : lk = 0 → (Jvm.Cond.methodLink (zMt y).1.cls ix (zMt y').1).before args s = true := fun q => by
        subst q
        exact hts _ (zw_mem a2)
      have hnest : lk ≠ 0 → ∃ host, (Jvm.Cond.methodLinkNest (zMt y).1.cls ix (zMt y').1 host).before args s = true ∧ va_Nw (.methodLinkNest (zMt y).1.cls ix (zMt y').1 host) s := fun q => by
        unfold zlink at a2
        split at a2
        · exact absurd rfl q
        · split at a2
          · rename_i w hw
            simp only [decide_eq_true_eq] at a2
            have := hK.2.2.2 w (List.mem_of_getElem? hw)
            rw [a2.1, a2.2.1, a2.2.2] at this
            exact ⟨_, va_Nw.use rfl this, this⟩
          · simp at a2
      have hR : (zMt y').2.2.2.2.1 + 1 ≤ R.frames ∧ 8 + ((zMt y').2.2.1 + 11) + (zMt y').2.2.2.2.2 ≤ R.locals := ⟨Nat.le_trans a7 hfr, Nat.le_trans a8 hlc⟩
      split at hs
      · -- on no object
        obtain ⟨q, hq, hxq⟩ := zback_inr hs
        have hM := hC _ _ _ _ a1 hq al CA D hal
        have hsta := hts _ (zw_mem (a11 rfl))
        rw [hxq] at hr
        have hlen : ((st.take n).reverse.map (zv al)).length = n := by rw [List.length_map, List.length_reverse, List.length_take]; omega
        have hk9 : kind = 1 := a9
        subst hk9
        refine zbackW hxq hlo hL k (a := ((st.take n).reverse.map (zv al)).toArray) ?_
        by_cases hlk : lk = 0
        · exact va_runS (As := (st.take n).reverse.map (zv al)) (rest := (st.drop n).map (zv al)) (n := n) (index := ix) ⟨hx, hb, hml, hown, hts⟩ hM ⟨callB_of n hts hG rfl rfl rfl hini (hlink0 hlk) ⟨a5.1, a5.2, a6⟩ hR, hsta⟩ ⟨zPc_blind, zPre hK hH _ rfl⟩ rfl hlen hL.2.1 (zstack al hn.1) (hrest _ hn.2) hd ⟨hr.1, hr.2⟩
        · obtain ⟨host, g1, g2⟩ := hnest hlk
          exact va_runSN (As := (st.take n).reverse.map (zv al)) (rest := (st.drop n).map (zv al)) (n := n) (index := ix) ⟨hx, hb, hml, hown, hts⟩ hM ⟨va_cnB n hts hG rfl rfl rfl g2 hini ⟨a5.1, a5.2, a6⟩ hR, hsta, trivial⟩ ⟨zPc_blind, zPre hK hH _ rfl⟩ rfl hlen hL.2.1 (zstack al hn.1) (hrest _ hn.2) hd ⟨hr.1, hr.2⟩
      · -- on an object
        split at hs
        · rename_i b rest hdrop
          split at hs
          · rename_i cc fs hcb
            split at hs
            · rename_i hcc
              subst hcc
              obtain ⟨q, hq, hxq⟩ := zback_inr hs
              have hM := hC _ _ _ _ a1 hq al CA D hal
              obtain ⟨b1, b2, b3, b4, b5⟩ := a10 rfl
              rw [hxq] at hr
              have hlen : ((st.take n).reverse.map (zv al)).length = n := by rw [List.length_map, List.length_reverse, List.length_take]; omega
              have hk9 : kind = 0 := a9
              subst hk9
              have hat := hH.2.2 _ _ hcb
              obtain ⟨rr, g1, cell, p1', p2', p3', -⟩ := hat.2
              cases (zcl_at b2).symm.trans g1
              have hsum : (rest.map fun v => v.category).sum ≤ 8 := by
                have := hn.2
                rw [hdrop] at this
                simp only [List.map_cons, List.sum_cons] at this
                omega
              refine zbackW hxq hlo hL k (a := (Value.ref (al b) :: (st.take n).reverse.map (zv al)).toArray) ?_
              exact va_runV (b := al b) (C := (zMt y').1.cls) (As := (st.take n).reverse.map (zv al)) (rest := rest.map (zv al)) (n := n) (index := ix) ⟨hx, hb, hml, hown, hts⟩ hM ⟨callB_of n hts hG rfl rfl rfl hini (hlink0 b1) ⟨a5.1, a5.2, a6⟩ hR, hts _ (zw_mem b4), hts _ (zw_mem b5)⟩ ⟨zPc_blind, ⟨cell, p1', by rw [p3']; rfl, by rw [p2', ← b3]; exact (hK.1.1 cc _ (zcl_at b2)).2.1⟩, zPre hK hH _ rfl⟩ rfl hlen hL.2.1 (by show st.map (zv al) = _; rw [zstack al hn.1, hdrop]; rfl) (hrest _ hsum) hd ⟨hr.1, hr.2⟩
            · simp at hs
          · simp at hs
        · simp at hs
      · -- a constructor
        split at hs
        · rename_i b rest hdrop
          obtain ⟨q, hq, hxq⟩ := zback_inr hs
          have hM := hC _ _ _ _ a1 hq al CA D hal
          obtain ⟨b1, b2, b3⟩ := a12 rfl
          rw [hxq] at hr
          have hlen : ((st.take n).reverse.map (zv al)).length = n := by rw [List.length_map, List.length_reverse, List.length_take]; omega
          have hk9 : kind = 2 := a9
          subst hk9
          have hsum : (rest.map fun v => v.category).sum ≤ 8 := by
            have := hn.2
            rw [hdrop] at this
            simp only [List.map_cons, List.sum_cons] at this
            omega
          have hwn : zws y' = .code (zMt y').1 (zMt y').2.1 (zMt y').2.2.1 none :: zall := by unfold zws; rw [b3]
          refine zbackW hxq hlo hL k (a := (Value.ref (al b) :: (st.take n).reverse.map (zv al)).toArray) ?_
          by_cases hlk : lk = 0
          · exact va_runI (b := al b) (As := (st.take n).reverse.map (zv al)) (rest := rest.map (zv al)) (n := n) (index := ix) ⟨hx, hb, hml, hown, hts⟩ hM ⟨callB_of n hts hG hwn rfl rfl hini (hlink0 hlk) ⟨a5.1, a5.2, a6⟩ hR, b2, hts _ (zw_mem b1)⟩ ⟨zPc_blind, zPre hK hH _ rfl⟩ rfl hlen hL.2.1 (by show st.map (zv al) = _; rw [zstack al hn.1, hdrop]; rfl) (hrest _ hsum) hd ⟨hr.1, hr.2⟩
          · obtain ⟨host, g1, g2⟩ := hnest hlk
            exact va_runIN (b := al b) (As := (st.take n).reverse.map (zv al)) (rest := rest.map (zv al)) (n := n) (index := ix) ⟨hx, hb, hml, hown, hts⟩ hM ⟨va_cnB n hts hG hwn rfl rfl g2 hini ⟨a5.1, a5.2, a6⟩ hR, b2, hts _ (zw_mem b1)⟩ ⟨zPc_blind, zPre hK hH _ rfl⟩ rfl hlen hL.2.1 (by show st.map (zv al) = _; rw [zstack al hn.1, hdrop]; rfl) (hrest _ hsum) hd ⟨hr.1, hr.2⟩
        · simp at hs
      · simp at hs
    · simp at hs
  · simp at hs
end ZC
end
section
/-! System.arraycopy -/
section ZCP
variable {p : Program} {l : Launch} {e : Env} {R : Room} {s : State} {m : MethodId} {args : Array Value} {below : List Frame} {meth : Method} {c : Code} {H : Heap} {locs : List Loc} {cells slots : Nat} {Q : State → Prop}
variable {al : Nat → Nat} {CA : Nat → ClassId} {D : va_G} {y pc : Nat} {ls : Array Slot} {ax : List Nat} {L : zL} {st : List Value} {h : zH} {x : zR ⊕ zS} {kr : Nat}
theorem znn (z : Int32) (hz : ¬ z < 0) : z.toInt = (z.toNatClampNeg : Int) := by
  have hz0 : (0 : Int) ≤ z.toInt := by
    have := Int32.not_lt.mp hz
    simpa using Int32.le_iff_toInt_le.mp this
  show z.toInt = ((z.toInt.toNat : Nat) : Int)
  omega
/-- behind a copy -/
theorem zcopy_end {T : State} {vm' : Vm} {d : Nat} {e0 e' : zE} {cell : Cell} (hT : T.heap = H) (hal : zal al) (hH : zHH al CA D h H) (hlo : ∀ q ∈ locs, zA al q.base) (hd : h[d + 1]? = some e0) (hin : ∀ a, e' = .inl a → a.1 ∈ zkin) (hcell : ∀ H1 : Heap, H1[al (d + 1)]? = some cell → va_at D zcl (al (d + 1), zmc al CA e') H1) {L1 : List Loc} (hL1 : ∀ q ∈ L1, q.base = al (d + 1)) :
    zHH al CA D (h.set (d + 1) e') (((T.setVm vm').setCell (al (d + 1)) cell).heap) ∧ ∀ q ∈ locs ++ L1, zA al q.base := by
  have hheap : ((T.setVm vm').setCell (al (d + 1)) cell).heap = H.setIfInBounds (al (d + 1)) cell := by rw [← hT]; rfl
  have hl : al (d + 1) < H.size := zAt_lt (hH.2.2 _ _ hd)
  rw [hheap]
  refine ⟨zHH_set hal hH (List.getElem?_eq_some_iff.mp hd).1 (by simp) (fun q hq => by simp [Array.getElem?_setIfInBounds, Ne.symm hq]) ⟨hin, hcell _ (by simp [Array.getElem?_setIfInBounds, hl])⟩, fun q hq => ?_⟩
  rcases List.mem_append.mp hq with h1 | h1
  · exact hlo _ h1
  · exact ⟨d + 1, by omega, hL1 q h1⟩
set_option maxHeartbeats 1000000 in
theorem zcopyW {ix kind z p1 p2 p3 p4 : Nat} (X : zCtx p R s m args meth c al CA D y) (hok : zcallOK y ix kind [z, 3, p1, p2, p3, p4] = true) (hd : decode (zMt y).2.1 pc = .ok (if kind = 0 then .invokevirtual ix else if kind = 1 then .invokestatic ix else .invokespecial ix, 3)) (hs : zcopy pc L st h = some x) (hH : zHH al CA D h H) (hL : zLh al ls (zMt y).2.2.1 L) (hlo : ∀ q ∈ locs, zA al q.base) (k : zGo p l e R s m args below meth c cells slots Q al CA D y h x) : W p l e R s m args below meth c H locs cells slots Q (F0 m pc ls (st.map (zv al))) := by
  obtain ⟨hx, hb, hml, hown, hts, hK, hal, hfr, hlc, -⟩ := X
  simp only [zcallOK, Bool.and_eq_true, decide_eq_true_eq] at hok
  obtain ⟨⟨⟨⟨⟨⟨rfl, h1⟩, h2⟩, h3⟩, h4⟩, h5⟩, h6⟩ := hok
  simp only [zcopy, zgo] at hs
  split at hs
  · split at hs
    · simp at hs
    · rename_i n dp d sp i st2 hcond
      have hn : ¬ n < 0 := fun q => hcond (Or.inl q)
      have hdp : ¬ dp < 0 := fun q => hcond (Or.inr (Or.inl q))
      have hsp : ¬ sp < 0 := fun q => hcond (Or.inr (Or.inr (Or.inl q)))
      have hsum : (st2.map fun v => v.category).sum ≤ 8 := Nat.not_lt.mp fun q => hcond (Or.inr (Or.inr (Or.inr (Or.inr q))))
      have hcat := zv_cats al st2
      split at hs
      · rename_i n0 f n1 g hc0 hc1
        split at hs
        · rename_i hle
          obtain ⟨g4, g5⟩ := hle
          have at0 := hH.2.2 _ _ hc0
          have at1 := hH.2.2 _ _ hc1
          have hkin : (0 : Nat) ∈ zkin := at0.1 _ rfl
          have hk := hK.2.1 0 (at0.1 _ rfl)
          have hcc0 : H[al i]? = some (vp_cell (CA 0) (n0, .inl f)) := at0.2
          have hcc1 : H[al (d + 1)]? = some (vp_cell (CA 0) (n1, .inl g)) := at1.2
          obtain ⟨-, k0, hk0, cm0, hkk0⟩ := hk.1 n0 (fun j => .int (f j))
          intro T hT Xs
          obtain ⟨vm', X', step⟩ := Xs.arraycopy hx hown (hts _ (zw_mem h1)) (hts _ (zw_mem h2)) (hts _ (zw_mem h3)) (hts _ (zw_mem h4)) (src := al i) (dst := al (d + 1)) (cs := vp_cell (CA 0) (n0, .inl f)) (cd := vp_cell (CA 0) (n1, .inl g)) (srcPos := sp) (destPos := dp) (n := n) (by rw [hT]; exact hcc0) (by rw [hT]; exact hcc1)
            (fun _ h => by cases h) (fun _ h => by cases h) (fun h => by cases h) (fun h => by cases h) hk0 hk0 hkk0 hkk0 rfl hsp hdp hn
            (by rw [znn sp hsp, znn n hn]; show ¬ _ > ((arrV (CA 0) n0 (fun j => .int (f j))).slots.size : Int); rw [arrV_size]; omega)
            (by rw [znn dp hdp, znn n hn]; show ¬ _ > ((arrV (CA 0) n1 (fun j => .int (g j))).slots.size : Int); rw [arrV_size]; omega)
            (fun vm₁ _ j hj => by
              have e : (vp_cell (CA 0) (n0, .inl f)).slots.getD (sp.toNatClampNeg + j) .null = .int (f (sp.toNatClampNeg + j)) := by
                show (arrV (CA 0) n0 (fun j => .int (f j))).slots.getD _ _ = _
                rw [Array.getD_eq_getD_getElem?, arrV_read _ _ (by omega)]
                rfl
              refine ⟨?_, ?_⟩
              · rw [e]
                rfl
              · rw [e]
                exact trivial)
            (g := F0 m pc ls ((Value.int n :: .int dp :: .ref (d + 1) :: .int sp :: .ref i :: st2).map (zv al))) rfl (by rw [hml]; exact hL.2.1) (rest := st2.map (zv al)) rfl (by rw [hb]; exact hd) (Nat.le_trans h5 hfr) (by show 2 * 0 + _ + _ ≤ _; omega)
          have e1 : copied (vp_cell (CA 0) (n0, .inl f)) (vp_cell (CA 0) (n1, .inl g)) sp dp n = vp_cell (CA 0) (n1, .inl (va_cpy f g sp.toNatClampNeg dp.toNatClampNeg n.toNatClampNeg)) := va_copied (fun z => .int z) (CA 0) (CA 0) f g g4
          rw [e1] at X' step
          obtain ⟨q1, q2⟩ := zcopy_end (vm' := vm') (cell := vp_cell (CA 0) (n1, .inl (va_cpy f g sp.toNatClampNeg dp.toNatClampNeg n.toNatClampNeg))) (e' := .inl (0, n1, .inl (va_cpy f g sp.toNatClampNeg dp.toNatClampNeg n.toNatClampNeg))) hT hal hH hlo hc1 (fun a ha => (by cases ha; exact hkin)) (fun H1 h => h) (L1 := (Cell.stretch (vp_cell (CA 0) (n0, .inl f)) sp.toNatClampNeg n.toNatClampNeg).zipIdx.map fun q => (⟨al (d + 1), dp.toNatClampNeg + q.2⟩ : Loc)) (fun q hq => by obtain ⟨z, -, hz⟩ := List.mem_map.mp hq; rw [← hz])
          obtain ⟨t, a1, b1⟩ := k.put hc1 (by simp [zsz]) q1 q2 hs hL _ rfl X'
          exact ⟨t, step t a1, b1⟩
        · simp at hs
      · rename_i n0 f n1 g hc0 hc1
        split at hs
        · rename_i hle
          obtain ⟨g4, g5, g6⟩ := hle
          have at0 := hH.2.2 _ _ hc0
          have at1 := hH.2.2 _ _ hc1
          have hkin : (3 : Nat) ∈ zkin := at0.1 _ rfl
          have hk := hK.2.1 3 (at0.1 _ rfl)
          obtain ⟨⟨k3, kc, r1, r2, r3⟩, -⟩ := hK.2.2.1 (at0.1 _ rfl)
          have hcc0 : H[al i]? = some (vp_cell (CA 3) (n0, .inr (.inr (.inr (.inr (fun j => (f j).map al)))))) := at0.2
          have hcc1 : H[al (d + 1)]? = some (vp_cell (CA 3) (n1, .inr (.inr (.inr (.inr (fun j => (g j).map al)))))) := at1.2
          obtain ⟨-, k0, hk0, cm0, hkk0⟩ := hk.1 n0 (fun j => va_rf ((f j).map al))
          cases hk0.symm.trans r1
          cases hkk0.symm.trans r2
          intro T hT Xs
          obtain ⟨vm', X', step⟩ := Xs.arraycopy hx hown (hts _ (zw_mem h1)) (hts _ (zw_mem h2)) (hts _ (zw_mem h3)) (hts _ (zw_mem h4)) (src := al i) (dst := al (d + 1)) (cs := vp_cell (CA 3) (n0, .inr (.inr (.inr (.inr (fun j => (f j).map al)))))) (cd := vp_cell (CA 3) (n1, .inr (.inr (.inr (.inr (fun j => (g j).map al)))))) (srcPos := sp) (destPos := dp) (n := n) (by rw [hT]; exact hcc0) (by rw [hT]; exact hcc1)
            (fun _ h => by cases h) (fun _ h => by cases h) (fun h => by cases h) (fun h => by cases h) r1 r1 r2 r2 rfl hsp hdp hn
            (by rw [znn sp hsp, znn n hn]; show ¬ _ > ((arrV (CA 3) n0 (fun j => va_rf ((f j).map al))).slots.size : Int); rw [arrV_size]; omega)
            (by rw [znn dp hdp, znn n hn]; show ¬ _ > ((arrV (CA 3) n1 (fun j => va_rf ((g j).map al))).slots.size : Int); rw [arrV_size]; omega)
            (fun vm₁ hal1 j hj => by
              have e : (vp_cell (CA 3) (n0, .inr (.inr (.inr (.inr (fun j => (f j).map al)))))).slots.getD (sp.toNatClampNeg + j) .null = va_rf ((f (sp.toNatClampNeg + j)).map al) := by
                show (arrV (CA 3) n0 (fun j => va_rf ((f j).map al))).slots.getD _ _ = _
                rw [Array.getD_eq_getD_getElem?, arrV_read _ _ (by omega)]
                rfl
              rw [e]
              have hrow := List.all_eq_true.mp g6 j (List.mem_range.mpr hj)
              cases hy : f (sp.toNatClampNeg + j) with
              | none => exact ⟨rfl, trivial⟩
              | some r =>
                rw [hy] at hrow
                simp only [zrow] at hrow
                split at hrow
                · rename_i nr fr hr
                  have atr := hH.2.2 _ _ hr
                  obtain ⟨kc1, hkc1, -⟩ := hal1.2.2 _ _ r3
                  refine ⟨rfl, vp_cell (CA 0) (nr, .inl fr), (show T.heap[al r]? = some _ by rw [hT]; exact atr.2), (fun q h => by cases h), ⟨kc1, hkc1⟩, ⟨kc1, hkc1⟩, ?_⟩
                  show vm₁.assignable (CA 0) (CA 0) = true
                  exact va_asg _ _
                · simp at hrow)
            (g := F0 m pc ls ((Value.int n :: .int dp :: .ref (d + 1) :: .int sp :: .ref i :: st2).map (zv al))) rfl (by rw [hml]; exact hL.2.1) (rest := st2.map (zv al)) rfl (by rw [hb]; exact hd) (Nat.le_trans h5 hfr) (by show 2 * 0 + _ + _ ≤ _; omega)
          have e1 : copied (vp_cell (CA 3) (n0, .inr (.inr (.inr (.inr (fun j => (f j).map al)))))) (vp_cell (CA 3) (n1, .inr (.inr (.inr (.inr (fun j => (g j).map al)))))) sp dp n = vp_cell (CA 3) (n1, .inr (.inr (.inr (.inr (fun j => (va_cpy f g sp.toNatClampNeg dp.toNatClampNeg n.toNatClampNeg j).map al))))) := by
            rw [vp_cell_q, vp_cell_q, vp_cell_q]
            refine (va_copied (fun z => va_rf z) (CA 3) (CA 3) (fun j => (f j).map al) (fun j => (g j).map al) g4).trans ?_
            congr 1
            funext j
            unfold va_cpy
            split <;> rfl
          rw [e1] at X' step
          obtain ⟨q1, q2⟩ := zcopy_end (vm' := vm') (cell := vp_cell (CA 3) (n1, .inr (.inr (.inr (.inr (fun j => (va_cpy f g sp.toNatClampNeg dp.toNatClampNeg n.toNatClampNeg j).map al)))))) (e' := .inl (3, n1, .inr (.inr (.inr (.inr (va_cpy f g sp.toNatClampNeg dp.toNatClampNeg n.toNatClampNeg)))))) hT hal hH hlo hc1 (fun a ha => (by cases ha; exact hkin)) (fun H1 h => h) (L1 := (Cell.stretch (vp_cell (CA 3) (n0, .inr (.inr (.inr (.inr (fun j => (f j).map al)))))) sp.toNatClampNeg n.toNatClampNeg).zipIdx.map fun q => (⟨al (d + 1), dp.toNatClampNeg + q.2⟩ : Loc)) (fun q hq => by obtain ⟨z, -, hz⟩ := List.mem_map.mp hq; rw [← hz])
          obtain ⟨t, a1, b1⟩ := k.put hc1 (by simp [zsz]) q1 q2 hs hL _ rfl X'
          exact ⟨t, step t a1, b1⟩
        · simp at hs
      · simp at hs
  · simp at hs
end ZCP
end
section
/-! the calls of the library, the dispatch, and the whole -/
section ZD
variable {p : Program} {l : Launch} {e : Env} {R : Room} {s : State} {m : MethodId} {args : Array Value} {below : List Frame} {meth : Method} {c : Code} {H : Heap} {locs : List Loc} {cells slots : Nat} {Q : State → Prop}
variable {al : Nat → Nat} {CA : Nat → ClassId} {D : va_G} {y pc : Nat} {ls : Array Slot} {ax : List Nat} {L : zL} {st : List Value} {h : zH} {x : zR ⊕ zS} {kr : Nat}
theorem zobjW {ix kind z p1 p2 p3 : Nat} (X : zCtx p R s m args meth c al CA D y) (hok : zcallOK y ix kind [z, 5, p1, p2, p3] = true) (hd : decode (zMt y).2.1 pc = .ok (if kind = 0 then .invokevirtual ix else if kind = 1 then .invokestatic ix else .invokespecial ix, 3)) (hs : zobj pc L st h = some x) (hH : zHH al CA D h H) (hL : zLh al ls (zMt y).2.2.1 L) (hlo : ∀ q ∈ locs, zA al q.base) (k : zGo p l e R s m args below meth c cells slots Q al CA D y h x) : W p l e R s m args below meth c H locs cells slots Q (F0 m pc ls (st.map (zv al))) := by
  obtain ⟨hx, hb, hml, hown, hts, hK, hal, hfr, hlc, -⟩ := X
  simp only [zcallOK, Bool.and_eq_true, decide_eq_true_eq] at hok
  obtain ⟨⟨⟨⟨⟨rfl, h1⟩, h2⟩, h3⟩, h4⟩, h5⟩ := hok
  simp only [zobj, zgo] at hs
  split at hs
  · split at hs
    · simp at hs
    · rename_i b st2 hsum
      refine W.objInit hx hb hown (hts _ (zw_mem h1)) (hts _ (zw_mem h2)) (hts _ (zw_mem h3)) rfl (by rw [hml]; exact hL.2.1) rfl hd (Nat.le_trans h4 hfr) ?_ (W.eq (g2 := F0 m (pc + 3) ls (st2.map (zv al))) rfl (k.same hH hlo hs hL))
      have := zv_cats al st2
      show 2 * 0 + _ + 12 ≤ _
      omega
  · simp at hs
theorem zmaxW {ix kind z p1 p2 p3 p4 : Nat} (X : zCtx p R s m args meth c al CA D y) (hok : zcallOK y ix kind [z, 4, p1, p2, p3, p4] = true) (hd : decode (zMt y).2.1 pc = .ok (if kind = 0 then .invokevirtual ix else if kind = 1 then .invokestatic ix else .invokespecial ix, 3)) (hs : zmax pc L st h = some x) (hH : zHH al CA D h H) (hL : zLh al ls (zMt y).2.2.1 L) (hlo : ∀ q ∈ locs, zA al q.base) (hr : cells + ((zhp x).length - h.length) ≤ R.cells ∧ slots + (zss (zhp x) - zss h) ≤ R.slots) (k : zGo p l e R s m args below meth c cells slots Q al CA D y h x) : W p l e R s m args below meth c H locs cells slots Q (F0 m pc ls (st.map (zv al))) := by
  obtain ⟨hx, hb, hml, hown, hts, hK, hal, hfr, hlc, -⟩ := X
  simp only [zcallOK, Bool.and_eq_true, decide_eq_true_eq] at hok
  obtain ⟨⟨⟨⟨⟨⟨rfl, h1⟩, h2⟩, h3⟩, h4⟩, h5⟩, h6⟩ := hok
  simp only [zmax, zgo] at hs
  split at hs
  · split at hs
    · simp at hs
    · rename_i b a st2 hsum
      have hxe := Option.some.inj hs
      rw [← hxe] at hr
      simp only [zhp, Nat.sub_self, Nat.add_zero] at hr
      refine va_mmax hx hb (by rw [hml]; exact hL.2.1.symm) hown (hts _ (zw_mem h1)) (hts _ (zw_mem h2)) (hts _ (zw_mem h3)) (hts _ (zw_mem h4)) (Nat.le_trans h5 hfr) ?_ hr.1 hr.2 hd (k.same hH hlo hs hL)
      have := zv_cats al st2
      omega
  · simp at hs
end ZD
section ZE
variable {l : Launch}
/-- the contract out of the walk -/
theorem zmet_of {n y : Nat} {a : List Value} {h : zH} {r : zR} (hy : y < znm) (hz : (zent a).length ≤ (zMt y).2.2.1)
    (hwalk : ∀ {p : Program} {e : Env} {R : Room} {s : State} {m : MethodId} {args : Array Value} {below : List Frame} {meth : Method} {c : Code} {H : Heap} {locs : List Loc} {cells slots : Nat} {Q : State → Prop} {al : Nat → Nat} {CA : Nat → ClassId} {D : va_G} {ls : Array Slot}, zCtx p R s m args meth c al CA D y → zHH al CA D h H → zLh al ls (zMt y).2.2.1 (zentry (zMt y).2.2.1 a) → (∀ q ∈ locs, zA al q.base) → (cells + (r.2.length - h.length) ≤ R.cells ∧ slots + (zss r.2 - zss h) ≤ R.slots) → (∀ (pc' : Nat) (i : Instr) (ax : List Nat) (L' : zL) (st' : List Value) (H' : Heap) (ls' : Array Slot) (locs' : List Loc), zOK y pc' i ax = true → zbase (zkr (zMt y).2.2.2.1) pc' i ax L' st' r.2 = some (.inl r) → zHH al CA D r.2 H' → (∀ q ∈ locs', zA al q.base) → W p l e R s m args below meth c H' locs' (cells + (r.2.length - h.length)) (slots + (zss r.2 - zss h)) Q (F0 m pc' ls' (st'.map (zv al)))) → W p l e R s m args below meth c H locs cells slots Q (F0 m 0 ls ([].map (zv al)))) : zMet l y a h r := by
  intro al CA D hal
  have hm := zcm_all y hy
  simp only [zMok, Bool.and_eq_true] at hm
  refine Met.ofW (cc := (zMt y).2.1) (maxL := (zMt y).2.2.1) (ret := (zMt y).2.2.2.1) hm.1.1 rfl ?_
  intro p e s m args below meth c s₁ B hml hv
  obtain ⟨rfl, hH, hK⟩ := hv
  have hts := atoms_spec (ws := zws y) B.pre
  have hown : s.vm.findClass (zMt y).1.cls = some m.cls := findClass_of_methodNamed B.named
  have hlocks := B.notSynchronized
  rw [lg_entry_eq]
  have hent := zentry_has al a hz
  have X : zCtx p (headSpec (zws y) (zrm y (r.2.length - h.length) (zss r.2 - zss h))).room s m (a.map (zv al)).toArray meth c al CA D y := ⟨B.exec, B.bytes, hml, hown, fun w hw => hts w (List.mem_cons_of_mem _ hw), hK, hal, Nat.le_refl _, Nat.le_refl _, fun q => by rw [(name_of_methodNamed B.named B.method).1]; exact q⟩
  refine hwalk X hH hent (fun q hq => by cases hq) ⟨by rw [Nat.zero_add]; exact Nat.le_refl _, by rw [Nat.zero_add]; exact Nat.le_refl _⟩ ?_
  intro pc' i ax L' st' H' ls' locs' hok hret hH' hlo'
  rw [Nat.zero_add, Nat.zero_add]
  have hr := B.returns
  have hd : ∀ j, i = j → zsw j = false → decode (zMt y).2.1 pc' = .ok (j, zlen j) := fun j e h2 => by subst e; exact zdc_of hok h2
  rcases zbase_ret hret with ⟨hi, v, rfl, hrr, hk⟩ | ⟨hi, v, rfl, hrr, hk⟩ | ⟨hi, v, rfl, hrr, hk⟩ | ⟨hi, v, rfl, hrr, hk⟩ | ⟨hi, rfl, hrr, hk⟩
  · have hq : ∀ t : State, t.heap = H' → s.WarmedH t.vm → zQ al CA D r (a.map (zv al)).toArray s (.returned (some (.int v))) t := fun t ht hW => ⟨by rw [hrr]; rfl, by rw [ht]; exact hH'⟩
    cases hret2 : (zMt y).2.2.2.1 with
    | none => rw [hret2] at hk; simp [zkr] at hk
    | some ty =>
      rw [hret2] at hk hr
      refine W.zret B.exec B.bytes hr ?_ hq hlo' (hd _ hi rfl)
      cases ty <;> simp [zkr] at hk <;> first | rfl | (rcases hk with rfl | rfl <;> rfl)
  · cases hret2 : (zMt y).2.2.2.1 with
    | none => rw [hret2] at hk; simp [zkr] at hk
    | some ty =>
      rw [hret2] at hk hr
      cases ty <;> simp [zkr] at hk
      exact W.lret B.exec B.bytes hr (fun t ht hW => ⟨by rw [hrr]; rfl, by rw [ht]; exact hH'⟩) hlo' (hd _ hi rfl)
  · cases hret2 : (zMt y).2.2.2.1 with
    | none => rw [hret2] at hk; simp [zkr] at hk
    | some ty =>
      rw [hret2] at hk hr
      cases ty <;> simp [zkr] at hk
      exact W.dret B.exec B.bytes hr (fun t ht hW => ⟨by rw [hrr]; rfl, by rw [ht]; exact hH'⟩) hlo' (hd _ hi rfl)
  · cases hret2 : (zMt y).2.2.2.1 with
    | none => rw [hret2] at hk; simp [zkr] at hk
    | some ty =>
      rw [hret2] at hk hr
      cases ty <;> simp [zkr] at hk
      · exact W.aret B.exec B.bytes hr (Or.inl ⟨_, rfl⟩) (Or.inr ⟨_, rfl⟩) (fun t ht hW => ⟨by rw [hrr]; rfl, by rw [ht]; exact hH'⟩) hlo' (hd _ hi rfl)
      · exact W.aret B.exec B.bytes hr (Or.inr ⟨_, rfl⟩) (Or.inr ⟨_, rfl⟩) (fun t ht hW => ⟨by rw [hrr]; rfl, by rw [ht]; exact hH'⟩) hlo' (hd _ hi rfl)
  · cases hret2 : (zMt y).2.2.2.1 with
    | some ty => rw [hret2] at hk; cases ty <;> simp [zkr] at hk
    | none =>
      rw [hret2] at hr
      exact W.vret B.exec B.bytes hr (fun t ht hW => ⟨by rw [hrr]; rfl, by rw [ht]; exact hH'⟩) hlo' (hd _ hi rfl)
end ZE
theorem zI_ok {y pc : Nat} {i : Instr} {ax : List Nat} (hy : y < znm) (h : zI y pc = some (i, ax)) : zOK y pc i ax = true := by
  unfold zI at h
  cases hf : (zcs.getD y []).find? (fun e => e.1 == pc) with
  | none => rw [hf] at h; simp at h
  | some q =>
    rw [hf] at h
    simp only [Option.map_some, Option.some.injEq] at h
    have h1 := List.find?_some hf
    have h2 := List.mem_of_find?_eq_some hf
    simp only [beq_iff_eq] at h1
    have h3 := List.all_eq_true.mp (zck_all y hy) q h2
    rw [h1, h] at h3
    exact h3
theorem zstep_base {C : Nat → List Value → zH → Option zR} {kr pc : Nat} {i : Instr} {ax : List Nat} {L : zL} {st : List Value} {h : zH} (h1 : ∀ n, i ≠ .invokevirtual n) (h2 : ∀ n, i ≠ .invokestatic n) (h3 : ∀ n, i ≠ .invokespecial n) : zstep C kr pc i ax L st h = zbase kr pc i ax L st h := by
  unfold zstep
  split
  · exact absurd rfl (h1 _)
  · exact absurd rfl (h2 _)
  · exact absurd rfl (h3 _)
  · rfl
end
section
def zWalk (l : Launch) (n : Nat) : Prop := ∀ (y pc : Nat) (L : zL) (st : List Value) (h : zH) (r : zR), y < znm → zrun zTB n y pc L st h = some r →
  ∀ {p : Program} {e : Env} {R : Room} {s : State} {m : MethodId} {args : Array Value} {below : List Frame} {meth : Method} {c : Code} {H : Heap} {locs : List Loc} {cells slots : Nat} {Q : State → Prop} {al : Nat → Nat} {CA : Nat → ClassId} {D : va_G} {ls : Array Slot}, zCtx p R s m args meth c al CA D y → zHH al CA D h H → zLh al ls (zMt y).2.2.1 L → (∀ q ∈ locs, zA al q.base) → (cells + (r.2.length - h.length) ≤ R.cells ∧ slots + (zss r.2 - zss h) ≤ R.slots) →
  (∀ (pc' : Nat) (i : Instr) (ax : List Nat) (L' : zL) (st' : List Value) (H' : Heap) (ls' : Array Slot) (locs' : List Loc), zOK y pc' i ax = true → zbase (zkr (zMt y).2.2.2.1) pc' i ax L' st' r.2 = some (.inl r) → zHH al CA D r.2 H' → (∀ q ∈ locs', zA al q.base) → W p l e R s m args below meth c H' locs' (cells + (r.2.length - h.length)) (slots + (zss r.2 - zss h)) Q (F0 m pc' ls' (st'.map (zv al)))) → W p l e R s m args below meth c H locs cells slots Q (F0 m pc ls (st.map (zv al)))
theorem zinv_ax {y ix kind : Nat} {ax : List Nat} (hok : zcallOK y ix kind ax = true) : (∃ z p1 p2 p3, ax = [z, 5, p1, p2, p3]) ∨ (∃ z p1 p2 p3 p4, ax = [z, 3, p1, p2, p3, p4]) ∨ (∃ z p1 p2 p3 p4, ax = [z, 4, p1, p2, p3, p4]) ∨ (∀ a m r, ax = a :: m :: r → m ≠ 3 ∧ m ≠ 4 ∧ m ≠ 5) := by
  unfold zcallOK at hok
  split at hok
  · exact Or.inl ⟨_, _, _, _, rfl⟩
  · exact Or.inr (Or.inl ⟨_, _, _, _, _, rfl⟩)
  · exact Or.inr (Or.inr (Or.inl ⟨_, _, _, _, _, rfl⟩))
  · refine Or.inr (Or.inr (Or.inr ?_))
    rename_i y' mode n ci p1 p2 p3 p4 lk lp
    intro a m r e
    simp only [List.cons.injEq] at e
    obtain ⟨rfl, rfl, -⟩ := e
    refine ⟨fun q => ?_, fun q => ?_, fun q => ?_⟩ <;> (subst q; simp at hok)
  · simp at hok
set_option maxHeartbeats 1000000 in
theorem zwalk (l : Launch) : ∀ n, zWalk l n
  | 0 => fun y pc L st h r _ hrun => by simp [zrun] at hrun
  | n + 1 => by
    have IH := zwalk l n
    intro y pc L st h r hy hrun p e R s m args below meth c H locs cells slots Q al CA D ls X hH hL hlo hr kend
    rw [zrun_succ] at hrun
    cases hI : zTB.1 y pc with
    | none => rw [hI] at hrun; simp at hrun
    | some q =>
      obtain ⟨i, ax⟩ := q
      rw [hI] at hrun
      simp only at hrun
      have hok := zI_ok hy (show zI y pc = some (i, ax) from hI)
      generalize hC0 : (fun (y' : Nat) (a : List Value) (h' : zH) => if (zent a).length ≤ (zTB.2 y').2.2.1 then zrun zTB n y' 0 (zentry (zTB.2 y').2.2.1 a) [] h' else none) = C at hrun
      have hCle : ∀ y' a h' r', C y' a h' = some r' → zle h' r'.2 := fun y' a h' r' hc => by
        rw [← hC0] at hc
        simp only at hc
        split at hc
        · exact zrun_le n hc
        · simp at hc
      have hCM : ∀ y' a h' r', y' < znm → C y' a h' = some r' → zMet l y' a h' r' := fun y' a h' r' hy' hc => by
        rw [← hC0] at hc
        simp only at hc
        split at hc
        · rename_i hz
          exact zmet_of (n := n) hy' hz (fun X hH hL hlo hr kend => IH y' 0 _ [] h' r' hy' hc X hH hL hlo hr kend)
        · simp at hc
      cases hz : zstep C (zkr (zTB.2 y).2.2.2.1) pc i ax L st h with
      | none => rw [hz] at hrun; simp at hrun
      | some x =>
        rw [hz] at hrun
        have hle := zstep_le hCle hz
        cases x with
        | inl r' =>
          simp only [Option.some.injEq] at hrun
          subst hrun
          have hb : zbase (zkr (zMt y).2.2.2.1) pc i ax L st h = some (.inl r') := by
            rw [← zstep_base (C := C) (fun n q => by subst q; exact zcall_ret hz) (fun n q => by subst q; exact zcall_ret hz) (fun n q => by subst q; exact zcall_ret hz)]
            exact hz
          have hh : r'.2 = h := by rcases zbase_ret hb with ⟨-, v, -, q, -⟩ | ⟨-, v, -, q, -⟩ | ⟨-, v, -, q, -⟩ | ⟨-, v, -, q, -⟩ | ⟨-, -, q, -⟩ <;> rw [q]
          have := kend pc i ax L st H ls locs hok (by rw [hh]; exact hb) (by rw [hh]; exact hH) hlo
          rwa [hh, Nat.sub_self, Nat.sub_self, Nat.add_zero, Nat.add_zero] at this
        | inr s' =>
          simp only at hrun
          have hle2 := zrun_le n hrun
          have hle3 : zle h s'.2.2.2 := hle
          have hr2 : cells + ((zhp (.inr s')).length - h.length) ≤ R.cells ∧ slots + (zss (zhp (.inr s')) - zss h) ≤ R.slots := by
            have h1 := hle2.1
            have h2 := hle2.2
            have h3 := hle3.1
            have h4 := hle3.2
            show cells + (s'.2.2.2.length - h.length) ≤ R.cells ∧ slots + (zss s'.2.2.2 - zss h) ≤ R.slots
            omega
          have k : zGo p l e R s m args below meth c cells slots Q al CA D y h (.inr s') := by
            intro pc' L' st' h' hx H' ls' locs' hH' hL' hlo'
            cases hx
            refine IH y pc' L' st' h' r hy hrun X hH' hL' hlo' ?_ ?_
            · have h1 := hle2.1
              have h2 := hle2.2
              have h3 := hle3.1
              have h4 := hle3.2
              simp only at h1 h2 h3 h4
              omega
            · intro pc2 i2 ax2 L2 st2 H2 ls2 locs2 g1 g2 g3 g4
              have h1 := hle2.1
              have h2 := hle2.2
              have h3 := hle3.1
              have h4 := hle3.2
              simp only at h1 h2 h3 h4
              rw [show cells + (h'.length - h.length) + (r.2.length - h'.length) = cells + (r.2.length - h.length) by omega, show slots + (zss h' - zss h) + (zss r.2 - zss h') = slots + (zss r.2 - zss h) by omega]
              exact kend pc2 i2 ax2 L2 st2 H2 ls2 locs2 g1 g2 g3 g4
          have calls : ∀ (ix kind : Nat), zcallOK y ix kind ax = true → decode (zMt y).2.1 pc = .ok (if kind = 0 then .invokevirtual ix else if kind = 1 then .invokestatic ix else .invokespecial ix, 3) → zcall C pc ax L st h = some (.inr s') → W p l e R s m args below meth c H locs cells slots Q (F0 m pc ls (st.map (zv al))) := by
            intro ix kind hk hd hs
            rcases zinv_ax hk with ⟨z, p1, p2, p3, rfl⟩ | ⟨z, p1, p2, p3, p4, rfl⟩ | ⟨z, p1, p2, p3, p4, rfl⟩ | h345
            · exact zobjW X hk hd hs hH hL hlo k
            · exact zcopyW X hk hd hs hH hL hlo k
            · exact zmaxW X hk hd hs hH hL hlo hr2 k
            · refine zinvW hCM X hk hd h345 ?_ hH hL hlo hr2 k
              unfold zcall at hs
              split at hs
              · exact absurd rfl (h345 _ _ _ rfl).1
              · exact absurd rfl (h345 _ _ _ rfl).2.1
              · exact absurd rfl (h345 _ _ _ rfl).2.2
              · exact hs
          by_cases h1 : ∃ ix, i = .invokevirtual ix
          · obtain ⟨ix, rfl⟩ := h1
            refine calls ix 0 ?_ (zdc_of hok rfl) hz
            simp only [zOK, Bool.and_eq_true] at hok
            exact hok.2
          · by_cases h2 : ∃ ix, i = .invokestatic ix
            · obtain ⟨ix, rfl⟩ := h2
              refine calls ix 1 ?_ (zdc_of hok rfl) hz
              simp only [zOK, Bool.and_eq_true] at hok
              exact hok.2
            · by_cases h3 : ∃ ix, i = .invokespecial ix
              · obtain ⟨ix, rfl⟩ := h3
                refine calls ix 2 ?_ (zdc_of hok rfl) hz
                simp only [zOK, Bool.and_eq_true] at hok
                exact hok.2
              · rw [zstep_base (fun n q => h1 ⟨n, q⟩) (fun n q => h2 ⟨n, q⟩) (fun n q => h3 ⟨n, q⟩)] at hz
                exact zbaseW X hok rfl hz hH hL hlo hr2 k
/-- a run of the pure machine gives its contract -/
theorem zmet (l : Launch) {y : Nat} {a : List Value} {h : zH} {r : zR} (hy : y < znm) (hc : zcalls zTB y a h r) : zMet l y a h r := by
  obtain ⟨hz, n, hn⟩ := hc
  exact zmet_of (n := n) hy hz (fun X hH hL hlo hr kend => zwalk l n y 0 _ [] h r hy hn X hH hL hlo hr kend)
end
section
/-! rows of the pure calculus: an instruction a row; y the method, pc where it stands -/
def zcat8 (st : List Value) : Bool := Nat.ble ((st.map fun v => v.category).sum) 8
theorem zcat8_le {st : List Value} (h : zcat8 st = true) : (st.map fun v => v.category).sum ≤ 8 := Nat.le_of_ble_eq_true h
section ZR
variable {y pc pc' : Nat} {L L' : zL} {st : List Value} {h h' : zH} {r : zR} {ax : List Nat}
theorem zr_iconst {n : Int} {v : Int32} (hI : zI y pc = some (.iconst n, ax)) (hv : Int32.ofInt n = v) (hp : pc + 1 = pc') (k : zruns zTB y pc' L (.int v :: st) h r) : zruns zTB y pc L st h r := zruns_step hI (fun _ => by subst hv; subst hp; rfl) k
theorem zr_bipush {n : Int} {v : Int32} (hI : zI y pc = some (.bipush n, ax)) (hv : (Int8.ofInt n).toInt32 = v) (hp : pc + 2 = pc') (k : zruns zTB y pc' L (.int v :: st) h r) : zruns zTB y pc L st h r := zruns_step hI (fun _ => by subst hv; subst hp; rfl) k
theorem zr_sipush {n : Int} {v : Int32} (hI : zI y pc = some (.sipush n, ax)) (hv : (Int16.ofInt n).toInt32 = v) (hp : pc + 3 = pc') (k : zruns zTB y pc' L (.int v :: st) h r) : zruns zTB y pc L st h r := zruns_step hI (fun _ => by subst hv; subst hp; rfl) k
theorem zr_ldc {n v0 : Nat} {v : Int32} (hI : zI y pc = some (.ldc n, v0 :: ax)) (hv : Int32.ofNat v0 = v) (hp : pc + 2 = pc') (k : zruns zTB y pc' L (.int v :: st) h r) : zruns zTB y pc L st h r := zruns_step hI (fun _ => by subst hv; subst hp; rfl) k
theorem zr_ldc_w {n v0 : Nat} {v : Int32} (hI : zI y pc = some (.ldc_w n, v0 :: ax)) (hv : Int32.ofNat v0 = v) (hp : pc + 3 = pc') (k : zruns zTB y pc' L (.int v :: st) h r) : zruns zTB y pc L st h r := zruns_step hI (fun _ => by subst hv; subst hp; rfl) k
theorem zr_ldc2_w {n v0 : Nat} {v : Int64} (hI : zI y pc = some (.ldc2_w n, v0 :: ax)) (hv : Int64.ofNat v0 = v) (hp : pc + 3 = pc') (k : zruns zTB y pc' L (.long v :: st) h r) : zruns zTB y pc L st h r := zruns_step hI (fun _ => by subst hv; subst hp; rfl) k
theorem zr_iload {n : Nat} {x : Int32} (hI : zI y pc = some (.iload n, ax)) (hl : L[n]? = some (some (.int x))) (hp : pc + 2 = pc') (k : zruns zTB y pc' L (.int x :: st) h r) : zruns zTB y pc L st h r := zruns_step hI (fun _ => by subst hp; simp only [zstep, zbase, zloadI, hl, zgo]) k
theorem zr_iload_n {n : Fin 4} {x : Int32} (hI : zI y pc = some (.iload_n n, ax)) (hl : L[(n : Nat)]? = some (some (.int x))) (hp : pc + 1 = pc') (k : zruns zTB y pc' L (.int x :: st) h r) : zruns zTB y pc L st h r := zruns_step hI (fun _ => by subst hp; simp only [zstep, zbase, zloadI, hl, zgo]) k
theorem zr_lload {n : Nat} {x : Int64} (hI : zI y pc = some (.lload n, ax)) (hl : L[n]? = some (some (.long x))) (hp : pc + 2 = pc') (k : zruns zTB y pc' L (.long x :: st) h r) : zruns zTB y pc L st h r := zruns_step hI (fun _ => by subst hp; simp only [zstep, zbase, zloadL, hl, zgo]) k
theorem zr_lload_n {n : Fin 4} {x : Int64} (hI : zI y pc = some (.lload_n n, ax)) (hl : L[(n : Nat)]? = some (some (.long x))) (hp : pc + 1 = pc') (k : zruns zTB y pc' L (.long x :: st) h r) : zruns zTB y pc L st h r := zruns_step hI (fun _ => by subst hp; simp only [zstep, zbase, zloadL, hl, zgo]) k
theorem zr_aload {n : Nat} {x : Nat} (hI : zI y pc = some (.aload n, ax)) (hl : L[n]? = some (some (.ref x))) (hp : pc + 2 = pc') (k : zruns zTB y pc' L (.ref x :: st) h r) : zruns zTB y pc L st h r := zruns_step hI (fun _ => by subst hp; simp only [zstep, zbase, zloadA, hl, zgo]) k
theorem zr_aload_n {n : Fin 4} {x : Nat} (hI : zI y pc = some (.aload_n n, ax)) (hl : L[(n : Nat)]? = some (some (.ref x))) (hp : pc + 1 = pc') (k : zruns zTB y pc' L (.ref x :: st) h r) : zruns zTB y pc L st h r := zruns_step hI (fun _ => by subst hp; simp only [zstep, zbase, zloadA, hl, zgo]) k
theorem zr_istore {n : Nat} {x : Int32} (hI : zI y pc = some (.istore n, ax)) (hn : n < L.length) (hL : zst1 L n (.int x) = L') (hp : pc + 2 = pc') (k : zruns zTB y pc' L' st h r) : zruns zTB y pc L (.int x :: st) h r := zruns_step hI (fun _ => by subst hL; subst hp; simp only [zstep, zbase, zstoreI, if_pos hn, zgo]) k
theorem zr_istore_n {n : Fin 4} {x : Int32} (hI : zI y pc = some (.istore_n n, ax)) (hn : (n : Nat) < L.length) (hL : zst1 L (n : Nat) (.int x) = L') (hp : pc + 1 = pc') (k : zruns zTB y pc' L' st h r) : zruns zTB y pc L (.int x :: st) h r := zruns_step hI (fun _ => by subst hL; subst hp; simp only [zstep, zbase, zstoreI, if_pos hn, zgo]) k
theorem zr_astore {n : Nat} {x : Nat} (hI : zI y pc = some (.astore n, ax)) (hn : n < L.length) (hL : zst1 L n (.ref x) = L') (hp : pc + 2 = pc') (k : zruns zTB y pc' L' st h r) : zruns zTB y pc L (.ref x :: st) h r := zruns_step hI (fun _ => by subst hL; subst hp; simp only [zstep, zbase, zstoreA, if_pos hn, zgo]) k
theorem zr_astore_n {n : Fin 4} {x : Nat} (hI : zI y pc = some (.astore_n n, ax)) (hn : (n : Nat) < L.length) (hL : zst1 L (n : Nat) (.ref x) = L') (hp : pc + 1 = pc') (k : zruns zTB y pc' L' st h r) : zruns zTB y pc L (.ref x :: st) h r := zruns_step hI (fun _ => by subst hL; subst hp; simp only [zstep, zbase, zstoreA, if_pos hn, zgo]) k
theorem zr_lstore {n : Nat} {x : Int64} (hI : zI y pc = some (.lstore n, ax)) (hn : n + 1 < L.length) (hL : zst2 L n (.long x) = L') (hp : pc + 2 = pc') (k : zruns zTB y pc' L' st h r) : zruns zTB y pc L (.long x :: st) h r := zruns_step hI (fun _ => by subst hL; subst hp; simp only [zstep, zbase, zstoreL, if_pos hn, zgo]) k
theorem zr_lstore_n {n : Fin 4} {x : Int64} (hI : zI y pc = some (.lstore_n n, ax)) (hn : (n : Nat) + 1 < L.length) (hL : zst2 L (n : Nat) (.long x) = L') (hp : pc + 1 = pc') (k : zruns zTB y pc' L' st h r) : zruns zTB y pc L (.long x :: st) h r := zruns_step hI (fun _ => by subst hL; subst hp; simp only [zstep, zbase, zstoreL, if_pos hn, zgo]) k
theorem zr_iinc {n : Nat} {z : Int} {x v : Int32} (hI : zI y pc = some (.iinc n z, ax)) (hl : L[n]? = some (some (.int x))) (hv : x + Int32.ofInt z = v) (hL : zst1 L n (.int v) = L') (hp : pc + 3 = pc') (k : zruns zTB y pc' L' st h r) : zruns zTB y pc L st h r := zruns_step hI (fun _ => by subst hv; subst hL; subst hp; simp only [zstep, zbase, hl, if_pos (List.getElem?_eq_some_iff.mp hl).1, zgo]) k
theorem zr_iadd {x z v : Int32} (hI : zI y pc = some (.iadd, ax)) (hv : x + z = v) (hp : pc + 1 = pc') (k : zruns zTB y pc' L (.int v :: st) h r) : zruns zTB y pc L (.int z :: .int x :: st) h r := zruns_step hI (fun _ => by subst hv; subst hp; rfl) k
theorem zr_isub {x z v : Int32} (hI : zI y pc = some (.isub, ax)) (hv : x - z = v) (hp : pc + 1 = pc') (k : zruns zTB y pc' L (.int v :: st) h r) : zruns zTB y pc L (.int z :: .int x :: st) h r := zruns_step hI (fun _ => by subst hv; subst hp; rfl) k
theorem zr_imul {x z v : Int32} (hI : zI y pc = some (.imul, ax)) (hv : x * z = v) (hp : pc + 1 = pc') (k : zruns zTB y pc' L (.int v :: st) h r) : zruns zTB y pc L (.int z :: .int x :: st) h r := zruns_step hI (fun _ => by subst hv; subst hp; rfl) k
theorem zr_iand {x z v : Int32} (hI : zI y pc = some (.iand, ax)) (hv : x &&& z = v) (hp : pc + 1 = pc') (k : zruns zTB y pc' L (.int v :: st) h r) : zruns zTB y pc L (.int z :: .int x :: st) h r := zruns_step hI (fun _ => by subst hv; subst hp; rfl) k
theorem zr_ior {x z v : Int32} (hI : zI y pc = some (.ior, ax)) (hv : x ||| z = v) (hp : pc + 1 = pc') (k : zruns zTB y pc' L (.int v :: st) h r) : zruns zTB y pc L (.int z :: .int x :: st) h r := zruns_step hI (fun _ => by subst hv; subst hp; rfl) k
theorem zr_ishl {x z v : Int32} (hI : zI y pc = some (.ishl, ax)) (hv : x <<< (z &&& 31) = v) (hp : pc + 1 = pc') (k : zruns zTB y pc' L (.int v :: st) h r) : zruns zTB y pc L (.int z :: .int x :: st) h r := zruns_step hI (fun _ => by subst hv; subst hp; rfl) k
theorem zr_ishr {x z v : Int32} (hI : zI y pc = some (.ishr, ax)) (hv : x >>> (z &&& 31) = v) (hp : pc + 1 = pc') (k : zruns zTB y pc' L (.int v :: st) h r) : zruns zTB y pc L (.int z :: .int x :: st) h r := zruns_step hI (fun _ => by subst hv; subst hp; rfl) k
theorem zr_iushr {x z v : Int32} (hI : zI y pc = some (.iushr, ax)) (hv : (x.toUInt32 >>> (z.toUInt32 &&& Int32.toUInt32 31)).toInt32 = v) (hp : pc + 1 = pc') (k : zruns zTB y pc' L (.int v :: st) h r) : zruns zTB y pc L (.int z :: .int x :: st) h r := zruns_step hI (fun _ => by subst hv; subst hp; rfl) k
theorem zr_idiv {x z v : Int32} (hI : zI y pc = some (.idiv, ax)) (hz : ¬ z = 0) (hv : x / z = v) (hp : pc + 1 = pc') (k : zruns zTB y pc' L (.int v :: st) h r) : zruns zTB y pc L (.int z :: .int x :: st) h r := zruns_step hI (fun _ => by subst hv; subst hp; simp only [zstep, zbase, if_neg hz, zgo]) k
theorem zr_irem {x z v : Int32} (hI : zI y pc = some (.irem, ax)) (hz : ¬ z = 0) (hv : x - x / z * z = v) (hp : pc + 1 = pc') (k : zruns zTB y pc' L (.int v :: st) h r) : zruns zTB y pc L (.int z :: .int x :: st) h r := zruns_step hI (fun _ => by subst hv; subst hp; simp only [zstep, zbase, if_neg hz, zgo]) k
theorem zr_ladd {x z v : Int64} (hI : zI y pc = some (.ladd, ax)) (hv : x + z = v) (hp : pc + 1 = pc') (k : zruns zTB y pc' L (.long v :: st) h r) : zruns zTB y pc L (.long z :: .long x :: st) h r := zruns_step hI (fun _ => by subst hv; subst hp; rfl) k
theorem zr_lmul {x z v : Int64} (hI : zI y pc = some (.lmul, ax)) (hv : x * z = v) (hp : pc + 1 = pc') (k : zruns zTB y pc' L (.long v :: st) h r) : zruns zTB y pc L (.long z :: .long x :: st) h r := zruns_step hI (fun _ => by subst hv; subst hp; rfl) k
theorem zr_lcmp {x z : Int64} (hI : zI y pc = some (.lcmp, ax)) (hp : pc + 1 = pc') (k : zruns zTB y pc' L (.int (lg_cmp x z) :: st) h r) : zruns zTB y pc L (.long z :: .long x :: st) h r := zruns_step hI (fun _ => by subst hp; rfl) k
theorem zr_i2l {x : Int32} (hI : zI y pc = some (.i2l, ax)) (hp : pc + 1 = pc') (k : zruns zTB y pc' L (.long x.toInt64 :: st) h r) : zruns zTB y pc L (.int x :: st) h r := zruns_step hI (fun _ => by subst hp; rfl) k
theorem zr_i2d {x : Int32} (hI : zI y pc = some (.i2d, ax)) (hp : pc + 1 = pc') (k : zruns zTB y pc' L (.double (FP.i2d x) :: st) h r) : zruns zTB y pc L (.int x :: st) h r := zruns_step hI (fun _ => by subst hp; rfl) k
theorem zr_ddiv {x z : UInt64} (hI : zI y pc = some (.ddiv, ax)) (hn : FP.ddiv x z &&& 0x7fffffffffffffff ≤ 0x7ff0000000000000) (hp : pc + 1 = pc') (k : zruns zTB y pc' L (.double (FP.ddiv x z) :: st) h r) : zruns zTB y pc L (.double z :: .double x :: st) h r := zruns_step hI (fun _ => by subst hp; simp only [zstep, zbase, if_pos hn, zgo]) k
theorem zr_dcmp {x z : UInt64} {op : CmpOp} (hI : zI y pc = some (.dcmp op, ax)) (hp : pc + 1 = pc') (k : zruns zTB y pc' L (.int (Op.cmpValue (FP.dcmp x z) op) :: st) h r) : zruns zTB y pc L (.double z :: .double x :: st) h r := zruns_step hI (fun _ => by subst hp; rfl) k
theorem zr_dconst (hI : zI y pc = some (.dconst 0, ax)) (hp : pc + 1 = pc') (k : zruns zTB y pc' L (.double 0 :: st) h r) : zruns zTB y pc L st h r := zruns_step hI (fun _ => by subst hp; rfl) k
theorem zr_dup {v : Value} (hI : zI y pc = some (.dup, ax)) (hv : v.category = 1) (hp : pc + 1 = pc') (k : zruns zTB y pc' L (v :: v :: st) h r) : zruns zTB y pc L (v :: st) h r := zruns_step hI (fun _ => by subst hp; simp only [zstep, zbase, if_pos hv, zgo]) k
theorem zr_pop {v : Value} (hI : zI y pc = some (.pop, ax)) (hv : v.category = 1) (hp : pc + 1 = pc') (k : zruns zTB y pc' L st h r) : zruns zTB y pc L (v :: st) h r := zruns_step hI (fun _ => by subst hp; simp only [zstep, zbase, if_pos hv, zgo]) k
theorem zr_dup_x1 {v w : Value} (hI : zI y pc = some (.dup_x1, ax)) (hv : v.category = 1 ∧ w.category = 1) (hp : pc + 1 = pc') (k : zruns zTB y pc' L (v :: w :: v :: st) h r) : zruns zTB y pc L (v :: w :: st) h r := zruns_step hI (fun _ => by subst hp; simp only [zstep, zbase, if_pos hv, zgo]) k
theorem zr_dup2 {v w : Value} (hI : zI y pc = some (.dup2, ax)) (hv : v.category = 1 ∧ w.category = 1) (hp : pc + 1 = pc') (k : zruns zTB y pc' L (v :: w :: v :: w :: st) h r) : zruns zTB y pc L (v :: w :: st) h r := zruns_step hI (fun _ => by subst hp; simp only [zstep, zbase, if_pos hv, zgo]) k
theorem zr_goto {o : Int} {t : Nat} (hI : zI y pc = some (.goto o, t :: ax)) (k : zruns zTB y t L st h r) : zruns zTB y pc L st h r := zruns_step hI (fun _ => rfl) k
/-- a branch on two numbers, on one -/
theorem zr_icmp {cd : Jvm.ClassFile.Cond} {o : Int} {t : Nat} {x z : Int32} (hI : zI y pc = some (.if_icmp cd o, t :: ax)) (hp : pc + 3 = pc') (kt : zcnd cd x z = true → zruns zTB y t L st h r) (kf : zcnd cd x z = false → zruns zTB y pc' L st h r) : zruns zTB y pc L (.int z :: .int x :: st) h r := by
  subst hp
  cases hc : zcnd cd x z with
  | true => exact zruns_step hI (fun _ => by simp only [zstep, zbase, zif, hc, cond_true]) (kt hc)
  | false => exact zruns_step hI (fun _ => by simp only [zstep, zbase, zif, hc, cond_false]) (kf hc)
theorem zr_if {cd : Jvm.ClassFile.Cond} {o : Int} {t : Nat} {x : Int32} (hI : zI y pc = some (.ifCond cd o, t :: ax)) (hp : pc + 3 = pc') (kt : zcnd cd x 0 = true → zruns zTB y t L st h r) (kf : zcnd cd x 0 = false → zruns zTB y pc' L st h r) : zruns zTB y pc L (.int x :: st) h r := by
  subst hp
  cases hc : zcnd cd x 0 with
  | true => exact zruns_step hI (fun _ => by simp only [zstep, zbase, zif, hc, cond_true]) (kt hc)
  | false => exact zruns_step hI (fun _ => by simp only [zstep, zbase, zif, hc, cond_false]) (kf hc)
theorem zr_table_out {d lo hi : Int} {offs : Array Int} {t : Nat} {x : Int32} (hI : zI y pc = some (.tableswitch d lo hi offs, t :: ax)) (hx : x.toInt < lo ∨ hi < x.toInt) (k : zruns zTB y t L st h r) : zruns zTB y pc L (.int x :: st) h r := zruns_step hI (fun _ => by simp only [zstep, zbase, if_pos hx, zjump, List.getElem?_cons_zero]) k
theorem zr_table_in {d lo hi : Int} {offs : Array Int} {t : Nat} {x : Int32} (hI : zI y pc = some (.tableswitch d lo hi offs, ax)) (j : Nat) (hx : x.toInt = lo + j) (hj : lo + (j : Int) ≤ hi) (ht : ax[j + 1]? = some t) (k : zruns zTB y t L st h r) : zruns zTB y pc L (.int x :: st) h r := zruns_step hI (fun _ => by
  have h1 : ¬ (x.toInt < lo ∨ hi < x.toInt) := by omega
  have h2 : (x.toInt - lo).toNat = j := by omega
  simp only [zstep, zbase, if_neg h1, zjump, h2, ht]) k
theorem zr_lookup {d : Int} {ps : Array (Int × Int)} {t : Nat} {x : Int32} (hI : zI y pc = some (.lookupswitch d ps, ax)) (ht : ax[zlk ps.toList x.toInt 1]? = some t) (k : zruns zTB y t L st h r) : zruns zTB y pc L (.int x :: st) h r := zruns_step hI (fun _ => by simp only [zstep, zbase, zjump, ht]) k
theorem zr_get {ix i ci f : Nat} {fs : List Value} {v : Value} (hI : zI y pc = some (.getfield ix, ci :: f :: ax)) (hh : h[i]? = some (.inr (ci, fs))) (hf : fs[f]? = some v) (hp : pc + 3 = pc') (k : zruns zTB y pc' L (v :: st) h r) : zruns zTB y pc L (.ref i :: st) h r := zruns_step hI (fun _ => by subst hp; simp only [zstep, zbase, zget1, hh, if_true, hf, zgo]) k
theorem zr_put {ix i ci f kd : Nat} {fs : List Value} {v : Value} (hI : zI y pc = some (.putfield ix, ci :: f :: kd :: ax)) (hi : 1 ≤ i) (hh : h[i]? = some (.inr (ci, fs))) (hf : f < fs.length) (hk : zfits kd v = true) (hp : pc + 3 = pc') (hH : h.set i (.inr (ci, fs.set f v)) = h') (k : zruns zTB y pc' L st h' r) : zruns zTB y pc L (v :: .ref i :: st) h r := by
  obtain ⟨j, rfl⟩ : ∃ j, i = j + 1 := ⟨i - 1, by omega⟩
  exact zruns_step hI (fun _ => by subst hp; subst hH; simp only [zstep, zbase, zput1, hh, hf, hk, and_self, if_true, zgo]) k
theorem zr_new {ix ci q1 q2 q3 : Nat} {ds : List Nat} {fs : List Value} {n : Nat} (hI : zI y pc = some (.new ix, ci :: q1 :: q2 :: q3 :: ds)) (hd : zdef ds = fs) (hn : h.length = n) (hp : pc + 3 = pc') (k : zruns zTB y pc' L (.ref n :: st) (h ++ [.inr (ci, fs)]) r) : zruns zTB y pc L st h r := zruns_step hI (fun _ => by subst hp; subst hd; subst hn; rfl) k
theorem zr_newa {a : ArrayType} {t : Nat} {x : Int32} {n N : Nat} (hI : zI y pc = some (.newarray a, t :: ax)) (hx : ¬ x < 0) (hN : x.toNatClampNeg = N) (hb : N ≤ 10000) (hn : h.length = n) (hp : pc + 2 = pc') (k : zruns zTB y pc' L (.ref n :: st) (h ++ [.inl (t, zdefA t N)]) r) : zruns zTB y pc L (.int x :: st) h r := zruns_step hI (fun _ => by
  subst hp; subst hN; subst hn
  have : ¬ (x < 0 ∨ 10000 < x.toNatClampNeg) := fun q => q.elim hx (fun q => by omega)
  simp only [zstep, zbase, znewa, if_neg this, zgo]) k
theorem zr_anewa {ix t : Nat} {x : Int32} {n N : Nat} (hI : zI y pc = some (.anewarray ix, t :: ax)) (hx : ¬ x < 0) (hN : x.toNatClampNeg = N) (hb : N ≤ 10000) (hn : h.length = n) (hp : pc + 3 = pc') (k : zruns zTB y pc' L (.ref n :: st) (h ++ [.inl (t, zdefA t N)]) r) : zruns zTB y pc L (.int x :: st) h r := zruns_step hI (fun _ => by
  subst hp; subst hN; subst hn
  have : ¬ (x < 0 ∨ 10000 < x.toNatClampNeg) := fun q => q.elim hx (fun q => by omega)
  simp only [zstep, zbase, znewa, if_neg this, zgo]) k
theorem zr_alen {i t n : Nat} {f : (Nat → Int32) ⊕ (Nat → Int64) ⊕ (Nat → UInt32) ⊕ (Nat → UInt64) ⊕ (Nat → Option Nat)} {v : Int32} (hI : zI y pc = some (.arraylength, ax)) (hh : h[i]? = some (.inl (t, n, f))) (hv : Int32.ofNat n = v) (hp : pc + 1 = pc') (k : zruns zTB y pc' L (.int v :: st) h r) : zruns zTB y pc L (.ref i :: st) h r := zruns_step hI (fun _ => by subst hp; subst hv; simp only [zstep, zbase, zalen, hh, zgo]) k
theorem zr_iald {i n : Nat} {f : Nat → Int32} {j v : Int32} (hI : zI y pc = some (.iaload, ax)) (hh : h[i]? = some (.inl (0, n, .inl f))) (hj : ¬ (j < 0 ∨ n ≤ j.toNatClampNeg)) (hv : f j.toNatClampNeg = v) (hp : pc + 1 = pc') (k : zruns zTB y pc' L (.int v :: st) h r) : zruns zTB y pc L (.int j :: .ref i :: st) h r := zruns_step hI (fun _ => by subst hp; subst hv; simp only [zstep, zbase, ziald, hh, if_neg hj, zgo]) k
theorem zr_aald {i n q : Nat} {f : Nat → Option Nat} {j : Int32} (hI : zI y pc = some (.aaload, ax)) (hh : h[i]? = some (.inl (3, n, .inr (.inr (.inr (.inr f)))))) (hj : ¬ (j < 0 ∨ n ≤ j.toNatClampNeg)) (hv : f j.toNatClampNeg = some q) (hp : pc + 1 = pc') (k : zruns zTB y pc' L (.ref q :: st) h r) : zruns zTB y pc L (.int j :: .ref i :: st) h r := zruns_step hI (fun _ => by subst hp; simp only [zstep, zbase, zaald, hh, if_neg hj, hv, zgo]) k
theorem zr_iast {i n : Nat} {f : Nat → Int32} {j v : Int32} (hI : zI y pc = some (.iastore, ax)) (hi : 1 ≤ i) (hh : h[i]? = some (.inl (0, n, .inl f))) (hj : ¬ (j < 0 ∨ n ≤ j.toNatClampNeg)) (hp : pc + 1 = pc') (hH : h.set i (.inl (0, n, .inl (upd f j.toNatClampNeg v))) = h') (k : zruns zTB y pc' L st h' r) : zruns zTB y pc L (.int v :: .int j :: .ref i :: st) h r := by
  obtain ⟨m, rfl⟩ : ∃ m, i = m + 1 := ⟨i - 1, by omega⟩
  exact zruns_step hI (fun _ => by subst hp; subst hH; simp only [zstep, zbase, ziast, hh, if_neg hj, zgo]) k
theorem zr_aast {i n q n2 : Nat} {f : Nat → Option Nat} {f2 : Nat → Int32} {j : Int32} (hI : zI y pc = some (.aastore, ax)) (hi : 1 ≤ i) (hh : h[i]? = some (.inl (3, n, .inr (.inr (.inr (.inr f)))))) (hq : h[q]? = some (.inl (0, n2, .inl f2))) (hj : ¬ (j < 0 ∨ n ≤ j.toNatClampNeg)) (hp : pc + 1 = pc') (hH : h.set i (.inl (3, n, .inr (.inr (.inr (.inr (va_up f j.toNatClampNeg (some q))))))) = h') (k : zruns zTB y pc' L st h' r) : zruns zTB y pc L (.ref q :: .int j :: .ref i :: st) h r := by
  obtain ⟨m, rfl⟩ : ∃ m, i = m + 1 := ⟨i - 1, by omega⟩
  exact zruns_step hI (fun _ => by subst hp; subst hH; simp only [zstep, zbase, zaast, hh, hq, if_neg hj, zgo]) k
theorem zr_ireturn {v : Int32} (hI : zI y pc = some (.ireturn, ax)) (hk : zkr (zMt y).2.2.2.1 = 1) : zruns zTB y pc L [.int v] h (some (.int v), h) := zruns_ret hI (fun _ => by simp only [zstep, show zkr (zTB.2 y).2.2.2.1 = 1 from hk, zbase, true_or, if_true])
theorem zr_zreturn {v : Int32} (hI : zI y pc = some (.ireturn, ax)) (hk : zkr (zMt y).2.2.2.1 = 2) (hv : v = 0 ∨ v = 1) : zruns zTB y pc L [.int v] h (some (.int v), h) := zruns_ret hI (fun _ => by simp only [zstep, show zkr (zTB.2 y).2.2.2.1 = 2 from hk, zbase, hv, and_self, or_true, if_true])
theorem zr_lreturn {v : Int64} (hI : zI y pc = some (.lreturn, ax)) (hk : zkr (zMt y).2.2.2.1 = 3) : zruns zTB y pc L [.long v] h (some (.long v), h) := zruns_ret hI (fun _ => by simp only [zstep, show zkr (zTB.2 y).2.2.2.1 = 3 from hk, zbase, if_true])
theorem zr_dreturn {v : UInt64} (hI : zI y pc = some (.dreturn, ax)) (hk : zkr (zMt y).2.2.2.1 = 4) : zruns zTB y pc L [.double v] h (some (.double v), h) := zruns_ret hI (fun _ => by simp only [zstep, show zkr (zTB.2 y).2.2.2.1 = 4 from hk, zbase, if_true])
theorem zr_areturn {v : Nat} (hI : zI y pc = some (.areturn, ax)) (hk : zkr (zMt y).2.2.2.1 = 5) : zruns zTB y pc L [.ref v] h (some (.ref v), h) := zruns_ret hI (fun _ => by simp only [zstep, show zkr (zTB.2 y).2.2.2.1 = 5 from hk, zbase, if_true])
theorem zr_return (hI : zI y pc = some (.return_, ax)) (hk : zkr (zMt y).2.2.2.1 = 0) : zruns zTB y pc L [] h (none, h) := zruns_ret hI (fun _ => by simp only [zstep, show zkr (zTB.2 y).2.2.2.1 = 0 from hk, zbase, if_true])
end ZR
end
section
/-! calls in the pure calculus -/
section ZRC
variable {y pc pc' : Nat} {L L' : zL} {st : List Value} {h h' : zH} {r : zR} {ax : List Nat}
theorem zr_callV {ix y' n ci b : Nat} {As : List Value} {fs : List Value} {q : zR} (hI : zI y pc = some (.invokevirtual ix, y' :: 0 :: n :: ci :: ax)) (hn : As.length = n) (hb : h[b]? = some (.inr (ci, fs))) (hs : zcat8 (.ref b :: st) = true) (hc : zcalls zTB y' (.ref b :: As) h q) (hp : pc + 3 = pc') (k : zruns zTB y pc' L (q.1.toList ++ st) q.2 r) : zruns zTB y pc L (As.reverse ++ .ref b :: st) h r := by
  subst hp
  refine zruns_call hI hc (fun C hC => ?_) k
  have h1 : n ≤ (As.reverse ++ .ref b :: st).length := by rw [List.length_append, List.length_reverse]; omega
  have h2 : (As.reverse ++ .ref b :: st).drop n = .ref b :: st := by rw [← hn, ← List.length_reverse, List.drop_left]
  have h3 : (As.reverse ++ .ref b :: st).take n = As.reverse := by rw [← hn, ← List.length_reverse, List.take_left]
  show zinv C pc (y' :: 0 :: n :: ci :: ax) L (As.reverse ++ .ref b :: st) h = _
  simp only [zinv, h1, h2, h3, zcat8_le hs, and_self, if_true, hb, List.reverse_reverse, hC]
  obtain ⟨q1, q2⟩ := q
  cases q1 <;> rfl
theorem zr_callS {ix y' n c0 : Nat} {As : List Value} {q : zR} (hI : zI y pc = some (.invokestatic ix, y' :: 1 :: n :: c0 :: ax)) (hn : As.length = n) (hs : zcat8 st = true) (hc : zcalls zTB y' As h q) (hp : pc + 3 = pc') (k : zruns zTB y pc' L (q.1.toList ++ st) q.2 r) : zruns zTB y pc L (As.reverse ++ st) h r := by
  subst hp
  refine zruns_call hI hc (fun C hC => ?_) k
  have h1 : n ≤ (As.reverse ++ st).length := by rw [List.length_append, List.length_reverse]; omega
  have h2 : (As.reverse ++ st).drop n = st := by rw [← hn, ← List.length_reverse, List.drop_left]
  have h3 : (As.reverse ++ st).take n = As.reverse := by rw [← hn, ← List.length_reverse, List.take_left]
  show zinv C pc (y' :: 1 :: n :: c0 :: ax) L (As.reverse ++ st) h = _
  simp only [zinv, h1, h2, h3, zcat8_le hs, and_self, if_true, List.reverse_reverse, hC]
  obtain ⟨q1, q2⟩ := q
  cases q1 <;> rfl
theorem zr_callI {ix y' n c0 b : Nat} {As : List Value} {q : zR} (hI : zI y pc = some (.invokespecial ix, y' :: 2 :: n :: c0 :: ax)) (hn : As.length = n) (hs : zcat8 (.ref b :: st) = true) (hc : zcalls zTB y' (.ref b :: As) h q) (hp : pc + 3 = pc') (k : zruns zTB y pc' L (q.1.toList ++ st) q.2 r) : zruns zTB y pc L (As.reverse ++ .ref b :: st) h r := by
  subst hp
  refine zruns_call hI hc (fun C hC => ?_) k
  have h1 : n ≤ (As.reverse ++ .ref b :: st).length := by rw [List.length_append, List.length_reverse]; omega
  have h2 : (As.reverse ++ .ref b :: st).drop n = .ref b :: st := by rw [← hn, ← List.length_reverse, List.drop_left]
  have h3 : (As.reverse ++ .ref b :: st).take n = As.reverse := by rw [← hn, ← List.length_reverse, List.take_left]
  show zinv C pc (y' :: 2 :: n :: c0 :: ax) L (As.reverse ++ .ref b :: st) h = _
  simp only [zinv, h1, h2, h3, zcat8_le hs, and_self, if_true, List.reverse_reverse, hC]
  obtain ⟨q1, q2⟩ := q
  cases q1 <;> rfl
theorem zr_objinit {ix z b : Nat} (hI : zI y pc = some (.invokespecial ix, z :: 5 :: ax)) (hs : zcat8 st = true) (hp : pc + 3 = pc') (k : zruns zTB y pc' L st h r) : zruns zTB y pc L (.ref b :: st) h r := zruns_step hI (fun C => by
  subst hp
  show zobj pc L (.ref b :: st) h = _
  have := zcat8_le hs
  simp only [zobj, if_neg (Nat.not_lt.mpr this), zgo]) k
theorem zr_mmax {ix z : Nat} {a c : Int32} (hI : zI y pc = some (.invokestatic ix, z :: 4 :: ax)) (hs : zcat8 st = true) (hp : pc + 3 = pc') (k : zruns zTB y pc' L (.int (if a < c then c else a) :: st) h r) : zruns zTB y pc L (.int c :: .int a :: st) h r := zruns_step hI (fun C => by
  subst hp
  show zmax pc L (.int c :: .int a :: st) h = _
  have := zcat8_le hs
  simp only [zmax, if_neg (Nat.not_lt.mpr this), zgo]) k
-- by the number of values: v an answer, n none
theorem zr_v0 {ix y' ci b : Nat} {fs : List Value} {v : Value} (hI : zI y pc = some (.invokevirtual ix, y' :: 0 :: 0 :: ci :: ax)) (hb : h[b]? = some (.inr (ci, fs))) (hs : zcat8 (.ref b :: st) = true) (hc : zcalls zTB y' [.ref b] h (some v, h')) (hp : pc + 3 = pc') (k : zruns zTB y pc' L (v :: st) h' r) : zruns zTB y pc L (.ref b :: st) h r := zr_callV (As := []) hI rfl hb hs hc hp k
theorem zr_n0 {ix y' ci b : Nat} {fs : List Value} (hI : zI y pc = some (.invokevirtual ix, y' :: 0 :: 0 :: ci :: ax)) (hb : h[b]? = some (.inr (ci, fs))) (hs : zcat8 (.ref b :: st) = true) (hc : zcalls zTB y' [.ref b] h (none, h')) (hp : pc + 3 = pc') (k : zruns zTB y pc' L st h' r) : zruns zTB y pc L (.ref b :: st) h r := zr_callV (As := []) hI rfl hb hs hc hp k
theorem zr_v1 {ix y' ci b : Nat} {fs : List Value} {v a1 : Value} (hI : zI y pc = some (.invokevirtual ix, y' :: 0 :: 1 :: ci :: ax)) (hb : h[b]? = some (.inr (ci, fs))) (hs : zcat8 (.ref b :: st) = true) (hc : zcalls zTB y' [.ref b, a1] h (some v, h')) (hp : pc + 3 = pc') (k : zruns zTB y pc' L (v :: st) h' r) : zruns zTB y pc L (a1 :: .ref b :: st) h r := zr_callV (As := [a1]) hI rfl hb hs hc hp k
theorem zr_n1 {ix y' ci b : Nat} {fs : List Value} {a1 : Value} (hI : zI y pc = some (.invokevirtual ix, y' :: 0 :: 1 :: ci :: ax)) (hb : h[b]? = some (.inr (ci, fs))) (hs : zcat8 (.ref b :: st) = true) (hc : zcalls zTB y' [.ref b, a1] h (none, h')) (hp : pc + 3 = pc') (k : zruns zTB y pc' L st h' r) : zruns zTB y pc L (a1 :: .ref b :: st) h r := zr_callV (As := [a1]) hI rfl hb hs hc hp k
theorem zr_v2 {ix y' ci b : Nat} {fs : List Value} {v a1 a2 : Value} (hI : zI y pc = some (.invokevirtual ix, y' :: 0 :: 2 :: ci :: ax)) (hb : h[b]? = some (.inr (ci, fs))) (hs : zcat8 (.ref b :: st) = true) (hc : zcalls zTB y' [.ref b, a1, a2] h (some v, h')) (hp : pc + 3 = pc') (k : zruns zTB y pc' L (v :: st) h' r) : zruns zTB y pc L (a2 :: a1 :: .ref b :: st) h r := zr_callV (As := [a1, a2]) hI rfl hb hs hc hp k
theorem zr_n2 {ix y' ci b : Nat} {fs : List Value} {a1 a2 : Value} (hI : zI y pc = some (.invokevirtual ix, y' :: 0 :: 2 :: ci :: ax)) (hb : h[b]? = some (.inr (ci, fs))) (hs : zcat8 (.ref b :: st) = true) (hc : zcalls zTB y' [.ref b, a1, a2] h (none, h')) (hp : pc + 3 = pc') (k : zruns zTB y pc' L st h' r) : zruns zTB y pc L (a2 :: a1 :: .ref b :: st) h r := zr_callV (As := [a1, a2]) hI rfl hb hs hc hp k
theorem zr_v3 {ix y' ci b : Nat} {fs : List Value} {v a1 a2 a3 : Value} (hI : zI y pc = some (.invokevirtual ix, y' :: 0 :: 3 :: ci :: ax)) (hb : h[b]? = some (.inr (ci, fs))) (hs : zcat8 (.ref b :: st) = true) (hc : zcalls zTB y' [.ref b, a1, a2, a3] h (some v, h')) (hp : pc + 3 = pc') (k : zruns zTB y pc' L (v :: st) h' r) : zruns zTB y pc L (a3 :: a2 :: a1 :: .ref b :: st) h r := zr_callV (As := [a1, a2, a3]) hI rfl hb hs hc hp k
theorem zr_n3 {ix y' ci b : Nat} {fs : List Value} {a1 a2 a3 : Value} (hI : zI y pc = some (.invokevirtual ix, y' :: 0 :: 3 :: ci :: ax)) (hb : h[b]? = some (.inr (ci, fs))) (hs : zcat8 (.ref b :: st) = true) (hc : zcalls zTB y' [.ref b, a1, a2, a3] h (none, h')) (hp : pc + 3 = pc') (k : zruns zTB y pc' L st h' r) : zruns zTB y pc L (a3 :: a2 :: a1 :: .ref b :: st) h r := zr_callV (As := [a1, a2, a3]) hI rfl hb hs hc hp k
theorem zr_v4 {ix y' ci b : Nat} {fs : List Value} {v a1 a2 a3 a4 : Value} (hI : zI y pc = some (.invokevirtual ix, y' :: 0 :: 4 :: ci :: ax)) (hb : h[b]? = some (.inr (ci, fs))) (hs : zcat8 (.ref b :: st) = true) (hc : zcalls zTB y' [.ref b, a1, a2, a3, a4] h (some v, h')) (hp : pc + 3 = pc') (k : zruns zTB y pc' L (v :: st) h' r) : zruns zTB y pc L (a4 :: a3 :: a2 :: a1 :: .ref b :: st) h r := zr_callV (As := [a1, a2, a3, a4]) hI rfl hb hs hc hp k
theorem zr_n4 {ix y' ci b : Nat} {fs : List Value} {a1 a2 a3 a4 : Value} (hI : zI y pc = some (.invokevirtual ix, y' :: 0 :: 4 :: ci :: ax)) (hb : h[b]? = some (.inr (ci, fs))) (hs : zcat8 (.ref b :: st) = true) (hc : zcalls zTB y' [.ref b, a1, a2, a3, a4] h (none, h')) (hp : pc + 3 = pc') (k : zruns zTB y pc' L st h' r) : zruns zTB y pc L (a4 :: a3 :: a2 :: a1 :: .ref b :: st) h r := zr_callV (As := [a1, a2, a3, a4]) hI rfl hb hs hc hp k
theorem zr_s1 {ix y' c0 : Nat} {v a1 : Value} (hI : zI y pc = some (.invokestatic ix, y' :: 1 :: 1 :: c0 :: ax)) (hs : zcat8 st = true) (hc : zcalls zTB y' [a1] h (some v, h')) (hp : pc + 3 = pc') (k : zruns zTB y pc' L (v :: st) h' r) : zruns zTB y pc L (a1 :: st) h r := zr_callS (As := [a1]) hI rfl hs hc hp k
theorem zr_s2 {ix y' c0 : Nat} {v a1 a2 : Value} (hI : zI y pc = some (.invokestatic ix, y' :: 1 :: 2 :: c0 :: ax)) (hs : zcat8 st = true) (hc : zcalls zTB y' [a1, a2] h (some v, h')) (hp : pc + 3 = pc') (k : zruns zTB y pc' L (v :: st) h' r) : zruns zTB y pc L (a2 :: a1 :: st) h r := zr_callS (As := [a1, a2]) hI rfl hs hc hp k
theorem zr_s3 {ix y' c0 : Nat} {v a1 a2 a3 : Value} (hI : zI y pc = some (.invokestatic ix, y' :: 1 :: 3 :: c0 :: ax)) (hs : zcat8 st = true) (hc : zcalls zTB y' [a1, a2, a3] h (some v, h')) (hp : pc + 3 = pc') (k : zruns zTB y pc' L (v :: st) h' r) : zruns zTB y pc L (a3 :: a2 :: a1 :: st) h r := zr_callS (As := [a1, a2, a3]) hI rfl hs hc hp k
theorem zr_s4 {ix y' c0 : Nat} {v a1 a2 a3 a4 : Value} (hI : zI y pc = some (.invokestatic ix, y' :: 1 :: 4 :: c0 :: ax)) (hs : zcat8 st = true) (hc : zcalls zTB y' [a1, a2, a3, a4] h (some v, h')) (hp : pc + 3 = pc') (k : zruns zTB y pc' L (v :: st) h' r) : zruns zTB y pc L (a4 :: a3 :: a2 :: a1 :: st) h r := zr_callS (As := [a1, a2, a3, a4]) hI rfl hs hc hp k
theorem zr_i0 {ix y' c0 b : Nat} (hI : zI y pc = some (.invokespecial ix, y' :: 2 :: 0 :: c0 :: ax)) (hs : zcat8 (.ref b :: st) = true) (hc : zcalls zTB y' [.ref b] h (none, h')) (hp : pc + 3 = pc') (k : zruns zTB y pc' L st h' r) : zruns zTB y pc L (.ref b :: st) h r := zr_callI (As := []) hI rfl hs hc hp k
theorem zr_i1 {ix y' c0 b : Nat} {a1 : Value} (hI : zI y pc = some (.invokespecial ix, y' :: 2 :: 1 :: c0 :: ax)) (hs : zcat8 (.ref b :: st) = true) (hc : zcalls zTB y' [.ref b, a1] h (none, h')) (hp : pc + 3 = pc') (k : zruns zTB y pc' L st h' r) : zruns zTB y pc L (a1 :: .ref b :: st) h r := zr_callI (As := [a1]) hI rfl hs hc hp k
theorem zr_i2 {ix y' c0 b : Nat} {a1 a2 : Value} (hI : zI y pc = some (.invokespecial ix, y' :: 2 :: 2 :: c0 :: ax)) (hs : zcat8 (.ref b :: st) = true) (hc : zcalls zTB y' [.ref b, a1, a2] h (none, h')) (hp : pc + 3 = pc') (k : zruns zTB y pc' L st h' r) : zruns zTB y pc L (a2 :: a1 :: .ref b :: st) h r := zr_callI (As := [a1, a2]) hI rfl hs hc hp k
end ZRC
end
section
/-! the cells of a Nightjar: rows F r, counters g i (printed by program) -/
def nlist (b : Nat) (F : Nat → Nat → Int32) (g : Nat → Nat) : zH := [.inr (6, [.ref (b + 1), .ref (b + 16), .ref (b + 21), .ref (b + 26), .ref (b + 43), .ref (b + 52), .ref (b + 69)]), .inr (0, [.ref (b + 2), .ref (b + 4), .ref (b + 6), .ref (b + 8), .ref (b + 10), .ref (b + 12), .ref (b + 14), .int (nI (g 0)), .int (nI (g 1))]), .inr (1, [.ref (b + 3)]), .inl (0, 70, .inl (F 0)), .inr (1, [.ref (b + 5)]), .inl (0, 70, .inl (F 1)), .inr (1, [.ref (b + 7)]), .inl (0, 70, .inl (F 2)), .inr (1, [.ref (b + 9)]), .inl (0, 70, .inl (F 3)), .inr (1, [.ref (b + 11)]), .inl (0, 560, .inl (F 4)), .inr (1, [.ref (b + 13)]), .inl (0, 70, .inl (F 5)), .inr (1, [.ref (b + 15)]), .inl (0, 70, .inl (F 6)), .inr (5, [.ref (b + 17), .ref (b + 19), .int (nI (g 2))]), .inr (1, [.ref (b + 18)]), .inl (0, 20, .inl (F 7)), .inr (1, [.ref (b + 20)]), .inl (0, 160, .inl (F 8)), .inr (5, [.ref (b + 22), .ref (b + 24), .int (nI (g 3))]), .inr (1, [.ref (b + 23)]), .inl (0, 20, .inl (F 9)), .inr (1, [.ref (b + 25)]), .inl (0, 160, .inl (F 10)), .inr (3, [.ref (b + 27), .ref (b + 29), .ref (b + 31), .ref (b + 33), .ref (b + 35), .ref (b + 37), .ref (b + 39), .ref (b + 41), .int (nI (g 4))]), .inr (1, [.ref (b + 28)]), .inl (0, 70, .inl (F 11)), .inr (1, [.ref (b + 30)]), .inl (0, 70, .inl (F 12)), .inr (1, [.ref (b + 32)]), .inl (0, 70, .inl (F 13)), .inr (1, [.ref (b + 34)]), .inl (0, 70, .inl (F 14)), .inr (1, [.ref (b + 36)]), .inl (0, 70, .inl (F 15)), .inr (1, [.ref (b + 38)]), .inl (0, 70, .inl (F 16)), .inr (1, [.ref (b + 40)]), .inl (0, 70, .inl (F 17)), .inr (1, [.ref (b + 42)]), .inl (0, 70, .inl (F 18)), .inr (4, [.ref (b + 44), .ref (b + 46), .ref (b + 48), .ref (b + 50), .int (nI (g 5))]), .inr (1, [.ref (b + 45)]), .inl (0, 23, .inl (F 19)), .inr (1, [.ref (b + 47)]), .inl (0, 23, .inl (F 20)), .inr (1, [.ref (b + 49)]), .inl (0, 23, .inl (F 21)), .inr (1, [.ref (b + 51)]), .inl (0, 20, .inl (F 22)), .inr (2, [.ref (b + 53), .ref (b + 55), .ref (b + 57), .ref (b + 59), .ref (b + 61), .ref (b + 63), .ref (b + 65), .ref (b + 67)]), .inr (1, [.ref (b + 54)]), .inl (0, 70, .inl (F 23)), .inr (1, [.ref (b + 56)]), .inl (0, 70, .inl (F 24)), .inr (1, [.ref (b + 58)]), .inl (0, 400, .inl (F 25)), .inr (1, [.ref (b + 60)]), .inl (0, 20, .inl (F 26)), .inr (1, [.ref (b + 62)]), .inl (0, 20, .inl (F 27)), .inr (1, [.ref (b + 64)]), .inl (0, 400, .inl (F 28)), .inr (1, [.ref (b + 66)]), .inl (0, 400, .inl (F 29)), .inr (1, [.ref (b + 68)]), .inl (0, 20, .inl (F 30)), .inr (1, [.ref (b + 70)]), .inl (0, 4, .inl (F 31))]
def nput (b : Nat) (F : Nat → Nat → Int32) (g : Nat → Nat) (h : zH) : zH := h.take b ++ (nlist b F g ++ h.drop (b + 71))
def updR (F : Nat → Nat → Int32) (r : Nat) (f : Nat → Int32) : Nat → Nat → Int32 := fun q => if q = r then f else F q
def updG (g : Nat → Nat) (k v : Nat) : Nat → Nat := fun q => if q = k then v else g q
def rat (n : Nat) (f : Nat → Int32) (x : Int32) : Int32 := if x < 0 ∨ n ≤ x.toNatClampNeg then -1 else f x.toNatClampNeg
def rput (n : Nat) (f : Nat → Int32) (x v : Int32) : Nat → Int32 := if x < 0 ∨ n ≤ x.toNatClampNeg then f else upd f x.toNatClampNeg v
section NPUT
variable {b : Nat} {F F' : Nat → Nat → Int32} {g g' : Nat → Nat} {h : zH}
theorem nlist_len : (nlist b F g).length = 71 := rfl
theorem nput_at {k : Nat} {e : zE} (hb : b + 71 ≤ h.length) (hk : (nlist b F g)[k]? = some e) : (nput b F g h)[b + k]? = some e := by
  have hl : k < 71 := (List.getElem?_eq_some_iff.mp hk).1
  have ht : (h.take b).length = b := by rw [List.length_take]; omega
  unfold nput
  rw [List.getElem?_append_right (by omega), ht, Nat.add_sub_cancel_left, List.getElem?_append_left (by rw [nlist_len]; exact hl)]
  exact hk
theorem nput_len (hb : b + 71 ≤ h.length) : (nput b F g h).length = h.length := by
  unfold nput
  rw [List.length_append, List.length_append, List.length_take, List.length_drop, nlist_len]
  omega
theorem nput_set {k : Nat} {e : zE} (hb : b + 71 ≤ h.length) (hk : k < 71) (he : (nlist b F g).set k e = nlist b F' g') : (nput b F g h).set (b + k) e = nput b F' g' h := by
  have ht : (h.take b).length = b := by rw [List.length_take]; omega
  unfold nput
  rw [List.set_append_right _ _ (by omega), ht, Nat.add_sub_cancel_left, List.set_append_left _ _ (by rw [nlist_len]; exact hk), he]
theorem nput_out {j : Nat} (hb : b + 71 ≤ h.length) (hj : j < b ∨ b + 71 ≤ j) : (nput b F g h)[j]? = h[j]? := by
  have ht : (h.take b).length = b := by rw [List.length_take]; omega
  unfold nput
  rcases hj with hj | hj
  · rw [List.getElem?_append_left (by omega), List.getElem?_take_of_lt hj]
  · rw [List.getElem?_append_right (by omega), ht, List.getElem?_append_right (by rw [nlist_len]; omega), nlist_len, List.getElem?_drop]
    congr 1
    omega
theorem nput_ext {h2 : zH} (hb : b + 71 ≤ h.length) (hl : h2.length = h.length) (h1 : ∀ k e, (nlist b F g)[k]? = some e → h2[b + k]? = some e) (ho : ∀ j, j < b ∨ b + 71 ≤ j → h2[j]? = h[j]?) : nput b F g h = h2 := by
  apply List.ext_getElem?
  intro j
  by_cases hj : j < b ∨ b + 71 ≤ j
  · rw [nput_out hb hj, ho j hj]
  · have hk : j - b < (nlist b F g).length := by rw [nlist_len]; omega
    have e := List.getElem?_eq_getElem hk
    have a1 := nput_at hb e
    have a2 := h1 _ _ e
    rw [show b + (j - b) = j by omega] at a1 a2
    rw [a1, a2]
theorem nput_nput (hb : b + 71 ≤ h.length) : nput b F' g' (nput b F g h) = nput b F' g' h := by
  refine nput_ext (by rw [nput_len hb]; exact hb) (by rw [nput_len hb, nput_len hb]) (fun k e he => nput_at hb he) (fun j hj => by rw [nput_out hb hj, nput_out hb hj])
theorem nput_zss (hb : b + 71 ≤ h.length) : zss (nput b F g h) = zss (nput b F' g' h) := by
  simp only [nput, zss, List.map_append, List.sum_append]
  rfl
end NPUT
/-! the methods of a row -/
theorem zi_0_0 : zI 0 0 = some (.iload_n 1, []) := by decide +kernel
theorem zi_0_1 : zI 0 1 = some (.ifCond .lt 21, [22]) := by decide +kernel
theorem zi_0_4 : zI 0 4 = some (.iload_n 1, []) := by decide +kernel
theorem zi_0_5 : zI 0 5 = some (.aload_n 0, []) := by decide +kernel
theorem zi_0_6 : zI 0 6 = some (.getfield 9, [1, 0, 0]) := by decide +kernel
theorem zi_0_9 : zI 0 9 = some (.arraylength, []) := by decide +kernel
theorem zi_0_10 : zI 0 10 = some (.if_icmp .ge 12, [22]) := by decide +kernel
theorem zi_0_13 : zI 0 13 = some (.aload_n 0, []) := by decide +kernel
theorem zi_0_14 : zI 0 14 = some (.getfield 9, [1, 0, 0]) := by decide +kernel
theorem zi_0_17 : zI 0 17 = some (.iload_n 1, []) := by decide +kernel
theorem zi_0_18 : zI 0 18 = some (.iaload, []) := by decide +kernel
theorem zi_0_19 : zI 0 19 = some (.goto 4, [23]) := by decide +kernel
theorem zi_0_22 : zI 0 22 = some (.iconst (-1), []) := by decide +kernel
theorem zi_0_23 : zI 0 23 = some (.ireturn, []) := by decide +kernel
theorem zi_1_0 : zI 1 0 = some (.iload_n 1, []) := by decide +kernel
theorem zi_1_1 : zI 1 1 = some (.ifCond .lt 19, [20]) := by decide +kernel
theorem zi_1_4 : zI 1 4 = some (.iload_n 1, []) := by decide +kernel
theorem zi_1_5 : zI 1 5 = some (.aload_n 0, []) := by decide +kernel
theorem zi_1_6 : zI 1 6 = some (.getfield 9, [1, 0, 0]) := by decide +kernel
theorem zi_1_9 : zI 1 9 = some (.arraylength, []) := by decide +kernel
theorem zi_1_10 : zI 1 10 = some (.if_icmp .ge 10, [20]) := by decide +kernel
theorem zi_1_13 : zI 1 13 = some (.aload_n 0, []) := by decide +kernel
theorem zi_1_14 : zI 1 14 = some (.getfield 9, [1, 0, 0]) := by decide +kernel
theorem zi_1_17 : zI 1 17 = some (.iload_n 1, []) := by decide +kernel
theorem zi_1_18 : zI 1 18 = some (.iload_n 2, []) := by decide +kernel
theorem zi_1_19 : zI 1 19 = some (.iastore, []) := by decide +kernel
theorem zi_1_20 : zI 1 20 = some (.return_, []) := by decide +kernel
theorem zi_7_0 : zI 7 0 = some (.iload_n 1, []) := by decide +kernel
theorem zi_7_1 : zI 7 1 = some (.ifCond .lt 22, [23]) := by decide +kernel
theorem zi_7_4 : zI 7 4 = some (.iload_n 1, []) := by decide +kernel
theorem zi_7_5 : zI 7 5 = some (.aload_n 0, []) := by decide +kernel
theorem zi_7_6 : zI 7 6 = some (.getfield 9, [1, 0, 0]) := by decide +kernel
theorem zi_7_9 : zI 7 9 = some (.arraylength, []) := by decide +kernel
theorem zi_7_10 : zI 7 10 = some (.if_icmp .ge 13, [23]) := by decide +kernel
theorem zi_7_13 : zI 7 13 = some (.aload_n 0, []) := by decide +kernel
theorem zi_7_14 : zI 7 14 = some (.getfield 9, [1, 0, 0]) := by decide +kernel
theorem zi_7_17 : zI 7 17 = some (.iload_n 1, []) := by decide +kernel
theorem zi_7_18 : zI 7 18 = some (.dup2, []) := by decide +kernel
theorem zi_7_19 : zI 7 19 = some (.iaload, []) := by decide +kernel
theorem zi_7_20 : zI 7 20 = some (.iconst 1, []) := by decide +kernel
theorem zi_7_21 : zI 7 21 = some (.iadd, []) := by decide +kernel
theorem zi_7_22 : zI 7 22 = some (.iastore, []) := by decide +kernel
theorem zi_7_23 : zI 7 23 = some (.return_, []) := by decide +kernel
theorem zi_15_0 : zI 15 0 = some (.iconst 0, []) := by decide +kernel
theorem zi_15_1 : zI 15 1 = some (.istore_n 1, []) := by decide +kernel
theorem zi_15_2 : zI 15 2 = some (.iload_n 1, []) := by decide +kernel
theorem zi_15_3 : zI 15 3 = some (.aload_n 0, []) := by decide +kernel
theorem zi_15_4 : zI 15 4 = some (.getfield 9, [1, 0, 0]) := by decide +kernel
theorem zi_15_7 : zI 15 7 = some (.arraylength, []) := by decide +kernel
theorem zi_15_8 : zI 15 8 = some (.if_icmp .ge 16, [24]) := by decide +kernel
theorem zi_15_11 : zI 15 11 = some (.aload_n 0, []) := by decide +kernel
theorem zi_15_12 : zI 15 12 = some (.getfield 9, [1, 0, 0]) := by decide +kernel
theorem zi_15_15 : zI 15 15 = some (.iload_n 1, []) := by decide +kernel
theorem zi_15_16 : zI 15 16 = some (.iconst 0, []) := by decide +kernel
theorem zi_15_17 : zI 15 17 = some (.iastore, []) := by decide +kernel
theorem zi_15_18 : zI 15 18 = some (.iinc 1 1, []) := by decide +kernel
theorem zi_15_21 : zI 15 21 = some (.goto (-19), [2]) := by decide +kernel
theorem zi_15_24 : zI 15 24 = some (.return_, []) := by decide +kernel
theorem n_le {x : Int32} (h : zcnd .lt x 0 = false) {n : Nat} (hn : n < 2 ^ 31) (h2 : zcnd .ge x (Int32.ofNat n) = false) : ¬ (x < 0 ∨ n ≤ x.toNatClampNeg) := by
  simp only [zcnd, decide_eq_false_iff_not] at h h2
  rintro (q | q)
  · exact h q
  · obtain ⟨j, hj, rfl⟩ := nI_of h
    rw [nI_clamp hj] at q
    exact h2 ((nI_leI hn hj).mpr q)
theorem n_out {x : Int32} (h : zcnd .lt x 0 = true) {n : Nat} : x < 0 ∨ n ≤ x.toNatClampNeg := by
  simp only [zcnd, decide_eq_true_eq] at h
  exact Or.inl h
theorem n_out2 {x : Int32} (h : zcnd .lt x 0 = false) {n : Nat} (hn : n < 2 ^ 31) (h2 : zcnd .ge x (Int32.ofNat n) = true) : x < 0 ∨ n ≤ x.toNatClampNeg := by
  simp only [zcnd, decide_eq_false_iff_not, decide_eq_true_eq] at h h2
  obtain ⟨j, hj, rfl⟩ := nI_of h
  rw [nI_clamp hj]
  exact Or.inr ((nI_leI hn hj).mp h2)
theorem c_at {h : zH} {o a n : Nat} {f : Nat → Int32} {x : Int32} (h1 : h[o]? = some (.inr (1, [.ref a]))) (h2 : h[a]? = some (.inl (0, n, .inl f))) (hn : n < 2 ^ 31) : zcalls zTB 0 [.ref o, .int x] h (some (.int (rat n f x)), h) := by
  refine zcalls_of (Nat.le_of_ble_eq_true rfl) ?_
  show zruns zTB 0 0 [some (.ref o), some (.int x)] [] h _
  refine zr_iload_n (pc' := 1) zi_0_0 rfl rfl ?_
  refine zr_if (pc' := 4) zi_0_1 rfl (fun hc => ?_) (fun hc => ?_)
  · rw [show rat n f x = -1 from if_pos (n_out hc)]
    refine zr_iconst (v := -1) (pc' := 23) zi_0_22 rfl rfl ?_
    exact zr_ireturn zi_0_23 rfl
  refine zr_iload_n (pc' := 5) zi_0_4 rfl rfl ?_
  refine zr_aload_n (pc' := 6) zi_0_5 rfl rfl ?_
  refine zr_get (pc' := 9) zi_0_6 h1 rfl rfl ?_
  refine zr_alen (pc' := 10) zi_0_9 h2 rfl rfl ?_
  refine zr_icmp (pc' := 13) zi_0_10 rfl (fun hc2 => ?_) (fun hc2 => ?_)
  · rw [show rat n f x = -1 from if_pos (n_out2 hc hn hc2)]
    refine zr_iconst (v := -1) (pc' := 23) zi_0_22 rfl rfl ?_
    exact zr_ireturn zi_0_23 rfl
  have hin := n_le hc hn hc2
  rw [show rat n f x = f x.toNatClampNeg from if_neg hin]
  refine zr_aload_n (pc' := 14) zi_0_13 rfl rfl ?_
  refine zr_get (pc' := 17) zi_0_14 h1 rfl rfl ?_
  refine zr_iload_n (pc' := 18) zi_0_17 rfl rfl ?_
  refine zr_iald (pc' := 19) zi_0_18 h2 hin rfl rfl ?_
  refine zr_goto zi_0_19 ?_
  exact zr_ireturn zi_0_23 rfl
theorem set_same {h : zH} {a : Nat} {e : zE} (h2 : h[a]? = some e) : h.set a e = h := by
  apply List.ext_getElem?
  intro j
  by_cases hj : a = j
  · subst hj
    rw [List.getElem?_set_self (List.getElem?_eq_some_iff.mp h2).1, h2]
  · rw [List.getElem?_set_ne hj]
theorem c_put {h : zH} {o a n : Nat} {f : Nat → Int32} {x v : Int32} (h1 : h[o]? = some (.inr (1, [.ref a]))) (h2 : h[a]? = some (.inl (0, n, .inl f))) (ha : 1 ≤ a) (hn : n < 2 ^ 31) : zcalls zTB 1 [.ref o, .int x, .int v] h (none, h.set a (.inl (0, n, .inl (rput n f x v)))) := by
  refine zcalls_of (Nat.le_of_ble_eq_true rfl) ?_
  show zruns zTB 1 0 [some (.ref o), some (.int x), some (.int v)] [] h _
  refine zr_iload_n (pc' := 1) zi_1_0 rfl rfl ?_
  refine zr_if (pc' := 4) zi_1_1 rfl (fun hc => ?_) (fun hc => ?_)
  · rw [show rput n f x v = f from if_pos (n_out hc), set_same h2]
    exact zr_return zi_1_20 rfl
  refine zr_iload_n (pc' := 5) zi_1_4 rfl rfl ?_
  refine zr_aload_n (pc' := 6) zi_1_5 rfl rfl ?_
  refine zr_get (pc' := 9) zi_1_6 h1 rfl rfl ?_
  refine zr_alen (pc' := 10) zi_1_9 h2 rfl rfl ?_
  refine zr_icmp (pc' := 13) zi_1_10 rfl (fun hc2 => ?_) (fun hc2 => ?_)
  · rw [show rput n f x v = f from if_pos (n_out2 hc hn hc2), set_same h2]
    exact zr_return zi_1_20 rfl
  have hin := n_le hc hn hc2
  rw [show rput n f x v = upd f x.toNatClampNeg v from if_neg hin]
  refine zr_aload_n (pc' := 14) zi_1_13 rfl rfl ?_
  refine zr_get (pc' := 17) zi_1_14 h1 rfl rfl ?_
  refine zr_iload_n (pc' := 18) zi_1_17 rfl rfl ?_
  refine zr_iload_n (pc' := 19) zi_1_18 rfl rfl ?_
  refine zr_iast (pc' := 20) zi_1_19 ha h2 hin rfl rfl ?_
  exact zr_return zi_1_20 rfl
theorem c_increase {h : zH} {o a n : Nat} {f : Nat → Int32} {x : Int32} (h1 : h[o]? = some (.inr (1, [.ref a]))) (h2 : h[a]? = some (.inl (0, n, .inl f))) (ha : 1 ≤ a) (hn : n < 2 ^ 31) : zcalls zTB 7 [.ref o, .int x] h (none, h.set a (.inl (0, n, .inl (rput n f x (f x.toNatClampNeg + 1))))) := by
  refine zcalls_of (Nat.le_of_ble_eq_true rfl) ?_
  show zruns zTB 7 0 [some (.ref o), some (.int x)] [] h _
  refine zr_iload_n (pc' := 1) zi_7_0 rfl rfl ?_
  refine zr_if (pc' := 4) zi_7_1 rfl (fun hc => ?_) (fun hc => ?_)
  · rw [show rput n f x (f x.toNatClampNeg + 1) = f from if_pos (n_out hc), set_same h2]
    exact zr_return zi_7_23 rfl
  refine zr_iload_n (pc' := 5) zi_7_4 rfl rfl ?_
  refine zr_aload_n (pc' := 6) zi_7_5 rfl rfl ?_
  refine zr_get (pc' := 9) zi_7_6 h1 rfl rfl ?_
  refine zr_alen (pc' := 10) zi_7_9 h2 rfl rfl ?_
  refine zr_icmp (pc' := 13) zi_7_10 rfl (fun hc2 => ?_) (fun hc2 => ?_)
  · rw [show rput n f x (f x.toNatClampNeg + 1) = f from if_pos (n_out2 hc hn hc2), set_same h2]
    exact zr_return zi_7_23 rfl
  have hin := n_le hc hn hc2
  rw [show rput n f x (f x.toNatClampNeg + 1) = upd f x.toNatClampNeg (f x.toNatClampNeg + 1) from if_neg hin]
  refine zr_aload_n (pc' := 14) zi_7_13 rfl rfl ?_
  refine zr_get (pc' := 17) zi_7_14 h1 rfl rfl ?_
  refine zr_iload_n (pc' := 18) zi_7_17 rfl rfl ?_
  refine zr_dup2 (pc' := 19) zi_7_18 ⟨rfl, rfl⟩ rfl ?_
  refine zr_iald (pc' := 20) zi_7_19 h2 hin rfl rfl ?_
  refine zr_iconst (v := 1) (pc' := 21) zi_7_20 rfl rfl ?_
  refine zr_iadd (pc' := 22) zi_7_21 rfl rfl ?_
  refine zr_iast (pc' := 23) zi_7_22 ha h2 hin rfl rfl ?_
  exact zr_return zi_7_23 rfl
theorem c_clear_loop {o a n : Nat} (ha : 1 ≤ a) (hao : a ≠ o) (hn : n < 2 ^ 31) : ∀ (k i : Nat) (h : zH) (f : Nat → Int32), i + k = n → h[o]? = some (.inr (1, [.ref a])) → h[a]? = some (.inl (0, n, .inl f)) → (∀ j, j < i → f j = 0) → ∃ f', (∀ j, j < n → f' j = 0) ∧ zruns zTB 15 2 [some (.ref o), some (.int (nI i))] [] h (none, h.set a (.inl (0, n, .inl f')))
  | 0, i, h, f, hk, h1, h2, hf => by
    refine ⟨f, fun j hj => hf j (by omega), ?_⟩
    rw [set_same h2]
    refine zr_iload_n (pc' := 3) zi_15_2 rfl rfl ?_
    refine zr_aload_n (pc' := 4) zi_15_3 rfl rfl ?_
    refine zr_get (pc' := 7) zi_15_4 h1 rfl rfl ?_
    refine zr_alen (pc' := 8) zi_15_7 h2 rfl rfl ?_
    refine zr_icmp (pc' := 11) zi_15_8 rfl (fun hc => ?_) (fun hc => ?_)
    · exact zr_return zi_15_24 rfl
    · simp only [zcnd, decide_eq_false_iff_not] at hc
      exact absurd ((nI_leI hn (show i < 2 ^ 31 by omega)).mpr (by omega)) hc
  | k + 1, i, h, f, hk, h1, h2, hf => by
    have hl := (List.getElem?_eq_some_iff.mp h2).1
    obtain ⟨f', hf', hr⟩ := c_clear_loop ha hao hn k (i + 1) (h.set a (.inl (0, n, .inl (upd f i 0)))) (upd f i 0) (by omega) (by rw [List.getElem?_set_ne hao]; exact h1) (List.getElem?_set_self hl) (fun j hj => by
      by_cases q : j = i
      · subst q; simp [upd]
      · simp only [upd, if_neg q]; exact hf j (by omega))
    refine ⟨f', hf', ?_⟩
    refine zr_iload_n (pc' := 3) zi_15_2 rfl rfl ?_
    refine zr_aload_n (pc' := 4) zi_15_3 rfl rfl ?_
    refine zr_get (pc' := 7) zi_15_4 h1 rfl rfl ?_
    refine zr_alen (pc' := 8) zi_15_7 h2 rfl rfl ?_
    refine zr_icmp (pc' := 11) zi_15_8 rfl (fun hc => ?_) (fun hc => ?_)
    · simp only [zcnd, decide_eq_true_eq] at hc
      exact absurd hc (nI_ge (show i < n by omega) hn)
    refine zr_aload_n (pc' := 12) zi_15_11 rfl rfl ?_
    refine zr_get (pc' := 15) zi_15_12 h1 rfl rfl ?_
    refine zr_iload_n (pc' := 16) zi_15_15 rfl rfl ?_
    refine zr_iconst (v := 0) (pc' := 17) zi_15_16 rfl rfl ?_
    refine zr_iast (pc' := 18) (h' := h.set a (.inl (0, n, .inl (upd f i 0)))) zi_15_17 ha h2 (nI_in (show i < n by omega) hn) rfl (by rw [nI_clamp (show i < 2 ^ 31 by omega)]) ?_
    refine zr_iinc (pc' := 21) (v := nI (i + 1)) zi_15_18 rfl (nI_1 i) rfl rfl ?_
    refine zr_goto zi_15_21 ?_
    have e : h.set a (.inl (0, n, .inl f')) = (h.set a (.inl (0, n, .inl (upd f i 0)))).set a (.inl (0, n, .inl f')) := by rw [List.set_set]
    rw [e]
    exact hr
theorem c_clear {h : zH} {o a n : Nat} {f : Nat → Int32} (h1 : h[o]? = some (.inr (1, [.ref a]))) (h2 : h[a]? = some (.inl (0, n, .inl f))) (ha : 1 ≤ a) (hao : a ≠ o) (hn : n < 2 ^ 31) : ∃ f', (∀ j, j < n → f' j = 0) ∧ zcalls zTB 15 [.ref o] h (none, h.set a (.inl (0, n, .inl f'))) := by
  obtain ⟨f', hf, hr⟩ := c_clear_loop ha hao hn n 0 h f (by omega) h1 h2 (fun j hj => by omega)
  refine ⟨f', hf, zcalls_of (Nat.le_of_ble_eq_true rfl) ?_⟩
  show zruns zTB 15 0 [some (.ref o), none] [] h _
  refine zr_iconst (v := nI 0) (pc' := 1) zi_15_0 rfl rfl ?_
  refine zr_istore_n (pc' := 2) zi_15_1 (Nat.le_of_ble_eq_true rfl) rfl rfl ?_
  exact hr
section NROW
variable {b : Nat} {F : Nat → Nat → Int32} {g : Nat → Nat} {h : zH} {y pc pc' : Nat} {L : zL} {st : List Value} {r : zR} {ax : List Nat}
/-- row k1's object at k -/
theorem zr_at {ix k k1 n : Nat} {f : Nat → Int32} {x : Int32} (hI : zI y pc = some (.invokevirtual ix, 0 :: 0 :: 1 :: 1 :: ax)) (hb : b + 71 ≤ h.length) (e1 : (nlist b F g)[k]? = some (.inr (1, [.ref (b + k1)]))) (e2 : (nlist b F g)[k1]? = some (.inl (0, n, .inl f))) (hn : n < 2 ^ 31) (hs : zcat8 (.ref (b + k) :: st) = true) (hp : pc + 3 = pc') (kk : zruns zTB y pc' L (.int (rat n f x) :: st) (nput b F g h) r) : zruns zTB y pc L (.int x :: .ref (b + k) :: st) (nput b F g h) r :=
  zr_v1 hI (nput_at hb e1) hs (c_at (nput_at hb e1) (nput_at hb e2) hn) hp kk
theorem rat_n {n i : Nat} {f : Nat → Int32} (hi : i < n) (hn : n < 2 ^ 31) : rat n f (nI i) = f i := by
  unfold rat
  rw [if_neg (nI_in hi hn), nI_clamp (by omega)]
theorem rput_n {n i : Nat} {f : Nat → Int32} {v : Int32} (hi : i < n) (hn : n < 2 ^ 31) : rput n f (nI i) v = upd f i v := by
  unfold rput
  rw [if_neg (nI_in hi hn), nI_clamp (by omega)]
theorem zr_atN {ix k k1 n i : Nat} {f : Nat → Int32} (hi : i < n) (hI : zI y pc = some (.invokevirtual ix, 0 :: 0 :: 1 :: 1 :: ax)) (hb : b + 71 ≤ h.length) (e1 : (nlist b F g)[k]? = some (.inr (1, [.ref (b + k1)]))) (e2 : (nlist b F g)[k1]? = some (.inl (0, n, .inl f))) (hn : n < 2 ^ 31) (hs : zcat8 (.ref (b + k) :: st) = true) (hp : pc + 3 = pc') (kk : zruns zTB y pc' L (.int (f i) :: st) (nput b F g h) r) : zruns zTB y pc L (.int (nI i) :: .ref (b + k) :: st) (nput b F g h) r :=
  zr_at hI hb e1 e2 hn hs hp (by rw [rat_n hi hn]; exact kk)
theorem zr_rput {ix k k1 n rr : Nat} {f : Nat → Int32} {x v : Int32} (hI : zI y pc = some (.invokevirtual ix, 1 :: 0 :: 2 :: 1 :: ax)) (hb : b + 71 ≤ h.length) (e1 : (nlist b F g)[k]? = some (.inr (1, [.ref (b + k1)]))) (e2 : (nlist b F g)[k1]? = some (.inl (0, n, .inl f))) (e3 : ∀ f', (nlist b F g).set k1 (.inl (0, n, .inl f')) = nlist b (updR F rr f') g) (hk : 1 ≤ k1) (hn : n < 2 ^ 31) (hs : zcat8 (.ref (b + k) :: st) = true) (hp : pc + 3 = pc') (kk : zruns zTB y pc' L st (nput b (updR F rr (rput n f x v)) g h) r) : zruns zTB y pc L (.int v :: .int x :: .ref (b + k) :: st) (nput b F g h) r := by
  have hl : k1 < 71 := (List.getElem?_eq_some_iff.mp e2).1
  refine zr_n2 hI (nput_at hb e1) hs (c_put (nput_at hb e1) (nput_at hb e2) (by omega) hn) hp ?_
  rw [nput_set hb hl (e3 _)]
  exact kk
theorem zr_rputN {ix k k1 n rr i : Nat} {f : Nat → Int32} {v : Int32} (hi : i < n) (hI : zI y pc = some (.invokevirtual ix, 1 :: 0 :: 2 :: 1 :: ax)) (hb : b + 71 ≤ h.length) (e1 : (nlist b F g)[k]? = some (.inr (1, [.ref (b + k1)]))) (e2 : (nlist b F g)[k1]? = some (.inl (0, n, .inl f))) (e3 : ∀ f', (nlist b F g).set k1 (.inl (0, n, .inl f')) = nlist b (updR F rr f') g) (hk : 1 ≤ k1) (hn : n < 2 ^ 31) (hs : zcat8 (.ref (b + k) :: st) = true) (hp : pc + 3 = pc') (kk : zruns zTB y pc' L st (nput b (updR F rr (upd f i v)) g h) r) : zruns zTB y pc L (.int v :: .int (nI i) :: .ref (b + k) :: st) (nput b F g h) r :=
  zr_rput hI hb e1 e2 e3 hk hn hs hp (by rw [rput_n hi hn]; exact kk)
theorem zr_rinc {ix k k1 n rr : Nat} {f : Nat → Int32} {x : Int32} (hI : zI y pc = some (.invokevirtual ix, 7 :: 0 :: 1 :: 1 :: ax)) (hb : b + 71 ≤ h.length) (e1 : (nlist b F g)[k]? = some (.inr (1, [.ref (b + k1)]))) (e2 : (nlist b F g)[k1]? = some (.inl (0, n, .inl f))) (e3 : ∀ f', (nlist b F g).set k1 (.inl (0, n, .inl f')) = nlist b (updR F rr f') g) (hk : 1 ≤ k1) (hn : n < 2 ^ 31) (hs : zcat8 (.ref (b + k) :: st) = true) (hp : pc + 3 = pc') (kk : zruns zTB y pc' L st (nput b (updR F rr (rput n f x (f x.toNatClampNeg + 1))) g h) r) : zruns zTB y pc L (.int x :: .ref (b + k) :: st) (nput b F g h) r := by
  have hl : k1 < 71 := (List.getElem?_eq_some_iff.mp e2).1
  refine zr_n1 hI (nput_at hb e1) hs (c_increase (nput_at hb e1) (nput_at hb e2) (by omega) hn) hp ?_
  rw [nput_set hb hl (e3 _)]
  exact kk
theorem zr_rclear {ix k k1 n rr : Nat} {f : Nat → Int32} (hI : zI y pc = some (.invokevirtual ix, 15 :: 0 :: 0 :: 1 :: ax)) (hb : b + 71 ≤ h.length) (e1 : (nlist b F g)[k]? = some (.inr (1, [.ref (b + k1)]))) (e2 : (nlist b F g)[k1]? = some (.inl (0, n, .inl f))) (e3 : ∀ f', (nlist b F g).set k1 (.inl (0, n, .inl f')) = nlist b (updR F rr f') g) (hk : 1 ≤ k1) (hkk : k1 ≠ k) (hn : n < 2 ^ 31) (hs : zcat8 (.ref (b + k) :: st) = true) (hp : pc + 3 = pc') (kk : ∀ f', (∀ j, j < n → f' j = 0) → zruns zTB y pc' L st (nput b (updR F rr f') g h) r) : zruns zTB y pc L (.ref (b + k) :: st) (nput b F g h) r := by
  have hl : k1 < 71 := (List.getElem?_eq_some_iff.mp e2).1
  obtain ⟨f', hf, hc⟩ := c_clear (nput_at hb e1) (nput_at hb e2) (by omega) (by omega) hn
  refine zr_n0 hI (nput_at hb e1) hs hc hp ?_
  rw [nput_set hb hl (e3 _)]
  exact kk f' hf
end NROW
end
section

/-! runs up to a property of what they answer -/
def zev (y pc : Nat) (L : zL) (st : List Value) (h : zH) (Q : zR → Prop) : Prop := ∃ q, Q q ∧ zruns zTB y pc L st h q
section ZEV
variable {y pc pc' : Nat} {L L' : zL} {st st' : List Value} {h h' : zH} {Q Q' : zR → Prop}
theorem zev_of {y' : Nat} (k : ∀ r, zruns zTB y' pc' L' st' h' r → zruns zTB y pc L st h r) (kk : zev y' pc' L' st' h' Q) : zev y pc L st h Q := by
  obtain ⟨q, hq, hr⟩ := kk
  exact ⟨q, hq, k q hr⟩
theorem zev_ret {q : zR} (k : zruns zTB y pc L st h q) (hq : Q q) : zev y pc L st h Q := ⟨q, hq, k⟩
theorem zev_mono (k : zev y pc L st h Q) (hq : ∀ q, Q q → Q' q) : zev y pc L st h Q' := by
  obtain ⟨q, h1, h2⟩ := k
  exact ⟨q, hq q h1, h2⟩
theorem zev_calls {a : List Value} (hz : (zent a).length ≤ (zTB.2 y).2.2.1) (k : zev y 0 (zentry (zTB.2 y).2.2.1 a) [] h Q) : ∃ q, Q q ∧ zcalls zTB y a h q := by
  obtain ⟨q, h1, h2⟩ := k
  exact ⟨q, h1, zcalls_of hz h2⟩
theorem zv_icmp {cd : Jvm.ClassFile.Cond} {o : Int} {t : Nat} {x z : Int32} {ax : List Nat} (hI : zI y pc = some (.if_icmp cd o, t :: ax)) (hp : pc + 3 = pc') (kt : zcnd cd x z = true → zev y t L st h Q) (kf : zcnd cd x z = false → zev y pc' L st h Q) : zev y pc L (.int z :: .int x :: st) h Q := by
  cases hc : zcnd cd x z with
  | true =>
    obtain ⟨q, h1, h2⟩ := kt hc
    exact ⟨q, h1, zr_icmp hI hp (fun _ => h2) (fun q => by rw [hc] at q; cases q)⟩
  | false =>
    obtain ⟨q, h1, h2⟩ := kf hc
    exact ⟨q, h1, zr_icmp hI hp (fun q => by rw [hc] at q; cases q) (fun _ => h2)⟩
theorem zv_if {cd : Jvm.ClassFile.Cond} {o : Int} {t : Nat} {x : Int32} {ax : List Nat} (hI : zI y pc = some (.ifCond cd o, t :: ax)) (hp : pc + 3 = pc') (kt : zcnd cd x 0 = true → zev y t L st h Q) (kf : zcnd cd x 0 = false → zev y pc' L st h Q) : zev y pc L (.int x :: st) h Q := by
  cases hc : zcnd cd x 0 with
  | true =>
    obtain ⟨q, h1, h2⟩ := kt hc
    exact ⟨q, h1, zr_if hI hp (fun _ => h2) (fun q => by rw [hc] at q; cases q)⟩
  | false =>
    obtain ⟨q, h1, h2⟩ := kf hc
    exact ⟨q, h1, zr_if hI hp (fun q => by rw [hc] at q; cases q) (fun _ => h2)⟩
theorem zv_rclear {b k k1 n rr ix : Nat} {F : Nat → Nat → Int32} {g : Nat → Nat} {f : Nat → Int32} {ax : List Nat} (hI : zI y pc = some (.invokevirtual ix, 15 :: 0 :: 0 :: 1 :: ax)) (hb : b + 71 ≤ h.length) (e1 : (nlist b F g)[k]? = some (.inr (1, [.ref (b + k1)]))) (e2 : (nlist b F g)[k1]? = some (.inl (0, n, .inl f))) (e3 : ∀ f', (nlist b F g).set k1 (.inl (0, n, .inl f')) = nlist b (updR F rr f') g) (hk : 1 ≤ k1) (hkk : k1 ≠ k) (hn : n < 2 ^ 31) (hs : zcat8 (.ref (b + k) :: st) = true) (hp : pc + 3 = pc') (kk : ∀ f', (∀ j, j < n → f' j = 0) → zev y pc' L st (nput b (updR F rr f') g h) Q) : zev y pc L (.ref (b + k) :: st) (nput b F g h) Q := by
  have hl : k1 < 71 := (List.getElem?_eq_some_iff.mp e2).1
  obtain ⟨f', hf, hc⟩ := c_clear (nput_at hb e1) (nput_at hb e2) (by omega) (by omega) hn
  obtain ⟨q, h1, h2⟩ := kk f' hf
  refine ⟨q, h1, zr_n0 hI (nput_at hb e1) hs hc hp ?_⟩
  rw [nput_set hb hl (e3 _)]
  exact h2
end ZEV
/-- the answer is an int that has P, the heap is H -/
def zQi (H : zH) (P : Int32 → Prop) : zR → Prop := fun q => ∃ r, P r ∧ q = (some (.int r), H)
theorem zQi_out {y : Nat} {a : List Value} {h H : zH} {P : Int32 → Prop} (k : ∃ q, zQi H P q ∧ zcalls zTB y a h q) : ∃ r, P r ∧ zcalls zTB y a h (some (.int r), H) := by
  obtain ⟨q, ⟨r, hp, rfl⟩, hc⟩ := k
  exact ⟨r, hp, hc⟩
/-- no answer, the rows have P -/
def zQn (b : Nat) (h : zH) (P : (Nat → Nat → Int32) → (Nat → Nat) → Prop) : zR → Prop := fun q => ∃ F g, P F g ∧ q = (none, nput b F g h)
theorem zQn_out {b y : Nat} {a : List Value} {h H : zH} {P : (Nat → Nat → Int32) → (Nat → Nat) → Prop} (k : ∃ q, zQn b h P q ∧ zcalls zTB y a H q) : ∃ F g, P F g ∧ zcalls zTB y a H (none, nput b F g h) := by
  obtain ⟨q, ⟨F, g, hp, rfl⟩, hc⟩ := k
  exact ⟨F, g, hp, hc⟩
/-- an int, the rows have P -/
def zQm (b : Nat) (h : zH) (P : Int32 → (Nat → Nat → Int32) → (Nat → Nat) → Prop) : zR → Prop := fun q => ∃ r F g, P r F g ∧ q = (some (.int r), nput b F g h)
theorem zQm_out {b y : Nat} {a : List Value} {h H : zH} {P : Int32 → (Nat → Nat → Int32) → (Nat → Nat) → Prop} (k : ∃ q, zQm b h P q ∧ zcalls zTB y a H q) : ∃ r F g, P r F g ∧ zcalls zTB y a H (some (.int r), nput b F g h) := by
  obtain ⟨q, ⟨r, F, g, hp, rfl⟩, hc⟩ := k
  exact ⟨r, F, g, hp, hc⟩
end
section
theorem zi_5_0 : zI 5 0 = some (.iload_n 0, []) := by decide +kernel
theorem zi_5_1 : zI 5 1 = some (.ifCond .lt 12, [13]) := by decide +kernel
theorem zi_5_4 : zI 5 4 = some (.iload_n 0, []) := by decide +kernel
theorem zi_5_5 : zI 5 5 = some (.iload_n 1, []) := by decide +kernel
theorem zi_5_6 : zI 5 6 = some (.if_icmp .gt 7, [13]) := by decide +kernel
theorem zi_5_9 : zI 5 9 = some (.iconst 1, []) := by decide +kernel
theorem zi_5_10 : zI 5 10 = some (.goto 4, [14]) := by decide +kernel
theorem zi_5_13 : zI 5 13 = some (.iconst 0, []) := by decide +kernel
theorem zi_5_14 : zI 5 14 = some (.ireturn, []) := by decide +kernel
theorem zi_8_0 : zI 8 0 = some (.aload_n 0, []) := by decide +kernel
theorem zi_8_1 : zI 8 1 = some (.getfield 29, [0, 4, 7]) := by decide +kernel
theorem zi_8_4 : zI 8 4 = some (.iload_n 1, []) := by decide +kernel
theorem zi_8_5 : zI 8 5 = some (.bipush 8, []) := by decide +kernel
theorem zi_8_7 : zI 8 7 = some (.imul, []) := by decide +kernel
theorem zi_8_8 : zI 8 8 = some (.iload_n 2, []) := by decide +kernel
theorem zi_8_9 : zI 8 9 = some (.iadd, []) := by decide +kernel
theorem zi_8_10 : zI 8 10 = some (.invokevirtual 46, [0, 0, 1, 1, 10, 11, 12, 9, 0, 8]) := by decide +kernel
theorem zi_8_13 : zI 8 13 = some (.ireturn, []) := by decide +kernel
theorem zi_13_0 : zI 13 0 = some (.iload_n 1, []) := by decide +kernel
theorem zi_13_1 : zI 13 1 = some (.ifCond .ne 7, [8]) := by decide +kernel
theorem zi_13_4 : zI 13 4 = some (.iconst 0, []) := by decide +kernel
theorem zi_13_5 : zI 13 5 = some (.goto 6, [11]) := by decide +kernel
theorem zi_13_8 : zI 13 8 = some (.iload_n 0, []) := by decide +kernel
theorem zi_13_9 : zI 13 9 = some (.iload_n 1, []) := by decide +kernel
theorem zi_13_10 : zI 13 10 = some (.idiv, []) := by decide +kernel
theorem zi_13_11 : zI 13 11 = some (.ireturn, []) := by decide +kernel
theorem zi_65_0 : zI 65 0 = some (.iconst 0, []) := by decide +kernel
theorem zi_65_1 : zI 65 1 = some (.istore_n 2, []) := by decide +kernel
theorem zi_65_2 : zI 65 2 = some (.iconst 0, []) := by decide +kernel
theorem zi_65_3 : zI 65 3 = some (.istore_n 3, []) := by decide +kernel
theorem zi_65_4 : zI 65 4 = some (.iload_n 3, []) := by decide +kernel
theorem zi_65_5 : zI 65 5 = some (.aload_n 0, []) := by decide +kernel
theorem zi_65_6 : zI 65 6 = some (.getfield 50, [0, 8, 114]) := by decide +kernel
theorem zi_65_9 : zI 65 9 = some (.if_icmp .ge 24, [33]) := by decide +kernel
theorem zi_65_12 : zI 65 12 = some (.aload_n 0, []) := by decide +kernel
theorem zi_65_13 : zI 65 13 = some (.getfield 32, [0, 5, 119]) := by decide +kernel
theorem zi_65_16 : zI 65 16 = some (.iload_n 3, []) := by decide +kernel
theorem zi_65_17 : zI 65 17 = some (.invokevirtual 46, [0, 0, 1, 1, 10, 11, 12, 9, 0, 8]) := by decide +kernel
theorem zi_65_20 : zI 65 20 = some (.iload_n 1, []) := by decide +kernel
theorem zi_65_21 : zI 65 21 = some (.if_icmp .ne 6, [27]) := by decide +kernel
theorem zi_65_24 : zI 65 24 = some (.iinc 2 1, []) := by decide +kernel
theorem zi_65_27 : zI 65 27 = some (.iinc 3 1, []) := by decide +kernel
theorem zi_65_30 : zI 65 30 = some (.goto (-26), [4]) := by decide +kernel
theorem zi_65_33 : zI 65 33 = some (.iload_n 2, []) := by decide +kernel
theorem zi_65_34 : zI 65 34 = some (.ireturn, []) := by decide +kernel
/-! plain facts -/
theorem n_inc (a : Nat) : nI a + Int32.ofInt 1 = nI (a + 1) := nI_1 a
theorem n_dec (x : Int32) : x + Int32.ofInt (-1) = x - 1 := by
  rw [Int32.sub_eq_add_neg]
  rfl
theorem zc_ge_t {a b : Nat} (ha : a < 2 ^ 31) (hb : b < 2 ^ 31) (h : zcnd .ge (nI a) (nI b) = true) : b ≤ a := (nI_leI hb ha).mp (by simpa [zcnd] using h)
theorem zc_ge_f {a b : Nat} (ha : a < 2 ^ 31) (hb : b < 2 ^ 31) (h : zcnd .ge (nI a) (nI b) = false) : a < b := Nat.lt_of_not_le fun q => by
  have := (nI_leI hb ha).mpr q
  simp only [zcnd, decide_eq_false_iff_not] at h
  exact h this
theorem zc_lt_t {a b : Nat} (ha : a < 2 ^ 31) (hb : b < 2 ^ 31) (h : zcnd .lt (nI a) (nI b) = true) : a < b := (nI_ltI ha hb).mp (by simpa [zcnd] using h)
theorem zc_lt_f {a b : Nat} (ha : a < 2 ^ 31) (hb : b < 2 ^ 31) (h : zcnd .lt (nI a) (nI b) = false) : b ≤ a := Nat.le_of_not_lt fun q => by
  have := (nI_ltI ha hb).mpr q
  simp only [zcnd, decide_eq_false_iff_not] at h
  exact h this
theorem zc_gt_t {a b : Nat} (ha : a < 2 ^ 31) (hb : b < 2 ^ 31) (h : zcnd .gt (nI a) (nI b) = true) : b < a := (nI_ltI hb ha).mp (by simpa [zcnd] using h)
theorem zc_gt_f {a b : Nat} (ha : a < 2 ^ 31) (hb : b < 2 ^ 31) (h : zcnd .gt (nI a) (nI b) = false) : a ≤ b := Nat.le_of_not_lt fun q => by
  have := (nI_ltI hb ha).mpr q
  simp only [zcnd, decide_eq_false_iff_not] at h
  exact h this
theorem zc_le_t {a b : Nat} (ha : a < 2 ^ 31) (hb : b < 2 ^ 31) (h : zcnd .le (nI a) (nI b) = true) : a ≤ b := (nI_leI ha hb).mp (by simpa [zcnd] using h)
theorem zc_le_f {a b : Nat} (ha : a < 2 ^ 31) (hb : b < 2 ^ 31) (h : zcnd .le (nI a) (nI b) = false) : b < a := Nat.lt_of_not_le fun q => by
  have := (nI_leI ha hb).mpr q
  simp only [zcnd, decide_eq_false_iff_not] at h
  exact h this
theorem zc_eq_t {x y : Int32} (h : zcnd .eq x y = true) : x = y := by simpa [zcnd] using h
theorem zc_eq_f {x y : Int32} (h : zcnd .eq x y = false) : x ≠ y := by simpa [zcnd] using h
theorem zc_ne_t {x y : Int32} (h : zcnd .ne x y = true) : x ≠ y := by simpa [zcnd] using h
theorem zc_ne_f {x y : Int32} (h : zcnd .ne x y = false) : x = y := by simpa [zcnd] using h
theorem zx_lt_t {x y : Int32} (h : zcnd .lt x y = true) : x < y := by simpa [zcnd] using h
theorem zx_lt_f {x y : Int32} (h : zcnd .lt x y = false) : ¬ x < y := by simpa only [zcnd, decide_eq_false_iff_not] using h
theorem zx_ge_t {x y : Int32} (h : zcnd .ge x y = true) : y ≤ x := by simpa [zcnd] using h
theorem zx_ge_f {x y : Int32} (h : zcnd .ge x y = false) : ¬ y ≤ x := by simpa only [zcnd, decide_eq_false_iff_not] using h
theorem zx_gt_t {x y : Int32} (h : zcnd .gt x y = true) : y < x := by simpa [zcnd] using h
theorem zx_gt_f {x y : Int32} (h : zcnd .gt x y = false) : ¬ y < x := by simpa only [zcnd, decide_eq_false_iff_not] using h
theorem zx_le_t {x y : Int32} (h : zcnd .le x y = true) : x ≤ y := by simpa [zcnd] using h
theorem zx_le_f {x y : Int32} (h : zcnd .le x y = false) : ¬ x ≤ y := by simpa only [zcnd, decide_eq_false_iff_not] using h
/-- how many of the first n -/
def zcnt (p : Nat → Bool) : Nat → Nat
  | 0 => 0
  | n + 1 => zcnt p n + (if p n then 1 else 0)
theorem zcnt_t {p : Nat → Bool} {n : Nat} (h : p n = true) : zcnt p (n + 1) = zcnt p n + 1 := by simp [zcnt, h]
theorem zcnt_f {p : Nat → Bool} {n : Nat} (h : p n = false) : zcnt p (n + 1) = zcnt p n := by simp [zcnt, h]
theorem zcnt_le (p : Nat → Bool) : ∀ n, zcnt p n ≤ n
  | 0 => Nat.le_refl _
  | n + 1 => by
    have := zcnt_le p n
    simp only [zcnt]
    split <;> omega
/-! lines: reads -/
section
variable {b : Nat} {F : Nat → Nat → Int32} {g : Nat → Nat} {h : zH}
theorem c_wordIn (hb : b + 71 ≤ h.length) (l k : Nat) (hl : l * 8 + k < 560) : zcalls zTB 8 [.ref (b + 1), .int (nI l), .int (nI k)] (nput b F g h) (some (.int (F 4 (l * 8 + k))), nput b F g h) := by
  refine zcalls_of (Nat.le_of_ble_eq_true rfl) ?_
  show zruns zTB 8 0 [some (.ref (b + 1)), some (.int (nI l)), some (.int (nI k))] [] _ _
  refine zr_aload_n (pc' := 1) zi_8_0 rfl rfl ?_
  refine zr_get (pc' := 4) zi_8_1 (nput_at hb (k := 1) rfl) rfl rfl ?_
  refine zr_iload_n (pc' := 5) zi_8_4 rfl rfl ?_
  refine zr_bipush (v := (nI 8)) (pc' := 7) zi_8_5 rfl rfl ?_
  refine zr_imul (pc' := 8) zi_8_7 (by first | exact pk_mul _ _ | rfl) rfl ?_
  refine zr_iload_n (pc' := 9) zi_8_8 rfl rfl ?_
  refine zr_iadd (pc' := 10) zi_8_9 (by first | exact nI_add _ _ | rfl) rfl ?_
  refine zr_atN (pc' := 13) (by omega) zi_8_10 hb rfl rfl (by decide) rfl rfl ?_
  exact zr_ireturn zi_8_13 rfl
theorem l_howManyOf (hb : b + 71 ≤ h.length) (t : Int32) (hn : g 1 ≤ 70) : ∀ k i, i + k = g 1 → zruns zTB 65 4 [some (.ref (b + 1)), some (.int t), some (.int (nI (zcnt (fun j => decide (F 5 j = t)) i))), some (.int (nI i))] [] (nput b F g h) (some (.int (nI (zcnt (fun j => decide (F 5 j = t)) (g 1)))), nput b F g h)
  | 0, i, hk => by
    refine zr_iload_n (pc' := 5) zi_65_4 rfl rfl ?_
    refine zr_aload_n (pc' := 6) zi_65_5 rfl rfl ?_
    refine zr_get (pc' := 9) zi_65_6 (nput_at hb (k := 1) rfl) rfl rfl ?_
    refine zr_icmp (pc' := 12) zi_65_9 rfl (fun hc => ?_) (fun hc => ?_)
    · have e : i = g 1 := by omega
      subst e
      refine zr_iload_n (pc' := 34) zi_65_33 rfl rfl ?_
      exact zr_ireturn zi_65_34 rfl
    · have := zc_ge_f (by omega) (by omega) hc
      omega
  | k + 1, i, hk => by
    have ih := l_howManyOf hb t hn k (i + 1) (by omega)
    refine zr_iload_n (pc' := 5) zi_65_4 rfl rfl ?_
    refine zr_aload_n (pc' := 6) zi_65_5 rfl rfl ?_
    refine zr_get (pc' := 9) zi_65_6 (nput_at hb (k := 1) rfl) rfl rfl ?_
    refine zr_icmp (pc' := 12) zi_65_9 rfl (fun hc => ?_) (fun hc => ?_)
    · have := zc_ge_t (by omega) (by omega) hc
      omega
    refine zr_aload_n (pc' := 13) zi_65_12 rfl rfl ?_
    refine zr_get (pc' := 16) zi_65_13 (nput_at hb (k := 1) rfl) rfl rfl ?_
    refine zr_iload_n (pc' := 17) zi_65_16 rfl rfl ?_
    refine zr_atN (pc' := 20) (by omega) zi_65_17 hb rfl rfl (by decide) rfl rfl ?_
    refine zr_iload_n (pc' := 21) zi_65_20 rfl rfl ?_
    refine zr_icmp (pc' := 24) zi_65_21 rfl (fun hd => ?_) (fun hd => ?_)
    · rw [zcnt_f (by simpa using zc_ne_t hd)] at ih
      refine zr_iinc (pc' := 30) zi_65_27 rfl (by first | exact n_inc _ | rfl) rfl rfl ?_
      dsimp only [zst1, zst2, zkill, List.set, List.getElem?_cons_succ, List.getElem?_cons_zero]
      refine zr_goto zi_65_30 ?_
      exact ih
    · rw [zcnt_t (by simpa using zc_ne_f hd)] at ih
      refine zr_iinc (pc' := 27) zi_65_24 rfl (by first | exact n_inc _ | rfl) rfl rfl ?_
      dsimp only [zst1, zst2, zkill, List.set, List.getElem?_cons_succ, List.getElem?_cons_zero]
      refine zr_iinc (pc' := 30) zi_65_27 rfl (by first | exact n_inc _ | rfl) rfl rfl ?_
      dsimp only [zst1, zst2, zkill, List.set, List.getElem?_cons_succ, List.getElem?_cons_zero]
      refine zr_goto zi_65_30 ?_
      exact ih
theorem c_howManyOf (hb : b + 71 ≤ h.length) (t : Int32) (hn : g 1 ≤ 70) : zcalls zTB 65 [.ref (b + 1), .int t] (nput b F g h) (some (.int (nI (zcnt (fun j => decide (F 5 j = t)) (g 1)))), nput b F g h) := by
  refine zcalls_of (Nat.le_of_ble_eq_true rfl) ?_
  show zruns zTB 65 0 [some (.ref (b + 1)), some (.int t), none, none] [] _ _
  refine zr_iconst (v := (nI 0)) (pc' := 1) zi_65_0 rfl rfl ?_
  refine zr_istore_n (pc' := 2) zi_65_1 (Nat.le_of_ble_eq_true rfl) rfl rfl ?_
  dsimp only [zst1, zst2, zkill, List.set, List.getElem?_cons_succ, List.getElem?_cons_zero]
  refine zr_iconst (v := (nI 0)) (pc' := 3) zi_65_2 rfl rfl ?_
  refine zr_istore_n (pc' := 4) zi_65_3 (Nat.le_of_ble_eq_true rfl) rfl rfl ?_
  dsimp only [zst1, zst2, zkill, List.set, List.getElem?_cons_succ, List.getElem?_cons_zero]
  exact l_howManyOf hb t hn (g 1) 0 (by omega)
theorem c_quotient {H : zH} (x z : Int32) : zcalls zTB 13 [.int x, .int z] H (some (.int (if z = 0 then 0 else x / z)), H) := by
  refine zcalls_of (Nat.le_of_ble_eq_true rfl) ?_
  show zruns zTB 13 0 [some (.int x), some (.int z)] [] _ _
  refine zr_iload_n (pc' := 1) zi_13_0 rfl rfl ?_
  refine zr_if (pc' := 4) zi_13_1 rfl (fun hc => ?_) (fun hc => ?_)
  · rw [if_neg (zc_ne_t hc)]
    refine zr_iload_n (pc' := 9) zi_13_8 rfl rfl ?_
    refine zr_iload_n (pc' := 10) zi_13_9 rfl rfl ?_
    refine zr_idiv (pc' := 11) zi_13_10 (zc_ne_t hc) rfl rfl ?_
    exact zr_ireturn zi_13_11 rfl
  · rw [if_pos (zc_ne_f hc)]
    refine zr_iconst (v := (nI 0)) (pc' := 5) zi_13_4 rfl rfl ?_
    refine zr_goto zi_13_5 ?_
    exact zr_ireturn zi_13_11 rfl
theorem c_isWithin {H : zH} (x z : Int32) : zcalls zTB 5 [.int x, .int z] H (some (.int (if 0 ≤ x ∧ x ≤ z then 1 else 0)), H) := by
  refine zcalls_of (Nat.le_of_ble_eq_true rfl) ?_
  show zruns zTB 5 0 [some (.int x), some (.int z)] [] _ _
  refine zr_iload_n (pc' := 1) zi_5_0 rfl rfl ?_
  refine zr_if (pc' := 4) zi_5_1 rfl (fun hc => ?_) (fun hc => ?_)
  · have := zx_lt_t hc
    rw [if_neg (fun q => absurd q.1 (Int32.not_le.mpr this))]
    refine zr_iconst (v := (nI 0)) (pc' := 14) zi_5_13 rfl rfl ?_
    exact zr_zreturn zi_5_14 rfl (by decide)
  have h0 := Int32.not_lt.mp (zx_lt_f hc)
  refine zr_iload_n (pc' := 5) zi_5_4 rfl rfl ?_
  refine zr_iload_n (pc' := 6) zi_5_5 rfl rfl ?_
  refine zr_icmp (pc' := 9) zi_5_6 rfl (fun hd => ?_) (fun hd => ?_)
  · have := zx_gt_t hd
    rw [if_neg (fun q => absurd q.2 (Int32.not_le.mpr this))]
    refine zr_iconst (v := (nI 0)) (pc' := 14) zi_5_13 rfl rfl ?_
    exact zr_zreturn zi_5_14 rfl (by decide)
  · have := Int32.not_lt.mp (zx_gt_f hd)
    rw [if_pos ⟨h0, this⟩]
    refine zr_iconst (v := (nI 1)) (pc' := 10) zi_5_9 rfl rfl ?_
    refine zr_goto zi_5_10 ?_
    exact zr_zreturn zi_5_14 rfl (by decide)
end
end
section
theorem zi_33_0 : zI 33 0 = some (.iconst 0, []) := by decide +kernel
theorem zi_33_1 : zI 33 1 = some (.istore 5, []) := by decide +kernel
theorem zi_33_3 : zI 33 3 = some (.iconst 0, []) := by decide +kernel
theorem zi_33_4 : zI 33 4 = some (.istore 6, []) := by decide +kernel
theorem zi_33_6 : zI 33 6 = some (.iload 6, []) := by decide +kernel
theorem zi_33_8 : zI 33 8 = some (.aload_n 0, []) := by decide +kernel
theorem zi_33_9 : zI 33 9 = some (.getfield 50, [0, 8, 114]) := by decide +kernel
theorem zi_33_12 : zI 33 12 = some (.if_icmp .ge 53, [65]) := by decide +kernel
theorem zi_33_15 : zI 33 15 = some (.aload_n 0, []) := by decide +kernel
theorem zi_33_16 : zI 33 16 = some (.getfield 14, [0, 0, 115]) := by decide +kernel
theorem zi_33_19 : zI 33 19 = some (.iload 6, []) := by decide +kernel
theorem zi_33_21 : zI 33 21 = some (.invokevirtual 46, [0, 0, 1, 1, 10, 11, 12, 9, 0, 8]) := by decide +kernel
theorem zi_33_24 : zI 33 24 = some (.iload 4, []) := by decide +kernel
theorem zi_33_26 : zI 33 26 = some (.invokestatic 66, [13, 1, 2, 0, 117, 0, 118, 116, 1, 0]) := by decide +kernel
theorem zi_33_29 : zI 33 29 = some (.istore 7, []) := by decide +kernel
theorem zi_33_31 : zI 33 31 = some (.aload_n 0, []) := by decide +kernel
theorem zi_33_32 : zI 33 32 = some (.getfield 32, [0, 5, 119]) := by decide +kernel
theorem zi_33_35 : zI 33 35 = some (.iload 6, []) := by decide +kernel
theorem zi_33_37 : zI 33 37 = some (.invokevirtual 46, [0, 0, 1, 1, 10, 11, 12, 9, 0, 8]) := by decide +kernel
theorem zi_33_40 : zI 33 40 = some (.iload_n 1, []) := by decide +kernel
theorem zi_33_41 : zI 33 41 = some (.if_icmp .ne 18, [59]) := by decide +kernel
theorem zi_33_44 : zI 33 44 = some (.iload 7, []) := by decide +kernel
theorem zi_33_46 : zI 33 46 = some (.iload_n 2, []) := by decide +kernel
theorem zi_33_47 : zI 33 47 = some (.if_icmp .lt 12, [59]) := by decide +kernel
theorem zi_33_50 : zI 33 50 = some (.iload 7, []) := by decide +kernel
theorem zi_33_52 : zI 33 52 = some (.iload_n 3, []) := by decide +kernel
theorem zi_33_53 : zI 33 53 = some (.if_icmp .gt 6, [59]) := by decide +kernel
theorem zi_33_56 : zI 33 56 = some (.iinc 5 1, []) := by decide +kernel
theorem zi_33_59 : zI 33 59 = some (.iinc 6 1, []) := by decide +kernel
theorem zi_33_62 : zI 33 62 = some (.goto (-56), [6]) := by decide +kernel
theorem zi_33_65 : zI 33 65 = some (.iload 5, []) := by decide +kernel
theorem zi_33_67 : zI 33 67 = some (.ireturn, []) := by decide +kernel
theorem zi_34_0 : zI 34 0 = some (.iload_n 1, []) := by decide +kernel
theorem zi_34_1 : zI 34 1 = some (.iconst 1, []) := by decide +kernel
theorem zi_34_2 : zI 34 2 = some (.isub, []) := by decide +kernel
theorem zi_34_3 : zI 34 3 = some (.istore_n 3, []) := by decide +kernel
theorem zi_34_4 : zI 34 4 = some (.iload_n 3, []) := by decide +kernel
theorem zi_34_5 : zI 34 5 = some (.ifCond .lt 55, [60]) := by decide +kernel
theorem zi_34_8 : zI 34 8 = some (.aload_n 0, []) := by decide +kernel
theorem zi_34_9 : zI 34 9 = some (.getfield 35, [0, 6, 120]) := by decide +kernel
theorem zi_34_12 : zI 34 12 = some (.iload_n 3, []) := by decide +kernel
theorem zi_34_13 : zI 34 13 = some (.invokevirtual 46, [0, 0, 1, 1, 10, 11, 12, 9, 0, 8]) := by decide +kernel
theorem zi_34_16 : zI 34 16 = some (.aload_n 0, []) := by decide +kernel
theorem zi_34_17 : zI 34 17 = some (.getfield 35, [0, 6, 120]) := by decide +kernel
theorem zi_34_20 : zI 34 20 = some (.iload_n 1, []) := by decide +kernel
theorem zi_34_21 : zI 34 21 = some (.invokevirtual 46, [0, 0, 1, 1, 10, 11, 12, 9, 0, 8]) := by decide +kernel
theorem zi_34_24 : zI 34 24 = some (.if_icmp .ne 30, [54]) := by decide +kernel
theorem zi_34_27 : zI 34 27 = some (.aload_n 0, []) := by decide +kernel
theorem zi_34_28 : zI 34 28 = some (.getfield 14, [0, 0, 115]) := by decide +kernel
theorem zi_34_31 : zI 34 31 = some (.iload_n 1, []) := by decide +kernel
theorem zi_34_32 : zI 34 32 = some (.invokevirtual 46, [0, 0, 1, 1, 10, 11, 12, 9, 0, 8]) := by decide +kernel
theorem zi_34_35 : zI 34 35 = some (.aload_n 0, []) := by decide +kernel
theorem zi_34_36 : zI 34 36 = some (.getfield 14, [0, 0, 115]) := by decide +kernel
theorem zi_34_39 : zI 34 39 = some (.iload_n 3, []) := by decide +kernel
theorem zi_34_40 : zI 34 40 = some (.invokevirtual 46, [0, 0, 1, 1, 10, 11, 12, 9, 0, 8]) := by decide +kernel
theorem zi_34_43 : zI 34 43 = some (.isub, []) := by decide +kernel
theorem zi_34_44 : zI 34 44 = some (.iload_n 2, []) := by decide +kernel
theorem zi_34_45 : zI 34 45 = some (.if_icmp .gt 7, [52]) := by decide +kernel
theorem zi_34_48 : zI 34 48 = some (.iload_n 3, []) := by decide +kernel
theorem zi_34_49 : zI 34 49 = some (.goto 4, [53]) := by decide +kernel
theorem zi_34_52 : zI 34 52 = some (.iconst (-1), []) := by decide +kernel
theorem zi_34_53 : zI 34 53 = some (.ireturn, []) := by decide +kernel
theorem zi_34_54 : zI 34 54 = some (.iinc 3 (-1), []) := by decide +kernel
theorem zi_34_57 : zI 34 57 = some (.goto (-53), [4]) := by decide +kernel
theorem zi_34_60 : zI 34 60 = some (.iconst (-1), []) := by decide +kernel
theorem zi_34_61 : zI 34 61 = some (.ireturn, []) := by decide +kernel
theorem zi_35_0 : zI 35 0 = some (.iload_n 1, []) := by decide +kernel
theorem zi_35_1 : zI 35 1 = some (.iload_n 2, []) := by decide +kernel
theorem zi_35_2 : zI 35 2 = some (.if_icmp .ge 32, [34]) := by decide +kernel
theorem zi_35_5 : zI 35 5 = some (.iload_n 1, []) := by decide +kernel
theorem zi_35_6 : zI 35 6 = some (.aload_n 0, []) := by decide +kernel
theorem zi_35_7 : zI 35 7 = some (.getfield 50, [0, 8, 114]) := by decide +kernel
theorem zi_35_10 : zI 35 10 = some (.if_icmp .ge 24, [34]) := by decide +kernel
theorem zi_35_13 : zI 35 13 = some (.aload_n 0, []) := by decide +kernel
theorem zi_35_14 : zI 35 14 = some (.getfield 14, [0, 0, 115]) := by decide +kernel
theorem zi_35_17 : zI 35 17 = some (.iload_n 1, []) := by decide +kernel
theorem zi_35_18 : zI 35 18 = some (.invokevirtual 46, [0, 0, 1, 1, 10, 11, 12, 9, 0, 8]) := by decide +kernel
theorem zi_35_21 : zI 35 21 = some (.aload_n 0, []) := by decide +kernel
theorem zi_35_22 : zI 35 22 = some (.getfield 14, [0, 0, 115]) := by decide +kernel
theorem zi_35_25 : zI 35 25 = some (.iload_n 2, []) := by decide +kernel
theorem zi_35_26 : zI 35 26 = some (.invokevirtual 46, [0, 0, 1, 1, 10, 11, 12, 9, 0, 8]) := by decide +kernel
theorem zi_35_29 : zI 35 29 = some (.iload_n 3, []) := by decide +kernel
theorem zi_35_30 : zI 35 30 = some (.isub, []) := by decide +kernel
theorem zi_35_31 : zI 35 31 = some (.if_icmp .ge 5, [36]) := by decide +kernel
theorem zi_35_34 : zI 35 34 = some (.iconst 0, []) := by decide +kernel
theorem zi_35_35 : zI 35 35 = some (.ireturn, []) := by decide +kernel
theorem zi_35_36 : zI 35 36 = some (.aload_n 0, []) := by decide +kernel
theorem zi_35_37 : zI 35 37 = some (.getfield 35, [0, 6, 120]) := by decide +kernel
theorem zi_35_40 : zI 35 40 = some (.iload_n 2, []) := by decide +kernel
theorem zi_35_41 : zI 35 41 = some (.invokevirtual 46, [0, 0, 1, 1, 10, 11, 12, 9, 0, 8]) := by decide +kernel
theorem zi_35_44 : zI 35 44 = some (.ifCond .lt 26, [70]) := by decide +kernel
theorem zi_35_47 : zI 35 47 = some (.aload_n 0, []) := by decide +kernel
theorem zi_35_48 : zI 35 48 = some (.getfield 35, [0, 6, 120]) := by decide +kernel
theorem zi_35_51 : zI 35 51 = some (.iload_n 1, []) := by decide +kernel
theorem zi_35_52 : zI 35 52 = some (.invokevirtual 46, [0, 0, 1, 1, 10, 11, 12, 9, 0, 8]) := by decide +kernel
theorem zi_35_55 : zI 35 55 = some (.aload_n 0, []) := by decide +kernel
theorem zi_35_56 : zI 35 56 = some (.getfield 35, [0, 6, 120]) := by decide +kernel
theorem zi_35_59 : zI 35 59 = some (.iload_n 2, []) := by decide +kernel
theorem zi_35_60 : zI 35 60 = some (.invokevirtual 46, [0, 0, 1, 1, 10, 11, 12, 9, 0, 8]) := by decide +kernel
theorem zi_35_63 : zI 35 63 = some (.if_icmp .ne 7, [70]) := by decide +kernel
theorem zi_35_66 : zI 35 66 = some (.iconst 1, []) := by decide +kernel
theorem zi_35_67 : zI 35 67 = some (.goto 4, [71]) := by decide +kernel
theorem zi_35_70 : zI 35 70 = some (.iconst 0, []) := by decide +kernel
theorem zi_35_71 : zI 35 71 = some (.istore 4, []) := by decide +kernel
theorem zi_35_73 : zI 35 73 = some (.iload 4, []) := by decide +kernel
theorem zi_35_75 : zI 35 75 = some (.ifCond .ne 22, [97]) := by decide +kernel
theorem zi_35_78 : zI 35 78 = some (.aload_n 0, []) := by decide +kernel
theorem zi_35_79 : zI 35 79 = some (.getfield 20, [0, 1, 121]) := by decide +kernel
theorem zi_35_82 : zI 35 82 = some (.iload_n 1, []) := by decide +kernel
theorem zi_35_83 : zI 35 83 = some (.invokevirtual 46, [0, 0, 1, 1, 10, 11, 12, 9, 0, 8]) := by decide +kernel
theorem zi_35_86 : zI 35 86 = some (.aload_n 0, []) := by decide +kernel
theorem zi_35_87 : zI 35 87 = some (.getfield 20, [0, 1, 121]) := by decide +kernel
theorem zi_35_90 : zI 35 90 = some (.iload_n 2, []) := by decide +kernel
theorem zi_35_91 : zI 35 91 = some (.invokevirtual 46, [0, 0, 1, 1, 10, 11, 12, 9, 0, 8]) := by decide +kernel
theorem zi_35_94 : zI 35 94 = some (.if_icmp .ne 7, [101]) := by decide +kernel
theorem zi_35_97 : zI 35 97 = some (.iconst 1, []) := by decide +kernel
theorem zi_35_98 : zI 35 98 = some (.goto 4, [102]) := by decide +kernel
theorem zi_35_101 : zI 35 101 = some (.iconst 0, []) := by decide +kernel
theorem zi_35_102 : zI 35 102 = some (.ireturn, []) := by decide +kernel
theorem zi_66_0 : zI 66 0 = some (.iconst 0, []) := by decide +kernel
theorem zi_66_1 : zI 66 1 = some (.istore_n 2, []) := by decide +kernel
theorem zi_66_2 : zI 66 2 = some (.iload_n 2, []) := by decide +kernel
theorem zi_66_3 : zI 66 3 = some (.aload_n 0, []) := by decide +kernel
theorem zi_66_4 : zI 66 4 = some (.getfield 50, [0, 8, 114]) := by decide +kernel
theorem zi_66_7 : zI 66 7 = some (.if_icmp .ge 23, [30]) := by decide +kernel
theorem zi_66_10 : zI 66 10 = some (.aload_n 0, []) := by decide +kernel
theorem zi_66_11 : zI 66 11 = some (.getfield 32, [0, 5, 119]) := by decide +kernel
theorem zi_66_14 : zI 66 14 = some (.iload_n 2, []) := by decide +kernel
theorem zi_66_15 : zI 66 15 = some (.invokevirtual 46, [0, 0, 1, 1, 10, 11, 12, 9, 0, 8]) := by decide +kernel
theorem zi_66_18 : zI 66 18 = some (.iload_n 1, []) := by decide +kernel
theorem zi_66_19 : zI 66 19 = some (.if_icmp .ne 5, [24]) := by decide +kernel
theorem zi_66_22 : zI 66 22 = some (.iload_n 2, []) := by decide +kernel
theorem zi_66_23 : zI 66 23 = some (.ireturn, []) := by decide +kernel
theorem zi_66_24 : zI 66 24 = some (.iinc 2 1, []) := by decide +kernel
theorem zi_66_27 : zI 66 27 = some (.goto (-25), [2]) := by decide +kernel
theorem zi_66_30 : zI 66 30 = some (.iconst (-1), []) := by decide +kernel
theorem zi_66_31 : zI 66 31 = some (.ireturn, []) := by decide +kernel
theorem zi_67_0 : zI 67 0 = some (.iconst 0, []) := by decide +kernel
theorem zi_67_1 : zI 67 1 = some (.istore_n 2, []) := by decide +kernel
theorem zi_67_2 : zI 67 2 = some (.iconst 0, []) := by decide +kernel
theorem zi_67_3 : zI 67 3 = some (.istore_n 3, []) := by decide +kernel
theorem zi_67_4 : zI 67 4 = some (.iload_n 3, []) := by decide +kernel
theorem zi_67_5 : zI 67 5 = some (.aload_n 0, []) := by decide +kernel
theorem zi_67_6 : zI 67 6 = some (.getfield 50, [0, 8, 114]) := by decide +kernel
theorem zi_67_9 : zI 67 9 = some (.if_icmp .ge 42, [51]) := by decide +kernel
theorem zi_67_12 : zI 67 12 = some (.aload_n 0, []) := by decide +kernel
theorem zi_67_13 : zI 67 13 = some (.getfield 32, [0, 5, 119]) := by decide +kernel
theorem zi_67_16 : zI 67 16 = some (.iload_n 3, []) := by decide +kernel
theorem zi_67_17 : zI 67 17 = some (.invokevirtual 46, [0, 0, 1, 1, 10, 11, 12, 9, 0, 8]) := by decide +kernel
theorem zi_67_20 : zI 67 20 = some (.iload_n 1, []) := by decide +kernel
theorem zi_67_21 : zI 67 21 = some (.if_icmp .ne 24, [45]) := by decide +kernel
theorem zi_67_24 : zI 67 24 = some (.aload_n 0, []) := by decide +kernel
theorem zi_67_25 : zI 67 25 = some (.getfield 23, [0, 2, 229]) := by decide +kernel
theorem zi_67_28 : zI 67 28 = some (.iload_n 3, []) := by decide +kernel
theorem zi_67_29 : zI 67 29 = some (.invokevirtual 46, [0, 0, 1, 1, 10, 11, 12, 9, 0, 8]) := by decide +kernel
theorem zi_67_32 : zI 67 32 = some (.iload_n 2, []) := by decide +kernel
theorem zi_67_33 : zI 67 33 = some (.if_icmp .le 12, [45]) := by decide +kernel
theorem zi_67_36 : zI 67 36 = some (.aload_n 0, []) := by decide +kernel
theorem zi_67_37 : zI 67 37 = some (.getfield 23, [0, 2, 229]) := by decide +kernel
theorem zi_67_40 : zI 67 40 = some (.iload_n 3, []) := by decide +kernel
theorem zi_67_41 : zI 67 41 = some (.invokevirtual 46, [0, 0, 1, 1, 10, 11, 12, 9, 0, 8]) := by decide +kernel
theorem zi_67_44 : zI 67 44 = some (.istore_n 2, []) := by decide +kernel
theorem zi_67_45 : zI 67 45 = some (.iinc 3 1, []) := by decide +kernel
theorem zi_67_48 : zI 67 48 = some (.goto (-44), [4]) := by decide +kernel
theorem zi_67_51 : zI 67 51 = some (.iload_n 2, []) := by decide +kernel
theorem zi_67_52 : zI 67 52 = some (.ireturn, []) := by decide +kernel
theorem zi_68_0 : zI 68 0 = some (.iconst 0, []) := by decide +kernel
theorem zi_68_1 : zI 68 1 = some (.istore_n 3, []) := by decide +kernel
theorem zi_68_2 : zI 68 2 = some (.iconst 0, []) := by decide +kernel
theorem zi_68_3 : zI 68 3 = some (.istore 4, []) := by decide +kernel
theorem zi_68_5 : zI 68 5 = some (.iload 4, []) := by decide +kernel
theorem zi_68_7 : zI 68 7 = some (.aload_n 0, []) := by decide +kernel
theorem zi_68_8 : zI 68 8 = some (.getfield 50, [0, 8, 114]) := by decide +kernel
theorem zi_68_11 : zI 68 11 = some (.if_icmp .ge 35, [46]) := by decide +kernel
theorem zi_68_14 : zI 68 14 = some (.aload_n 0, []) := by decide +kernel
theorem zi_68_15 : zI 68 15 = some (.getfield 32, [0, 5, 119]) := by decide +kernel
theorem zi_68_18 : zI 68 18 = some (.iload 4, []) := by decide +kernel
theorem zi_68_20 : zI 68 20 = some (.invokevirtual 46, [0, 0, 1, 1, 10, 11, 12, 9, 0, 8]) := by decide +kernel
theorem zi_68_23 : zI 68 23 = some (.iload_n 1, []) := by decide +kernel
theorem zi_68_24 : zI 68 24 = some (.if_icmp .ne 16, [40]) := by decide +kernel
theorem zi_68_27 : zI 68 27 = some (.aload_n 0, []) := by decide +kernel
theorem zi_68_28 : zI 68 28 = some (.iload 4, []) := by decide +kernel
theorem zi_68_30 : zI 68 30 = some (.iload_n 2, []) := by decide +kernel
theorem zi_68_31 : zI 68 31 = some (.invokevirtual 62, [69, 0, 2, 0, 243, 244, 53, 242, 0, 241]) := by decide +kernel
theorem zi_68_34 : zI 68 34 = some (.ifCond .eq 6, [40]) := by decide +kernel
theorem zi_68_37 : zI 68 37 = some (.iinc 3 1, []) := by decide +kernel
theorem zi_68_40 : zI 68 40 = some (.iinc 4 1, []) := by decide +kernel
theorem zi_68_43 : zI 68 43 = some (.goto (-38), [5]) := by decide +kernel
theorem zi_68_46 : zI 68 46 = some (.iload_n 3, []) := by decide +kernel
theorem zi_68_47 : zI 68 47 = some (.ireturn, []) := by decide +kernel
theorem zi_69_0 : zI 69 0 = some (.iconst 0, []) := by decide +kernel
theorem zi_69_1 : zI 69 1 = some (.istore_n 3, []) := by decide +kernel
theorem zi_69_2 : zI 69 2 = some (.iload_n 3, []) := by decide +kernel
theorem zi_69_3 : zI 69 3 = some (.iload_n 1, []) := by decide +kernel
theorem zi_69_4 : zI 69 4 = some (.if_icmp .ge 45, [49]) := by decide +kernel
theorem zi_69_7 : zI 69 7 = some (.aload_n 0, []) := by decide +kernel
theorem zi_69_8 : zI 69 8 = some (.getfield 32, [0, 5, 119]) := by decide +kernel
theorem zi_69_11 : zI 69 11 = some (.iload_n 3, []) := by decide +kernel
theorem zi_69_12 : zI 69 12 = some (.invokevirtual 46, [0, 0, 1, 1, 10, 11, 12, 9, 0, 8]) := by decide +kernel
theorem zi_69_15 : zI 69 15 = some (.aload_n 0, []) := by decide +kernel
theorem zi_69_16 : zI 69 16 = some (.getfield 32, [0, 5, 119]) := by decide +kernel
theorem zi_69_19 : zI 69 19 = some (.iload_n 1, []) := by decide +kernel
theorem zi_69_20 : zI 69 20 = some (.invokevirtual 46, [0, 0, 1, 1, 10, 11, 12, 9, 0, 8]) := by decide +kernel
theorem zi_69_23 : zI 69 23 = some (.if_icmp .ne 20, [43]) := by decide +kernel
theorem zi_69_26 : zI 69 26 = some (.aload_n 0, []) := by decide +kernel
theorem zi_69_27 : zI 69 27 = some (.iload_n 3, []) := by decide +kernel
theorem zi_69_28 : zI 69 28 = some (.iload_n 2, []) := by decide +kernel
theorem zi_69_29 : zI 69 29 = some (.invokevirtual 59, [8, 0, 2, 0, 143, 144, 53, 142, 0, 240]) := by decide +kernel
theorem zi_69_32 : zI 69 32 = some (.aload_n 0, []) := by decide +kernel
theorem zi_69_33 : zI 69 33 = some (.iload_n 1, []) := by decide +kernel
theorem zi_69_34 : zI 69 34 = some (.iload_n 2, []) := by decide +kernel
theorem zi_69_35 : zI 69 35 = some (.invokevirtual 59, [8, 0, 2, 0, 143, 144, 53, 142, 0, 240]) := by decide +kernel
theorem zi_69_38 : zI 69 38 = some (.if_icmp .ne 5, [43]) := by decide +kernel
theorem zi_69_41 : zI 69 41 = some (.iconst 0, []) := by decide +kernel
theorem zi_69_42 : zI 69 42 = some (.ireturn, []) := by decide +kernel
theorem zi_69_43 : zI 69 43 = some (.iinc 3 1, []) := by decide +kernel
theorem zi_69_46 : zI 69 46 = some (.goto (-44), [2]) := by decide +kernel
theorem zi_69_49 : zI 69 49 = some (.iconst 1, []) := by decide +kernel
theorem zi_69_50 : zI 69 50 = some (.ireturn, []) := by decide +kernel
/-! lines: what is asked -/
section
variable {b : Nat} {F : Nat → Nat → Int32} {g : Nat → Nat} {h : zH}
theorem l_firstOf (hb : b + 71 ≤ h.length) (t : Int32) (hn : g 1 ≤ 70) (i : Nat) (hi : i ≤ g 1) (ha : ∀ j, j < i → F 5 j ≠ t) : zev 66 2 [some (.ref (b + 1)), some (.int t), some (.int (nI i))] [] (nput b F g h) (zQi (nput b F g h) fun r => ∀ l, l < g 1 → F 5 l = t → r ≤ nI l) := by
  refine zev_of (fun _ kk => zr_iload_n (pc' := 3) zi_66_2 rfl rfl kk) ?_
  refine zev_of (fun _ kk => zr_aload_n (pc' := 4) zi_66_3 rfl rfl kk) ?_
  refine zev_of (fun _ kk => zr_get (pc' := 7) zi_66_4 (nput_at hb (k := 1) rfl) rfl rfl kk) ?_
  refine zv_icmp (pc' := 10) zi_66_7 rfl (fun h7 => ?_) (fun h7 => ?_)
  · replace h7 := zc_ge_t (by omega) (by omega) h7
    refine zev_of (fun _ kk => zr_iconst (v := (-1)) (pc' := 31) zi_66_30 rfl rfl kk) ?_
    refine zev_ret (zr_ireturn zi_66_31 rfl) ?_
    refine ⟨_, ?_, rfl⟩
    intro l hl he
    exact absurd he (ha l (by omega))
  · replace h7 := zc_ge_f (by omega) (by omega) h7
    refine zev_of (fun _ kk => zr_aload_n (pc' := 11) zi_66_10 rfl rfl kk) ?_
    refine zev_of (fun _ kk => zr_get (pc' := 14) zi_66_11 (nput_at hb (k := 1) rfl) rfl rfl kk) ?_
    refine zev_of (fun _ kk => zr_iload_n (pc' := 15) zi_66_14 rfl rfl kk) ?_
    refine zev_of (fun _ kk => zr_atN (pc' := 18) (by omega) zi_66_15 hb rfl rfl (by decide) rfl rfl kk) ?_
    refine zev_of (fun _ kk => zr_iload_n (pc' := 19) zi_66_18 rfl rfl kk) ?_
    refine zv_icmp (pc' := 22) zi_66_19 rfl (fun h19 => ?_) (fun h19 => ?_)
    · replace h19 := zc_ne_t h19
      refine zev_of (fun _ kk => zr_iinc (pc' := 27) zi_66_24 rfl (by first | exact n_inc _ | rfl) rfl rfl kk) ?_
      dsimp only [zst1, zst2, zkill, List.set, List.getElem?_cons_succ, List.getElem?_cons_zero]
      refine zev_of (fun _ kk => zr_goto zi_66_27 kk) ?_
      exact l_firstOf hb t hn (i + 1) (by omega) (fun j hj => by rcases Nat.lt_or_ge j i with q | q; exact ha j q; exact (show j = i by omega) ▸ h19)
    · replace h19 := zc_ne_f h19
      refine zev_of (fun _ kk => zr_iload_n (pc' := 23) zi_66_22 rfl rfl kk) ?_
      refine zev_ret (zr_ireturn zi_66_23 rfl) ?_
      refine ⟨_, ?_, rfl⟩
      intro l hl he
      refine nI_le ?_ (by omega)
      rcases Nat.lt_or_ge l i with q | q
      · exact absurd he (ha l q)
      · exact q
termination_by g 1 - i
theorem c_firstOf (hb : b + 71 ≤ h.length) (t : Int32) (hn : g 1 ≤ 70) : ∃ r, (∀ l, l < g 1 → F 5 l = t → r ≤ nI l) ∧ zcalls zTB 66 [.ref (b + 1), .int t] (nput b F g h) (some (.int r), nput b F g h) := by
  refine zQi_out (zev_calls (Nat.le_of_ble_eq_true rfl) ?_)
  show zev 66 0 [some (.ref (b + 1)), some (.int t), none] [] _ _
  refine zev_of (fun _ kk => zr_iconst (v := (nI 0)) (pc' := 1) zi_66_0 rfl rfl kk) ?_
  refine zev_of (fun _ kk => zr_istore_n (pc' := 2) zi_66_1 (Nat.le_of_ble_eq_true rfl) rfl rfl kk) ?_
  dsimp only [zst1, zst2, zkill, List.set, List.getElem?_cons_succ, List.getElem?_cons_zero]
  exact l_firstOf hb t hn 0 (by omega) (fun j hj => absurd hj (by omega))
theorem l_worstLevelOf (hb : b + 71 ≤ h.length) (t : Int32) (hn : g 1 ≤ 70) (i : Nat) (w : Int32) (hi : i ≤ g 1) (ha : ∀ j, j < i → F 5 j = t → F 2 j ≤ w) : zev 67 4 [some (.ref (b + 1)), some (.int t), some (.int w), some (.int (nI i))] [] (nput b F g h) (zQi (nput b F g h) fun r => ∀ l, l < g 1 → F 5 l = t → F 2 l ≤ r) := by
  refine zev_of (fun _ kk => zr_iload_n (pc' := 5) zi_67_4 rfl rfl kk) ?_
  refine zev_of (fun _ kk => zr_aload_n (pc' := 6) zi_67_5 rfl rfl kk) ?_
  refine zev_of (fun _ kk => zr_get (pc' := 9) zi_67_6 (nput_at hb (k := 1) rfl) rfl rfl kk) ?_
  refine zv_icmp (pc' := 12) zi_67_9 rfl (fun h9 => ?_) (fun h9 => ?_)
  · replace h9 := zc_ge_t (by omega) (by omega) h9
    refine zev_of (fun _ kk => zr_iload_n (pc' := 52) zi_67_51 rfl rfl kk) ?_
    refine zev_ret (zr_ireturn zi_67_52 rfl) ?_
    refine ⟨_, ?_, rfl⟩
    intro l hl he
    exact ha l (by omega) he
  · replace h9 := zc_ge_f (by omega) (by omega) h9
    refine zev_of (fun _ kk => zr_aload_n (pc' := 13) zi_67_12 rfl rfl kk) ?_
    refine zev_of (fun _ kk => zr_get (pc' := 16) zi_67_13 (nput_at hb (k := 1) rfl) rfl rfl kk) ?_
    refine zev_of (fun _ kk => zr_iload_n (pc' := 17) zi_67_16 rfl rfl kk) ?_
    refine zev_of (fun _ kk => zr_atN (pc' := 20) (by omega) zi_67_17 hb rfl rfl (by decide) rfl rfl kk) ?_
    refine zev_of (fun _ kk => zr_iload_n (pc' := 21) zi_67_20 rfl rfl kk) ?_
    refine zv_icmp (pc' := 24) zi_67_21 rfl (fun h21 => ?_) (fun h21 => ?_)
    · replace h21 := zc_ne_t h21
      refine zev_of (fun _ kk => zr_iinc (pc' := 48) zi_67_45 rfl (by first | exact n_inc _ | rfl) rfl rfl kk) ?_
      dsimp only [zst1, zst2, zkill, List.set, List.getElem?_cons_succ, List.getElem?_cons_zero]
      refine zev_of (fun _ kk => zr_goto zi_67_48 kk) ?_
      exact l_worstLevelOf hb t hn (i + 1) w (by omega) (fun j hj he => by rcases Nat.lt_or_ge j i with q | q; exact ha j q he; exact absurd ((show j = i by omega) ▸ he) h21)
    · replace h21 := zc_ne_f h21
      refine zev_of (fun _ kk => zr_aload_n (pc' := 25) zi_67_24 rfl rfl kk) ?_
      refine zev_of (fun _ kk => zr_get (pc' := 28) zi_67_25 (nput_at hb (k := 1) rfl) rfl rfl kk) ?_
      refine zev_of (fun _ kk => zr_iload_n (pc' := 29) zi_67_28 rfl rfl kk) ?_
      refine zev_of (fun _ kk => zr_atN (pc' := 32) (by omega) zi_67_29 hb rfl rfl (by decide) rfl rfl kk) ?_
      refine zev_of (fun _ kk => zr_iload_n (pc' := 33) zi_67_32 rfl rfl kk) ?_
      refine zv_icmp (pc' := 36) zi_67_33 rfl (fun h33 => ?_) (fun h33 => ?_)
      · replace h33 := zx_le_t h33
        refine zev_of (fun _ kk => zr_iinc (pc' := 48) zi_67_45 rfl (by first | exact n_inc _ | rfl) rfl rfl kk) ?_
        dsimp only [zst1, zst2, zkill, List.set, List.getElem?_cons_succ, List.getElem?_cons_zero]
        refine zev_of (fun _ kk => zr_goto zi_67_48 kk) ?_
        exact l_worstLevelOf hb t hn (i + 1) w (by omega) (fun j hj he => by rcases Nat.lt_or_ge j i with q | q; exact ha j q he; exact (show j = i by omega) ▸ h33)
      · replace h33 := zx_le_f h33
        refine zev_of (fun _ kk => zr_aload_n (pc' := 37) zi_67_36 rfl rfl kk) ?_
        refine zev_of (fun _ kk => zr_get (pc' := 40) zi_67_37 (nput_at hb (k := 1) rfl) rfl rfl kk) ?_
        refine zev_of (fun _ kk => zr_iload_n (pc' := 41) zi_67_40 rfl rfl kk) ?_
        refine zev_of (fun _ kk => zr_atN (pc' := 44) (by omega) zi_67_41 hb rfl rfl (by decide) rfl rfl kk) ?_
        refine zev_of (fun _ kk => zr_istore_n (pc' := 45) zi_67_44 (Nat.le_of_ble_eq_true rfl) rfl rfl kk) ?_
        dsimp only [zst1, zst2, zkill, List.set, List.getElem?_cons_succ, List.getElem?_cons_zero]
        refine zev_of (fun _ kk => zr_iinc (pc' := 48) zi_67_45 rfl (by first | exact n_inc _ | rfl) rfl rfl kk) ?_
        dsimp only [zst1, zst2, zkill, List.set, List.getElem?_cons_succ, List.getElem?_cons_zero]
        refine zev_of (fun _ kk => zr_goto zi_67_48 kk) ?_
        have h33' := Int32.not_le.mp h33
        exact l_worstLevelOf hb t hn (i + 1) _ (by omega) (fun j hj he => by
          rcases Nat.lt_or_ge j i with q | q
          · exact Int32.le_trans (ha j q he) (Int32.le_of_lt h33')
          · rw [show j = i by omega]
            exact Int32.le_refl _)
termination_by g 1 - i
theorem c_worstLevelOf (hb : b + 71 ≤ h.length) (t : Int32) (hn : g 1 ≤ 70) : ∃ r, (∀ l, l < g 1 → F 5 l = t → F 2 l ≤ r) ∧ zcalls zTB 67 [.ref (b + 1), .int t] (nput b F g h) (some (.int r), nput b F g h) := by
  refine zQi_out (zev_calls (Nat.le_of_ble_eq_true rfl) ?_)
  show zev 67 0 [some (.ref (b + 1)), some (.int t), none, none] [] _ _
  refine zev_of (fun _ kk => zr_iconst (v := (nI 0)) (pc' := 1) zi_67_0 rfl rfl kk) ?_
  refine zev_of (fun _ kk => zr_istore_n (pc' := 2) zi_67_1 (Nat.le_of_ble_eq_true rfl) rfl rfl kk) ?_
  dsimp only [zst1, zst2, zkill, List.set, List.getElem?_cons_succ, List.getElem?_cons_zero]
  refine zev_of (fun _ kk => zr_iconst (v := (nI 0)) (pc' := 3) zi_67_2 rfl rfl kk) ?_
  refine zev_of (fun _ kk => zr_istore_n (pc' := 4) zi_67_3 (Nat.le_of_ble_eq_true rfl) rfl rfl kk) ?_
  dsimp only [zst1, zst2, zkill, List.set, List.getElem?_cons_succ, List.getElem?_cons_zero]
  exact l_worstLevelOf hb t hn 0 _ (by omega) (fun j hj => absurd hj (by omega))
theorem l_isNewWord (hb : b + 71 ≤ h.length) (i p j : Nat) (hn : i ≤ 70) (hp : i * 8 + p < 560) (hj : j ≤ i) : zev 69 2 [some (.ref (b + 1)), some (.int (nI i)), some (.int (nI p)), some (.int (nI j))] [] (nput b F g h) (zQi (nput b F g h) fun r => r = 0 ∨ r = 1) := by
  refine zev_of (fun _ kk => zr_iload_n (pc' := 3) zi_69_2 rfl rfl kk) ?_
  refine zev_of (fun _ kk => zr_iload_n (pc' := 4) zi_69_3 rfl rfl kk) ?_
  refine zv_icmp (pc' := 7) zi_69_4 rfl (fun h4 => ?_) (fun h4 => ?_)
  · replace h4 := zc_ge_t (by omega) (by omega) h4
    refine zev_of (fun _ kk => zr_iconst (v := (nI 1)) (pc' := 50) zi_69_49 rfl rfl kk) ?_
    refine zev_ret (zr_zreturn zi_69_50 rfl (by decide)) ?_
    exact ⟨_, .inr rfl, rfl⟩
  · replace h4 := zc_ge_f (by omega) (by omega) h4
    refine zev_of (fun _ kk => zr_aload_n (pc' := 8) zi_69_7 rfl rfl kk) ?_
    refine zev_of (fun _ kk => zr_get (pc' := 11) zi_69_8 (nput_at hb (k := 1) rfl) rfl rfl kk) ?_
    refine zev_of (fun _ kk => zr_iload_n (pc' := 12) zi_69_11 rfl rfl kk) ?_
    refine zev_of (fun _ kk => zr_atN (pc' := 15) (by omega) zi_69_12 hb rfl rfl (by decide) rfl rfl kk) ?_
    refine zev_of (fun _ kk => zr_aload_n (pc' := 16) zi_69_15 rfl rfl kk) ?_
    refine zev_of (fun _ kk => zr_get (pc' := 19) zi_69_16 (nput_at hb (k := 1) rfl) rfl rfl kk) ?_
    refine zev_of (fun _ kk => zr_iload_n (pc' := 20) zi_69_19 rfl rfl kk) ?_
    refine zev_of (fun _ kk => zr_atN (pc' := 23) (by omega) zi_69_20 hb rfl rfl (by decide) rfl rfl kk) ?_
    refine zv_icmp (pc' := 26) zi_69_23 rfl (fun h23 => ?_) (fun h23 => ?_)
    · replace h23 := zc_ne_t h23
      refine zev_of (fun _ kk => zr_iinc (pc' := 46) zi_69_43 rfl (by first | exact n_inc _ | rfl) rfl rfl kk) ?_
      dsimp only [zst1, zst2, zkill, List.set, List.getElem?_cons_succ, List.getElem?_cons_zero]
      refine zev_of (fun _ kk => zr_goto zi_69_46 kk) ?_
      exact l_isNewWord hb i p (j + 1) hn hp (by omega)
    · replace h23 := zc_ne_f h23
      refine zev_of (fun _ kk => zr_aload_n (pc' := 27) zi_69_26 rfl rfl kk) ?_
      refine zev_of (fun _ kk => zr_iload_n (pc' := 28) zi_69_27 rfl rfl kk) ?_
      refine zev_of (fun _ kk => zr_iload_n (pc' := 29) zi_69_28 rfl rfl kk) ?_
      refine zev_of (fun _ kk => zr_v2 (pc' := 32) zi_69_29 (nput_at hb (k := 1) rfl) rfl (c_wordIn hb _ _ (by omega)) rfl kk) ?_
      refine zev_of (fun _ kk => zr_aload_n (pc' := 33) zi_69_32 rfl rfl kk) ?_
      refine zev_of (fun _ kk => zr_iload_n (pc' := 34) zi_69_33 rfl rfl kk) ?_
      refine zev_of (fun _ kk => zr_iload_n (pc' := 35) zi_69_34 rfl rfl kk) ?_
      refine zev_of (fun _ kk => zr_v2 (pc' := 38) zi_69_35 (nput_at hb (k := 1) rfl) rfl (c_wordIn hb _ _ (by omega)) rfl kk) ?_
      refine zv_icmp (pc' := 41) zi_69_38 rfl (fun h38 => ?_) (fun h38 => ?_)
      · replace h38 := zc_ne_t h38
        refine zev_of (fun _ kk => zr_iinc (pc' := 46) zi_69_43 rfl (by first | exact n_inc _ | rfl) rfl rfl kk) ?_
        dsimp only [zst1, zst2, zkill, List.set, List.getElem?_cons_succ, List.getElem?_cons_zero]
        refine zev_of (fun _ kk => zr_goto zi_69_46 kk) ?_
        exact l_isNewWord hb i p (j + 1) hn hp (by omega)
      · replace h38 := zc_ne_f h38
        refine zev_of (fun _ kk => zr_iconst (v := (nI 0)) (pc' := 42) zi_69_41 rfl rfl kk) ?_
        refine zev_ret (zr_zreturn zi_69_42 rfl (by decide)) ?_
        exact ⟨_, .inl rfl, rfl⟩
termination_by i - j
theorem c_isNewWord (hb : b + 71 ≤ h.length) (i p : Nat) (hn : i ≤ 70) (hp : i * 8 + p < 560) : ∃ r, (r = 0 ∨ r = 1) ∧ zcalls zTB 69 [.ref (b + 1), .int (nI i), .int (nI p)] (nput b F g h) (some (.int r), nput b F g h) := by
  refine zQi_out (zev_calls (Nat.le_of_ble_eq_true rfl) ?_)
  show zev 69 0 [some (.ref (b + 1)), some (.int (nI i)), some (.int (nI p)), none] [] _ _
  refine zev_of (fun _ kk => zr_iconst (v := (nI 0)) (pc' := 1) zi_69_0 rfl rfl kk) ?_
  refine zev_of (fun _ kk => zr_istore_n (pc' := 2) zi_69_1 (Nat.le_of_ble_eq_true rfl) rfl rfl kk) ?_
  dsimp only [zst1, zst2, zkill, List.set, List.getElem?_cons_succ, List.getElem?_cons_zero]
  exact l_isNewWord hb i p 0 hn hp (by omega)
theorem l_howManyWordsOf (hb : b + 71 ≤ h.length) (t : Int32) (p : Nat) (hp : p < 8) (hn : g 1 ≤ 70) (i a : Nat) (hi : i ≤ g 1) (ha : a ≤ zcnt (fun j => decide (F 5 j = t)) i) : zev 68 5 [some (.ref (b + 1)), some (.int t), some (.int (nI p)), some (.int (nI a)), some (.int (nI i))] [] (nput b F g h) (zQi (nput b F g h) fun r => ∃ a, r = nI a ∧ a ≤ zcnt (fun j => decide (F 5 j = t)) (g 1)) := by
  refine zev_of (fun _ kk => zr_iload (pc' := 7) zi_68_5 rfl rfl kk) ?_
  refine zev_of (fun _ kk => zr_aload_n (pc' := 8) zi_68_7 rfl rfl kk) ?_
  refine zev_of (fun _ kk => zr_get (pc' := 11) zi_68_8 (nput_at hb (k := 1) rfl) rfl rfl kk) ?_
  refine zv_icmp (pc' := 14) zi_68_11 rfl (fun h11 => ?_) (fun h11 => ?_)
  · replace h11 := zc_ge_t (by omega) (by omega) h11
    refine zev_of (fun _ kk => zr_iload_n (pc' := 47) zi_68_46 rfl rfl kk) ?_
    refine zev_ret (zr_ireturn zi_68_47 rfl) ?_
    have e : i = g 1 := by omega
    exact ⟨_, ⟨a, rfl, e ▸ ha⟩, rfl⟩
  · replace h11 := zc_ge_f (by omega) (by omega) h11
    refine zev_of (fun _ kk => zr_aload_n (pc' := 15) zi_68_14 rfl rfl kk) ?_
    refine zev_of (fun _ kk => zr_get (pc' := 18) zi_68_15 (nput_at hb (k := 1) rfl) rfl rfl kk) ?_
    refine zev_of (fun _ kk => zr_iload (pc' := 20) zi_68_18 rfl rfl kk) ?_
    refine zev_of (fun _ kk => zr_atN (pc' := 23) (by omega) zi_68_20 hb rfl rfl (by decide) rfl rfl kk) ?_
    refine zev_of (fun _ kk => zr_iload_n (pc' := 24) zi_68_23 rfl rfl kk) ?_
    refine zv_icmp (pc' := 27) zi_68_24 rfl (fun h24 => ?_) (fun h24 => ?_)
    · replace h24 := zc_ne_t h24
      refine zev_of (fun _ kk => zr_iinc (pc' := 43) zi_68_40 rfl (by first | exact n_inc _ | rfl) rfl rfl kk) ?_
      dsimp only [zst1, zst2, zkill, List.set, List.getElem?_cons_succ, List.getElem?_cons_zero]
      refine zev_of (fun _ kk => zr_goto zi_68_43 kk) ?_
      exact l_howManyWordsOf hb t p hp hn (i + 1) a (by omega) (by rw [zcnt_f (by simpa using h24)]; exact ha)
    · replace h24 := zc_ne_f h24
      refine zev_of (fun _ kk => zr_aload_n (pc' := 28) zi_68_27 rfl rfl kk) ?_
      refine zev_of (fun _ kk => zr_iload (pc' := 30) zi_68_28 rfl rfl kk) ?_
      refine zev_of (fun _ kk => zr_iload_n (pc' := 31) zi_68_30 rfl rfl kk) ?_
      obtain ⟨r, hr, hc⟩ := c_isNewWord hb (F := F) (g := g) i p (by omega) (by omega)
      refine zev_of (fun _ kk => zr_v2 (pc' := 34) zi_68_31 (nput_at hb (k := 1) rfl) rfl hc rfl kk) ?_
      refine zv_if (pc' := 37) zi_68_34 rfl (fun h34 => ?_) (fun h34 => ?_)
      · replace h34 := zc_eq_t h34
        refine zev_of (fun _ kk => zr_iinc (pc' := 43) zi_68_40 rfl (by first | exact n_inc _ | rfl) rfl rfl kk) ?_
        dsimp only [zst1, zst2, zkill, List.set, List.getElem?_cons_succ, List.getElem?_cons_zero]
        refine zev_of (fun _ kk => zr_goto zi_68_43 kk) ?_
        exact l_howManyWordsOf hb t p hp hn (i + 1) a (by omega) (by rw [zcnt_t (by simpa using h24)]; omega)
      · replace h34 := zc_eq_f h34
        refine zev_of (fun _ kk => zr_iinc (pc' := 40) zi_68_37 rfl (by first | exact n_inc _ | rfl) rfl rfl kk) ?_
        dsimp only [zst1, zst2, zkill, List.set, List.getElem?_cons_succ, List.getElem?_cons_zero]
        refine zev_of (fun _ kk => zr_iinc (pc' := 43) zi_68_40 rfl (by first | exact n_inc _ | rfl) rfl rfl kk) ?_
        dsimp only [zst1, zst2, zkill, List.set, List.getElem?_cons_succ, List.getElem?_cons_zero]
        refine zev_of (fun _ kk => zr_goto zi_68_43 kk) ?_
        exact l_howManyWordsOf hb t p hp hn (i + 1) (a + 1) (by omega) (by rw [zcnt_t (by simpa using h24)]; omega)
termination_by g 1 - i
theorem c_howManyWordsOf (hb : b + 71 ≤ h.length) (t : Int32) (p : Nat) (hp : p < 8) (hn : g 1 ≤ 70) : ∃ r, (∃ a, r = nI a ∧ a ≤ zcnt (fun j => decide (F 5 j = t)) (g 1)) ∧ zcalls zTB 68 [.ref (b + 1), .int t, .int (nI p)] (nput b F g h) (some (.int r), nput b F g h) := by
  refine zQi_out (zev_calls (Nat.le_of_ble_eq_true rfl) ?_)
  show zev 68 0 [some (.ref (b + 1)), some (.int t), some (.int (nI p)), none, none] [] _ _
  refine zev_of (fun _ kk => zr_iconst (v := (nI 0)) (pc' := 1) zi_68_0 rfl rfl kk) ?_
  refine zev_of (fun _ kk => zr_istore_n (pc' := 2) zi_68_1 (Nat.le_of_ble_eq_true rfl) rfl rfl kk) ?_
  dsimp only [zst1, zst2, zkill, List.set, List.getElem?_cons_succ, List.getElem?_cons_zero]
  refine zev_of (fun _ kk => zr_iconst (v := (nI 0)) (pc' := 3) zi_68_2 rfl rfl kk) ?_
  refine zev_of (fun _ kk => zr_istore (pc' := 5) zi_68_3 (Nat.le_of_ble_eq_true rfl) rfl rfl kk) ?_
  dsimp only [zst1, zst2, zkill, List.set, List.getElem?_cons_succ, List.getElem?_cons_zero]
  exact l_howManyWordsOf hb t p hp hn 0 0 (by omega) (by omega)
/-- the window of a time -/
def zqu (x w : Int32) : Int32 := if w = 0 then 0 else x / w
theorem l_howManyBetween (hb : b + 71 ≤ h.length) (t u v w : Int32) (hn : g 1 ≤ 70) (i : Nat) (hi : i ≤ g 1) (X : Option Value) : zruns zTB 33 6 [some (.ref (b + 1)), some (.int t), some (.int u), some (.int v), some (.int w), some (.int (nI (zcnt (fun j => decide (F 5 j = t ∧ u ≤ zqu (F 0 j) w ∧ zqu (F 0 j) w ≤ v)) i))), some (.int (nI i)), X] [] (nput b F g h) (some (.int (nI (zcnt (fun j => decide (F 5 j = t ∧ u ≤ zqu (F 0 j) w ∧ zqu (F 0 j) w ≤ v)) (g 1)))), nput b F g h) := by
  refine zr_iload (pc' := 8) zi_33_6 rfl rfl ?_
  refine zr_aload_n (pc' := 9) zi_33_8 rfl rfl ?_
  refine zr_get (pc' := 12) zi_33_9 (nput_at hb (k := 1) rfl) rfl rfl ?_
  refine zr_icmp (pc' := 15) zi_33_12 rfl (fun h12 => ?_) (fun h12 => ?_)
  · replace h12 := zc_ge_t (by omega) (by omega) h12
    refine zr_iload (pc' := 67) zi_33_65 rfl rfl ?_
    have e : i = g 1 := by omega
    subst e
    exact zr_ireturn zi_33_67 rfl
  · replace h12 := zc_ge_f (by omega) (by omega) h12
    refine zr_aload_n (pc' := 16) zi_33_15 rfl rfl ?_
    refine zr_get (pc' := 19) zi_33_16 (nput_at hb (k := 1) rfl) rfl rfl ?_
    refine zr_iload (pc' := 21) zi_33_19 rfl rfl ?_
    refine zr_atN (pc' := 24) (by omega) zi_33_21 hb rfl rfl (by decide) rfl rfl ?_
    refine zr_iload (pc' := 26) zi_33_24 rfl rfl ?_
    have hq : zcalls zTB 13 [.int (F 0 i), .int w] (nput b F g h) (some (.int (zqu (F 0 i) w)), nput b F g h) := c_quotient _ _
    refine zr_s2 (pc' := 29) zi_33_26 rfl hq rfl ?_
    refine zr_istore (pc' := 31) zi_33_29 (Nat.le_of_ble_eq_true rfl) rfl rfl ?_
    dsimp only [zst1, zst2, zkill, List.set, List.getElem?_cons_succ, List.getElem?_cons_zero]
    refine zr_aload_n (pc' := 32) zi_33_31 rfl rfl ?_
    refine zr_get (pc' := 35) zi_33_32 (nput_at hb (k := 1) rfl) rfl rfl ?_
    refine zr_iload (pc' := 37) zi_33_35 rfl rfl ?_
    refine zr_atN (pc' := 40) (by omega) zi_33_37 hb rfl rfl (by decide) rfl rfl ?_
    refine zr_iload_n (pc' := 41) zi_33_40 rfl rfl ?_
    refine zr_icmp (pc' := 44) zi_33_41 rfl (fun h41 => ?_) (fun h41 => ?_)
    · replace h41 := zc_ne_t h41
      refine zr_iinc (pc' := 62) zi_33_59 rfl (by first | exact n_inc _ | rfl) rfl rfl ?_
      dsimp only [zst1, zst2, zkill, List.set, List.getElem?_cons_succ, List.getElem?_cons_zero]
      refine zr_goto zi_33_62 ?_
      have ih := l_howManyBetween hb t u v w hn (i + 1) (by omega) (some (.int (zqu (F 0 i) w)))
      rw [zcnt_f (by simp [h41])] at ih
      exact ih
    · replace h41 := zc_ne_f h41
      refine zr_iload (pc' := 46) zi_33_44 rfl rfl ?_
      refine zr_iload_n (pc' := 47) zi_33_46 rfl rfl ?_
      refine zr_icmp (pc' := 50) zi_33_47 rfl (fun h47 => ?_) (fun h47 => ?_)
      · replace h47 := zx_lt_t h47
        refine zr_iinc (pc' := 62) zi_33_59 rfl (by first | exact n_inc _ | rfl) rfl rfl ?_
        dsimp only [zst1, zst2, zkill, List.set, List.getElem?_cons_succ, List.getElem?_cons_zero]
        refine zr_goto zi_33_62 ?_
        have ih := l_howManyBetween hb t u v w hn (i + 1) (by omega) (some (.int (zqu (F 0 i) w)))
        rw [zcnt_f (by simp only [decide_eq_false_iff_not]; exact fun q => absurd q.2.1 (Int32.not_le.mpr h47))] at ih
        exact ih
      · replace h47 := zx_lt_f h47
        refine zr_iload (pc' := 52) zi_33_50 rfl rfl ?_
        refine zr_iload_n (pc' := 53) zi_33_52 rfl rfl ?_
        refine zr_icmp (pc' := 56) zi_33_53 rfl (fun h53 => ?_) (fun h53 => ?_)
        · replace h53 := zx_gt_t h53
          refine zr_iinc (pc' := 62) zi_33_59 rfl (by first | exact n_inc _ | rfl) rfl rfl ?_
          dsimp only [zst1, zst2, zkill, List.set, List.getElem?_cons_succ, List.getElem?_cons_zero]
          refine zr_goto zi_33_62 ?_
          have ih := l_howManyBetween hb t u v w hn (i + 1) (by omega) (some (.int (zqu (F 0 i) w)))
          rw [zcnt_f (by simp only [decide_eq_false_iff_not]; exact fun q => absurd q.2.2 (Int32.not_le.mpr h53))] at ih
          exact ih
        · replace h53 := zx_gt_f h53
          refine zr_iinc (pc' := 59) zi_33_56 rfl (by first | exact n_inc _ | rfl) rfl rfl ?_
          dsimp only [zst1, zst2, zkill, List.set, List.getElem?_cons_succ, List.getElem?_cons_zero]
          refine zr_iinc (pc' := 62) zi_33_59 rfl (by first | exact n_inc _ | rfl) rfl rfl ?_
          dsimp only [zst1, zst2, zkill, List.set, List.getElem?_cons_succ, List.getElem?_cons_zero]
          refine zr_goto zi_33_62 ?_
          have ih := l_howManyBetween hb t u v w hn (i + 1) (by omega) (some (.int (zqu (F 0 i) w)))
          rw [zcnt_t (by simp only [decide_eq_true_eq]; exact ⟨h41, Int32.not_lt.mp h47, Int32.not_lt.mp h53⟩)] at ih
          exact ih
termination_by g 1 - i
theorem c_howManyBetween (hb : b + 71 ≤ h.length) (t u v w : Int32) (hn : g 1 ≤ 70) : zcalls zTB 33 [.ref (b + 1), .int t, .int u, .int v, .int w] (nput b F g h) (some (.int (nI (zcnt (fun j => decide (F 5 j = t ∧ u ≤ zqu (F 0 j) w ∧ zqu (F 0 j) w ≤ v)) (g 1)))), nput b F g h) := by
  refine zcalls_of (Nat.le_of_ble_eq_true rfl) ?_
  show zruns zTB 33 0 [some (.ref (b + 1)), some (.int t), some (.int u), some (.int v), some (.int w), none, none, none] [] _ _
  refine zr_iconst (v := (nI 0)) (pc' := 1) zi_33_0 rfl rfl ?_
  refine zr_istore (pc' := 3) zi_33_1 (Nat.le_of_ble_eq_true rfl) rfl rfl ?_
  dsimp only [zst1, zst2, zkill, List.set, List.getElem?_cons_succ, List.getElem?_cons_zero]
  refine zr_iconst (v := (nI 0)) (pc' := 4) zi_33_3 rfl rfl ?_
  refine zr_istore (pc' := 6) zi_33_4 (Nat.le_of_ble_eq_true rfl) rfl rfl ?_
  dsimp only [zst1, zst2, zkill, List.set, List.getElem?_cons_succ, List.getElem?_cons_zero]
  exact l_howManyBetween hb t u v w hn 0 (by omega) none
/-- the line that a line goes on with, looked for below j -/
def zjn (F : Nat → Nat → Int32) (l : Nat) (gap : Int32) : Nat → Int32
  | 0 => -1
  | j + 1 => if F 6 j = F 6 l then (if F 0 l - F 0 j ≤ gap then nI j else -1) else zjn F l gap j
theorem l_joined (hb : b + 71 ≤ h.length) (l : Nat) (gap : Int32) (hl : l < 70) : ∀ j, j ≤ l → zruns zTB 34 4 [some (.ref (b + 1)), some (.int (nI l)), some (.int gap), some (.int (nI j - 1))] [] (nput b F g h) (some (.int (zjn F l gap j)), nput b F g h)
  | 0, hj => by
    refine zr_iload_n (pc' := 5) zi_34_4 rfl rfl ?_
    refine zr_if (pc' := 8) zi_34_5 rfl (fun h5 => ?_) (fun h5 => ?_)
    · replace h5 := zx_lt_t h5
      refine zr_iconst (v := (-1)) (pc' := 61) zi_34_60 rfl rfl ?_
      exact zr_ireturn zi_34_61 rfl
    · replace h5 := zx_lt_f h5
      exact absurd (by decide : nI 0 - 1 < 0) h5
  | j + 1, hj => by
    rw [nI_pred]
    refine zr_iload_n (pc' := 5) zi_34_4 rfl rfl ?_
    refine zr_if (pc' := 8) zi_34_5 rfl (fun h5 => ?_) (fun h5 => ?_)
    · replace h5 := zx_lt_t h5
      exact absurd h5 (nI_pos (by omega))
    · replace h5 := zx_lt_f h5
      refine zr_aload_n (pc' := 9) zi_34_8 rfl rfl ?_
      refine zr_get (pc' := 12) zi_34_9 (nput_at hb (k := 1) rfl) rfl rfl ?_
      refine zr_iload_n (pc' := 13) zi_34_12 rfl rfl ?_
      refine zr_atN (pc' := 16) (by omega) zi_34_13 hb rfl rfl (by decide) rfl rfl ?_
      refine zr_aload_n (pc' := 17) zi_34_16 rfl rfl ?_
      refine zr_get (pc' := 20) zi_34_17 (nput_at hb (k := 1) rfl) rfl rfl ?_
      refine zr_iload_n (pc' := 21) zi_34_20 rfl rfl ?_
      refine zr_atN (pc' := 24) (by omega) zi_34_21 hb rfl rfl (by decide) rfl rfl ?_
      refine zr_icmp (pc' := 27) zi_34_24 rfl (fun h24 => ?_) (fun h24 => ?_)
      · replace h24 := zc_ne_t h24
        refine zr_iinc (pc' := 57) zi_34_54 rfl (n_dec _) rfl rfl ?_
        dsimp only [zst1, zst2, zkill, List.set, List.getElem?_cons_succ, List.getElem?_cons_zero]
        refine zr_goto zi_34_57 ?_
        rw [zjn, if_neg h24]
        exact l_joined hb l gap hl j (by omega)
      · replace h24 := zc_ne_f h24
        refine zr_aload_n (pc' := 28) zi_34_27 rfl rfl ?_
        refine zr_get (pc' := 31) zi_34_28 (nput_at hb (k := 1) rfl) rfl rfl ?_
        refine zr_iload_n (pc' := 32) zi_34_31 rfl rfl ?_
        refine zr_atN (pc' := 35) (by omega) zi_34_32 hb rfl rfl (by decide) rfl rfl ?_
        refine zr_aload_n (pc' := 36) zi_34_35 rfl rfl ?_
        refine zr_get (pc' := 39) zi_34_36 (nput_at hb (k := 1) rfl) rfl rfl ?_
        refine zr_iload_n (pc' := 40) zi_34_39 rfl rfl ?_
        refine zr_atN (pc' := 43) (by omega) zi_34_40 hb rfl rfl (by decide) rfl rfl ?_
        refine zr_isub (pc' := 44) zi_34_43 (by first | exact pk_sub (by omega) | rfl) rfl ?_
        refine zr_iload_n (pc' := 45) zi_34_44 rfl rfl ?_
        refine zr_icmp (pc' := 48) zi_34_45 rfl (fun h45 => ?_) (fun h45 => ?_)
        · replace h45 := zx_gt_t h45
          refine zr_iconst (v := (-1)) (pc' := 53) zi_34_52 rfl rfl ?_
          rw [zjn, if_pos h24, if_neg (Int32.not_le.mpr h45)]
          exact zr_ireturn zi_34_53 rfl
        · replace h45 := zx_gt_f h45
          refine zr_iload_n (pc' := 49) zi_34_48 rfl rfl ?_
          refine zr_goto zi_34_49 ?_
          rw [zjn, if_pos h24, if_pos (Int32.not_lt.mp h45)]
          exact zr_ireturn zi_34_53 rfl
theorem c_joined (hb : b + 71 ≤ h.length) (l : Nat) (gap : Int32) (hl : l < 70) : zcalls zTB 34 [.ref (b + 1), .int (nI l), .int gap] (nput b F g h) (some (.int (zjn F l gap l)), nput b F g h) := by
  refine zcalls_of (Nat.le_of_ble_eq_true rfl) ?_
  show zruns zTB 34 0 [some (.ref (b + 1)), some (.int (nI l)), some (.int gap), none] [] _ _
  refine zr_iload_n (pc' := 1) zi_34_0 rfl rfl ?_
  refine zr_iconst (v := (nI 1)) (pc' := 2) zi_34_1 rfl rfl ?_
  refine zr_isub (pc' := 3) zi_34_2 rfl rfl ?_
  refine zr_istore_n (pc' := 4) zi_34_3 (Nat.le_of_ble_eq_true rfl) rfl rfl ?_
  dsimp only [zst1, zst2, zkill, List.set, List.getElem?_cons_succ, List.getElem?_cons_zero]
  exact l_joined hb l gap hl l (by omega)
theorem c_isInScene (hb : b + 71 ≤ h.length) (o l : Nat) (back : Int32) (ho : o < 70) (hl : l < 70) (hn : g 1 ≤ 70) : ∃ r, ((r = 0 ∨ r = 1) ∧ (r ≠ 0 → o < l ∧ o < g 1 ∧ F 0 l - back ≤ F 0 o)) ∧ zcalls zTB 35 [.ref (b + 1), .int (nI o), .int (nI l), .int back] (nput b F g h) (some (.int r), nput b F g h) := by
  refine zQi_out (zev_calls (Nat.le_of_ble_eq_true rfl) ?_)
  show zev 35 0 [some (.ref (b + 1)), some (.int (nI o)), some (.int (nI l)), some (.int back), none] [] _ _
  refine zev_of (fun _ kk => zr_iload_n (pc' := 1) zi_35_0 rfl rfl kk) ?_
  refine zev_of (fun _ kk => zr_iload_n (pc' := 2) zi_35_1 rfl rfl kk) ?_
  refine zv_icmp (pc' := 5) zi_35_2 rfl (fun h2 => ?_) (fun h2 => ?_)
  · replace h2 := zc_ge_t (by omega) (by omega) h2
    refine zev_of (fun _ kk => zr_iconst (v := (nI 0)) (pc' := 35) zi_35_34 rfl rfl kk) ?_
    refine zev_ret (zr_zreturn zi_35_35 rfl (by decide)) ?_
    exact ⟨_, ⟨.inl rfl, fun q => absurd rfl q⟩, rfl⟩
  · replace h2 := zc_ge_f (by omega) (by omega) h2
    refine zev_of (fun _ kk => zr_iload_n (pc' := 6) zi_35_5 rfl rfl kk) ?_
    refine zev_of (fun _ kk => zr_aload_n (pc' := 7) zi_35_6 rfl rfl kk) ?_
    refine zev_of (fun _ kk => zr_get (pc' := 10) zi_35_7 (nput_at hb (k := 1) rfl) rfl rfl kk) ?_
    refine zv_icmp (pc' := 13) zi_35_10 rfl (fun h10 => ?_) (fun h10 => ?_)
    · replace h10 := zc_ge_t (by omega) (by omega) h10
      refine zev_of (fun _ kk => zr_iconst (v := (nI 0)) (pc' := 35) zi_35_34 rfl rfl kk) ?_
      refine zev_ret (zr_zreturn zi_35_35 rfl (by decide)) ?_
      exact ⟨_, ⟨.inl rfl, fun q => absurd rfl q⟩, rfl⟩
    · replace h10 := zc_ge_f (by omega) (by omega) h10
      refine zev_of (fun _ kk => zr_aload_n (pc' := 14) zi_35_13 rfl rfl kk) ?_
      refine zev_of (fun _ kk => zr_get (pc' := 17) zi_35_14 (nput_at hb (k := 1) rfl) rfl rfl kk) ?_
      refine zev_of (fun _ kk => zr_iload_n (pc' := 18) zi_35_17 rfl rfl kk) ?_
      refine zev_of (fun _ kk => zr_atN (pc' := 21) (by omega) zi_35_18 hb rfl rfl (by decide) rfl rfl kk) ?_
      refine zev_of (fun _ kk => zr_aload_n (pc' := 22) zi_35_21 rfl rfl kk) ?_
      refine zev_of (fun _ kk => zr_get (pc' := 25) zi_35_22 (nput_at hb (k := 1) rfl) rfl rfl kk) ?_
      refine zev_of (fun _ kk => zr_iload_n (pc' := 26) zi_35_25 rfl rfl kk) ?_
      refine zev_of (fun _ kk => zr_atN (pc' := 29) (by omega) zi_35_26 hb rfl rfl (by decide) rfl rfl kk) ?_
      refine zev_of (fun _ kk => zr_iload_n (pc' := 30) zi_35_29 rfl rfl kk) ?_
      refine zev_of (fun _ kk => zr_isub (pc' := 31) zi_35_30 (by first | exact pk_sub (by omega) | rfl) rfl kk) ?_
      refine zv_icmp (pc' := 34) zi_35_31 rfl (fun h31 => ?_) (fun h31 => ?_)
      · replace h31 := zx_ge_t h31
        refine zev_of (fun _ kk => zr_aload_n (pc' := 37) zi_35_36 rfl rfl kk) ?_
        refine zev_of (fun _ kk => zr_get (pc' := 40) zi_35_37 (nput_at hb (k := 1) rfl) rfl rfl kk) ?_
        refine zev_of (fun _ kk => zr_iload_n (pc' := 41) zi_35_40 rfl rfl kk) ?_
        refine zev_of (fun _ kk => zr_atN (pc' := 44) (by omega) zi_35_41 hb rfl rfl (by decide) rfl rfl kk) ?_
        refine zv_if (pc' := 47) zi_35_44 rfl (fun h44 => ?_) (fun h44 => ?_)
        · replace h44 := zx_lt_t h44
          refine zev_of (fun _ kk => zr_iconst (v := (nI 0)) (pc' := 71) zi_35_70 rfl rfl kk) ?_
          refine zev_of (fun _ kk => zr_istore (pc' := 73) zi_35_71 (Nat.le_of_ble_eq_true rfl) rfl rfl kk) ?_
          dsimp only [zst1, zst2, zkill, List.set, List.getElem?_cons_succ, List.getElem?_cons_zero]
          refine zev_of (fun _ kk => zr_iload (pc' := 75) zi_35_73 rfl rfl kk) ?_
          refine zv_if (pc' := 78) zi_35_75 rfl (fun h75 => ?_) (fun h75 => ?_)
          · replace h75 := zc_ne_t h75
            refine zev_of (fun _ kk => zr_iconst (v := (nI 1)) (pc' := 98) zi_35_97 rfl rfl kk) ?_
            refine zev_of (fun _ kk => zr_goto zi_35_98 kk) ?_
            refine zev_ret (zr_zreturn zi_35_102 rfl (by decide)) ?_
            exact ⟨_, ⟨by first | exact .inl rfl | exact .inr rfl, fun _ => ⟨h2, h10, h31⟩⟩, rfl⟩
          · replace h75 := zc_ne_f h75
            refine zev_of (fun _ kk => zr_aload_n (pc' := 79) zi_35_78 rfl rfl kk) ?_
            refine zev_of (fun _ kk => zr_get (pc' := 82) zi_35_79 (nput_at hb (k := 1) rfl) rfl rfl kk) ?_
            refine zev_of (fun _ kk => zr_iload_n (pc' := 83) zi_35_82 rfl rfl kk) ?_
            refine zev_of (fun _ kk => zr_atN (pc' := 86) (by omega) zi_35_83 hb rfl rfl (by decide) rfl rfl kk) ?_
            refine zev_of (fun _ kk => zr_aload_n (pc' := 87) zi_35_86 rfl rfl kk) ?_
            refine zev_of (fun _ kk => zr_get (pc' := 90) zi_35_87 (nput_at hb (k := 1) rfl) rfl rfl kk) ?_
            refine zev_of (fun _ kk => zr_iload_n (pc' := 91) zi_35_90 rfl rfl kk) ?_
            refine zev_of (fun _ kk => zr_atN (pc' := 94) (by omega) zi_35_91 hb rfl rfl (by decide) rfl rfl kk) ?_
            refine zv_icmp (pc' := 97) zi_35_94 rfl (fun h94 => ?_) (fun h94 => ?_)
            · replace h94 := zc_ne_t h94
              refine zev_of (fun _ kk => zr_iconst (v := (nI 0)) (pc' := 102) zi_35_101 rfl rfl kk) ?_
              refine zev_ret (zr_zreturn zi_35_102 rfl (by decide)) ?_
              exact ⟨_, ⟨by first | exact .inl rfl | exact .inr rfl, fun _ => ⟨h2, h10, h31⟩⟩, rfl⟩
            · replace h94 := zc_ne_f h94
              refine zev_of (fun _ kk => zr_iconst (v := (nI 1)) (pc' := 98) zi_35_97 rfl rfl kk) ?_
              refine zev_of (fun _ kk => zr_goto zi_35_98 kk) ?_
              refine zev_ret (zr_zreturn zi_35_102 rfl (by decide)) ?_
              exact ⟨_, ⟨by first | exact .inl rfl | exact .inr rfl, fun _ => ⟨h2, h10, h31⟩⟩, rfl⟩
        · replace h44 := zx_lt_f h44
          refine zev_of (fun _ kk => zr_aload_n (pc' := 48) zi_35_47 rfl rfl kk) ?_
          refine zev_of (fun _ kk => zr_get (pc' := 51) zi_35_48 (nput_at hb (k := 1) rfl) rfl rfl kk) ?_
          refine zev_of (fun _ kk => zr_iload_n (pc' := 52) zi_35_51 rfl rfl kk) ?_
          refine zev_of (fun _ kk => zr_atN (pc' := 55) (by omega) zi_35_52 hb rfl rfl (by decide) rfl rfl kk) ?_
          refine zev_of (fun _ kk => zr_aload_n (pc' := 56) zi_35_55 rfl rfl kk) ?_
          refine zev_of (fun _ kk => zr_get (pc' := 59) zi_35_56 (nput_at hb (k := 1) rfl) rfl rfl kk) ?_
          refine zev_of (fun _ kk => zr_iload_n (pc' := 60) zi_35_59 rfl rfl kk) ?_
          refine zev_of (fun _ kk => zr_atN (pc' := 63) (by omega) zi_35_60 hb rfl rfl (by decide) rfl rfl kk) ?_
          refine zv_icmp (pc' := 66) zi_35_63 rfl (fun h63 => ?_) (fun h63 => ?_)
          · replace h63 := zc_ne_t h63
            refine zev_of (fun _ kk => zr_iconst (v := (nI 0)) (pc' := 71) zi_35_70 rfl rfl kk) ?_
            refine zev_of (fun _ kk => zr_istore (pc' := 73) zi_35_71 (Nat.le_of_ble_eq_true rfl) rfl rfl kk) ?_
            dsimp only [zst1, zst2, zkill, List.set, List.getElem?_cons_succ, List.getElem?_cons_zero]
            refine zev_of (fun _ kk => zr_iload (pc' := 75) zi_35_73 rfl rfl kk) ?_
            refine zv_if (pc' := 78) zi_35_75 rfl (fun h75 => ?_) (fun h75 => ?_)
            · replace h75 := zc_ne_t h75
              refine zev_of (fun _ kk => zr_iconst (v := (nI 1)) (pc' := 98) zi_35_97 rfl rfl kk) ?_
              refine zev_of (fun _ kk => zr_goto zi_35_98 kk) ?_
              refine zev_ret (zr_zreturn zi_35_102 rfl (by decide)) ?_
              exact ⟨_, ⟨by first | exact .inl rfl | exact .inr rfl, fun _ => ⟨h2, h10, h31⟩⟩, rfl⟩
            · replace h75 := zc_ne_f h75
              refine zev_of (fun _ kk => zr_aload_n (pc' := 79) zi_35_78 rfl rfl kk) ?_
              refine zev_of (fun _ kk => zr_get (pc' := 82) zi_35_79 (nput_at hb (k := 1) rfl) rfl rfl kk) ?_
              refine zev_of (fun _ kk => zr_iload_n (pc' := 83) zi_35_82 rfl rfl kk) ?_
              refine zev_of (fun _ kk => zr_atN (pc' := 86) (by omega) zi_35_83 hb rfl rfl (by decide) rfl rfl kk) ?_
              refine zev_of (fun _ kk => zr_aload_n (pc' := 87) zi_35_86 rfl rfl kk) ?_
              refine zev_of (fun _ kk => zr_get (pc' := 90) zi_35_87 (nput_at hb (k := 1) rfl) rfl rfl kk) ?_
              refine zev_of (fun _ kk => zr_iload_n (pc' := 91) zi_35_90 rfl rfl kk) ?_
              refine zev_of (fun _ kk => zr_atN (pc' := 94) (by omega) zi_35_91 hb rfl rfl (by decide) rfl rfl kk) ?_
              refine zv_icmp (pc' := 97) zi_35_94 rfl (fun h94 => ?_) (fun h94 => ?_)
              · replace h94 := zc_ne_t h94
                refine zev_of (fun _ kk => zr_iconst (v := (nI 0)) (pc' := 102) zi_35_101 rfl rfl kk) ?_
                refine zev_ret (zr_zreturn zi_35_102 rfl (by decide)) ?_
                exact ⟨_, ⟨by first | exact .inl rfl | exact .inr rfl, fun _ => ⟨h2, h10, h31⟩⟩, rfl⟩
              · replace h94 := zc_ne_f h94
                refine zev_of (fun _ kk => zr_iconst (v := (nI 1)) (pc' := 98) zi_35_97 rfl rfl kk) ?_
                refine zev_of (fun _ kk => zr_goto zi_35_98 kk) ?_
                refine zev_ret (zr_zreturn zi_35_102 rfl (by decide)) ?_
                exact ⟨_, ⟨by first | exact .inl rfl | exact .inr rfl, fun _ => ⟨h2, h10, h31⟩⟩, rfl⟩
          · replace h63 := zc_ne_f h63
            refine zev_of (fun _ kk => zr_iconst (v := (nI 1)) (pc' := 67) zi_35_66 rfl rfl kk) ?_
            refine zev_of (fun _ kk => zr_goto zi_35_67 kk) ?_
            refine zev_of (fun _ kk => zr_istore (pc' := 73) zi_35_71 (Nat.le_of_ble_eq_true rfl) rfl rfl kk) ?_
            dsimp only [zst1, zst2, zkill, List.set, List.getElem?_cons_succ, List.getElem?_cons_zero]
            refine zev_of (fun _ kk => zr_iload (pc' := 75) zi_35_73 rfl rfl kk) ?_
            refine zv_if (pc' := 78) zi_35_75 rfl (fun h75 => ?_) (fun h75 => ?_)
            · replace h75 := zc_ne_t h75
              refine zev_of (fun _ kk => zr_iconst (v := (nI 1)) (pc' := 98) zi_35_97 rfl rfl kk) ?_
              refine zev_of (fun _ kk => zr_goto zi_35_98 kk) ?_
              refine zev_ret (zr_zreturn zi_35_102 rfl (by decide)) ?_
              exact ⟨_, ⟨by first | exact .inl rfl | exact .inr rfl, fun _ => ⟨h2, h10, h31⟩⟩, rfl⟩
            · replace h75 := zc_ne_f h75
              refine zev_of (fun _ kk => zr_aload_n (pc' := 79) zi_35_78 rfl rfl kk) ?_
              refine zev_of (fun _ kk => zr_get (pc' := 82) zi_35_79 (nput_at hb (k := 1) rfl) rfl rfl kk) ?_
              refine zev_of (fun _ kk => zr_iload_n (pc' := 83) zi_35_82 rfl rfl kk) ?_
              refine zev_of (fun _ kk => zr_atN (pc' := 86) (by omega) zi_35_83 hb rfl rfl (by decide) rfl rfl kk) ?_
              refine zev_of (fun _ kk => zr_aload_n (pc' := 87) zi_35_86 rfl rfl kk) ?_
              refine zev_of (fun _ kk => zr_get (pc' := 90) zi_35_87 (nput_at hb (k := 1) rfl) rfl rfl kk) ?_
              refine zev_of (fun _ kk => zr_iload_n (pc' := 91) zi_35_90 rfl rfl kk) ?_
              refine zev_of (fun _ kk => zr_atN (pc' := 94) (by omega) zi_35_91 hb rfl rfl (by decide) rfl rfl kk) ?_
              refine zv_icmp (pc' := 97) zi_35_94 rfl (fun h94 => ?_) (fun h94 => ?_)
              · replace h94 := zc_ne_t h94
                refine zev_of (fun _ kk => zr_iconst (v := (nI 0)) (pc' := 102) zi_35_101 rfl rfl kk) ?_
                refine zev_ret (zr_zreturn zi_35_102 rfl (by decide)) ?_
                exact ⟨_, ⟨by first | exact .inl rfl | exact .inr rfl, fun _ => ⟨h2, h10, h31⟩⟩, rfl⟩
              · replace h94 := zc_ne_f h94
                refine zev_of (fun _ kk => zr_iconst (v := (nI 1)) (pc' := 98) zi_35_97 rfl rfl kk) ?_
                refine zev_of (fun _ kk => zr_goto zi_35_98 kk) ?_
                refine zev_ret (zr_zreturn zi_35_102 rfl (by decide)) ?_
                exact ⟨_, ⟨by first | exact .inl rfl | exact .inr rfl, fun _ => ⟨h2, h10, h31⟩⟩, rfl⟩
      · replace h31 := zx_ge_f h31
        refine zev_of (fun _ kk => zr_iconst (v := (nI 0)) (pc' := 35) zi_35_34 rfl rfl kk) ?_
        refine zev_ret (zr_zreturn zi_35_35 rfl (by decide)) ?_
        exact ⟨_, ⟨.inl rfl, fun q => absurd rfl q⟩, rfl⟩
end
end
section
theorem zi_16_0 : zI 16 0 = some (.aload_n 0, []) := by decide +kernel
theorem zi_16_1 : zI 16 1 = some (.getfield 20, [5, 1, 32]) := by decide +kernel
theorem zi_16_4 : zI 16 4 = some (.iload_n 1, []) := by decide +kernel
theorem zi_16_5 : zI 16 5 = some (.bipush 8, []) := by decide +kernel
theorem zi_16_7 : zI 16 7 = some (.imul, []) := by decide +kernel
theorem zi_16_8 : zI 16 8 = some (.iload_n 2, []) := by decide +kernel
theorem zi_16_9 : zI 16 9 = some (.iadd, []) := by decide +kernel
theorem zi_16_10 : zI 16 10 = some (.invokevirtual 23, [0, 0, 1, 1, 10, 11, 12, 9, 0, 33]) := by decide +kernel
theorem zi_16_13 : zI 16 13 = some (.ireturn, []) := by decide +kernel
theorem zi_39_0 : zI 39 0 = some (.iconst 0, []) := by decide +kernel
theorem zi_39_1 : zI 39 1 = some (.istore_n 2, []) := by decide +kernel
theorem zi_39_2 : zI 39 2 = some (.iconst 0, []) := by decide +kernel
theorem zi_39_3 : zI 39 3 = some (.istore_n 3, []) := by decide +kernel
theorem zi_39_4 : zI 39 4 = some (.iload_n 3, []) := by decide +kernel
theorem zi_39_5 : zI 39 5 = some (.aload_n 0, []) := by decide +kernel
theorem zi_39_6 : zI 39 6 = some (.getfield 14, [5, 0, 134]) := by decide +kernel
theorem zi_39_9 : zI 39 9 = some (.iload_n 1, []) := by decide +kernel
theorem zi_39_10 : zI 39 10 = some (.invokevirtual 23, [0, 0, 1, 1, 10, 11, 12, 9, 0, 33]) := by decide +kernel
theorem zi_39_13 : zI 39 13 = some (.if_icmp .ge 22, [35]) := by decide +kernel
theorem zi_39_16 : zI 39 16 = some (.aload_n 0, []) := by decide +kernel
theorem zi_39_17 : zI 39 17 = some (.iload_n 1, []) := by decide +kernel
theorem zi_39_18 : zI 39 18 = some (.iload_n 3, []) := by decide +kernel
theorem zi_39_19 : zI 39 19 = some (.invokevirtual 27, [16, 0, 2, 5, 137, 138, 139, 136, 0, 135]) := by decide +kernel
theorem zi_39_22 : zI 39 22 = some (.iconst (-1), []) := by decide +kernel
theorem zi_39_23 : zI 39 23 = some (.if_icmp .ne 6, [29]) := by decide +kernel
theorem zi_39_26 : zI 39 26 = some (.iinc 2 1, []) := by decide +kernel
theorem zi_39_29 : zI 39 29 = some (.iinc 3 1, []) := by decide +kernel
theorem zi_39_32 : zI 39 32 = some (.goto (-28), [4]) := by decide +kernel
theorem zi_39_35 : zI 39 35 = some (.iload_n 2, []) := by decide +kernel
theorem zi_39_36 : zI 39 36 = some (.ireturn, []) := by decide +kernel
theorem zi_40_0 : zI 40 0 = some (.iconst 0, []) := by decide +kernel
theorem zi_40_1 : zI 40 1 = some (.istore_n 3, []) := by decide +kernel
theorem zi_40_2 : zI 40 2 = some (.iconst 0, []) := by decide +kernel
theorem zi_40_3 : zI 40 3 = some (.istore 4, []) := by decide +kernel
theorem zi_40_5 : zI 40 5 = some (.iload 4, []) := by decide +kernel
theorem zi_40_7 : zI 40 7 = some (.aload_n 0, []) := by decide +kernel
theorem zi_40_8 : zI 40 8 = some (.getfield 14, [5, 0, 134]) := by decide +kernel
theorem zi_40_11 : zI 40 11 = some (.iload_n 1, []) := by decide +kernel
theorem zi_40_12 : zI 40 12 = some (.invokevirtual 23, [0, 0, 1, 1, 10, 11, 12, 9, 0, 33]) := by decide +kernel
theorem zi_40_15 : zI 40 15 = some (.if_icmp .ge 31, [46]) := by decide +kernel
theorem zi_40_18 : zI 40 18 = some (.aload_n 0, []) := by decide +kernel
theorem zi_40_19 : zI 40 19 = some (.iload_n 1, []) := by decide +kernel
theorem zi_40_20 : zI 40 20 = some (.iload 4, []) := by decide +kernel
theorem zi_40_22 : zI 40 22 = some (.invokevirtual 27, [16, 0, 2, 5, 137, 138, 139, 136, 0, 135]) := by decide +kernel
theorem zi_40_25 : zI 40 25 = some (.iconst (-1), []) := by decide +kernel
theorem zi_40_26 : zI 40 26 = some (.if_icmp .ne 14, [40]) := by decide +kernel
theorem zi_40_29 : zI 40 29 = some (.iload_n 3, []) := by decide +kernel
theorem zi_40_30 : zI 40 30 = some (.iload_n 2, []) := by decide +kernel
theorem zi_40_31 : zI 40 31 = some (.if_icmp .ne 6, [37]) := by decide +kernel
theorem zi_40_34 : zI 40 34 = some (.iload 4, []) := by decide +kernel
theorem zi_40_36 : zI 40 36 = some (.ireturn, []) := by decide +kernel
theorem zi_40_37 : zI 40 37 = some (.iinc 3 1, []) := by decide +kernel
theorem zi_40_40 : zI 40 40 = some (.iinc 4 1, []) := by decide +kernel
theorem zi_40_43 : zI 40 43 = some (.goto (-38), [5]) := by decide +kernel
theorem zi_40_46 : zI 40 46 = some (.iconst (-1), []) := by decide +kernel
theorem zi_40_47 : zI 40 47 = some (.ireturn, []) := by decide +kernel
theorem zi_41_0 : zI 41 0 = some (.aload_n 0, []) := by decide +kernel
theorem zi_41_1 : zI 41 1 = some (.getfield 14, [5, 0, 134]) := by decide +kernel
theorem zi_41_4 : zI 41 4 = some (.iload_n 3, []) := by decide +kernel
theorem zi_41_5 : zI 41 5 = some (.invokevirtual 23, [0, 0, 1, 1, 10, 11, 12, 9, 0, 33]) := by decide +kernel
theorem zi_41_8 : zI 41 8 = some (.istore 4, []) := by decide +kernel
theorem zi_41_10 : zI 41 10 = some (.aload_n 1, []) := by decide +kernel
theorem zi_41_11 : zI 41 11 = some (.getfield 31, [0, 3, 140]) := by decide +kernel
theorem zi_41_14 : zI 41 14 = some (.iload_n 2, []) := by decide +kernel
theorem zi_41_15 : zI 41 15 = some (.invokevirtual 23, [0, 0, 1, 1, 10, 11, 12, 9, 0, 33]) := by decide +kernel
theorem zi_41_18 : zI 41 18 = some (.iload 4, []) := by decide +kernel
theorem zi_41_20 : zI 41 20 = some (.if_icmp .eq 5, [25]) := by decide +kernel
theorem zi_41_23 : zI 41 23 = some (.iconst (-1), []) := by decide +kernel
theorem zi_41_24 : zI 41 24 = some (.ireturn, []) := by decide +kernel
theorem zi_41_25 : zI 41 25 = some (.iconst 0, []) := by decide +kernel
theorem zi_41_26 : zI 41 26 = some (.istore 5, []) := by decide +kernel
theorem zi_41_28 : zI 41 28 = some (.iconst 0, []) := by decide +kernel
theorem zi_41_29 : zI 41 29 = some (.istore 6, []) := by decide +kernel
theorem zi_41_31 : zI 41 31 = some (.iload 6, []) := by decide +kernel
theorem zi_41_33 : zI 41 33 = some (.iload 4, []) := by decide +kernel
theorem zi_41_35 : zI 41 35 = some (.if_icmp .ge 29, [64]) := by decide +kernel
theorem zi_41_38 : zI 41 38 = some (.aload_n 1, []) := by decide +kernel
theorem zi_41_39 : zI 41 39 = some (.iload_n 2, []) := by decide +kernel
theorem zi_41_40 : zI 41 40 = some (.iload 6, []) := by decide +kernel
theorem zi_41_42 : zI 41 42 = some (.invokevirtual 34, [8, 0, 2, 0, 143, 144, 53, 142, 0, 141]) := by decide +kernel
theorem zi_41_45 : zI 41 45 = some (.aload_n 0, []) := by decide +kernel
theorem zi_41_46 : zI 41 46 = some (.iload_n 3, []) := by decide +kernel
theorem zi_41_47 : zI 41 47 = some (.iload 6, []) := by decide +kernel
theorem zi_41_49 : zI 41 49 = some (.invokevirtual 27, [16, 0, 2, 5, 137, 138, 139, 136, 0, 135]) := by decide +kernel
theorem zi_41_52 : zI 41 52 = some (.if_icmp .ne 6, [58]) := by decide +kernel
theorem zi_41_55 : zI 41 55 = some (.iinc 5 1, []) := by decide +kernel
theorem zi_41_58 : zI 41 58 = some (.iinc 6 1, []) := by decide +kernel
theorem zi_41_61 : zI 41 61 = some (.goto (-30), [31]) := by decide +kernel
theorem zi_41_64 : zI 41 64 = some (.iload 5, []) := by decide +kernel
theorem zi_41_66 : zI 41 66 = some (.ireturn, []) := by decide +kernel
/-! templates -/
theorem zcnt_zero {p : Nat → Bool} : ∀ {n : Nat}, zcnt p n = 0 → ∀ j, j < n → p j = false
  | 0, _, j, hj => absurd hj (by omega)
  | n + 1, h, j, hj => by
    cases hp : p n with
    | true => rw [zcnt_t hp] at h; omega
    | false =>
      rw [zcnt_f hp] at h
      rcases Nat.lt_or_ge j n with q | q
      · exact zcnt_zero h j q
      · exact (show j = n by omega) ▸ hp
theorem zcnt_ext {p q : Nat → Bool} : ∀ {n : Nat}, (∀ j, j < n → p j = q j) → zcnt p n = zcnt q n
  | 0, _ => rfl
  | n + 1, h => by
    simp only [zcnt]
    rw [zcnt_ext (n := n) fun j hj => h j (by omega), h n (by omega)]
theorem zcnt_mono {p : Nat → Bool} {m : Nat} : ∀ {n : Nat}, m ≤ n → zcnt p m ≤ zcnt p n
  | 0, h => by rw [show m = 0 by omega]; exact Nat.le_refl _
  | n + 1, h => by
    rcases Nat.lt_or_ge n m with q | q
    · rw [show m = n + 1 by omega]; exact Nat.le_refl _
    · refine Nat.le_trans (zcnt_mono (n := n) q) ?_
      simp only [zcnt]
      omega
theorem zcnt_imp {p q : Nat → Bool} : ∀ {n : Nat}, (∀ j, j < n → p j = true → q j = true) → zcnt p n ≤ zcnt q n
  | 0, _ => Nat.le_refl _
  | n + 1, h => by
    have ih := zcnt_imp (n := n) fun j hj => h j (by omega)
    cases hp : p n with
    | true => rw [zcnt_t hp, zcnt_t (h n (by omega) hp)]; omega
    | false => rw [zcnt_f hp]; simp only [zcnt]; omega
theorem nI_neg {a : Nat} (ha : a < 2 ^ 31) : nI a ≠ -1 := fun q => nI_pos ha (by rw [q]; decide)
theorem nI_n1 {a : Nat} (ha : a < 2 ^ 31) : -1 < nI a := Int32.lt_of_lt_of_le (by decide : (-1 : Int32) < 0) (nI_pos' ha)
theorem rat_neg {n : Nat} {f : Nat → Int32} : rat n f (-1) = -1 := by
  unfold rat
  rw [if_pos (.inl (by decide))]
theorem nI_m1 {a c : Nat} (ha : a < 1000) (hc : c < 1000) : nI a - 1 ≤ nI c - 1 ↔ a ≤ c := by
  have h1 := pk_sub_toInt (a := a) (b := 1) (by omega) (by omega)
  have h2 := pk_sub_toInt (a := c) (b := 1) (by omega) (by omega)
  rw [Int32.le_iff_toInt_le]
  rw [show nI a - 1 = nI a - nI 1 from rfl, show nI c - 1 = nI c - nI 1 from rfl, h1, h2]
  omega
theorem updR_ne {F : Nat → Nat → Int32} {r q : Nat} {f : Nat → Int32} (h : q ≠ r) : updR F r f q = F q := if_neg h
theorem updR_eq {F : Nat → Nat → Int32} {r : Nat} {f : Nat → Int32} : updR F r f r = f := if_pos rfl
section
variable {b : Nat} {F : Nat → Nat → Int32} {g : Nat → Nat} {h : zH}
theorem c_slotIn (hb : b + 71 ≤ h.length) (t p : Nat) (ht : t * 8 + p < 160) : zcalls zTB 16 [.ref (b + 16), .int (nI t), .int (nI p)] (nput b F g h) (some (.int (F 8 (t * 8 + p))), nput b F g h) := by
  refine zcalls_of (Nat.le_of_ble_eq_true rfl) ?_
  show zruns zTB 16 0 [some (.ref (b + 16)), some (.int (nI t)), some (.int (nI p))] [] _ _
  refine zr_aload_n (pc' := 1) zi_16_0 rfl rfl ?_
  refine zr_get (pc' := 4) zi_16_1 (nput_at hb (k := 16) rfl) rfl rfl ?_
  refine zr_iload_n (pc' := 5) zi_16_4 rfl rfl ?_
  refine zr_bipush (v := (nI 8)) (pc' := 7) zi_16_5 rfl rfl ?_
  refine zr_imul (pc' := 8) zi_16_7 (by first | exact pk_mul _ _ | rfl) rfl ?_
  refine zr_iload_n (pc' := 9) zi_16_8 rfl rfl ?_
  refine zr_iadd (pc' := 10) zi_16_9 (by first | exact nI_add _ _ | rfl) rfl ?_
  refine zr_atN (pc' := 13) (by omega) zi_16_10 hb rfl rfl (by decide) rfl rfl ?_
  exact zr_ireturn zi_16_13 rfl
/-- the holes of a template ahead of a place -/
def zhol (F : Nat → Nat → Int32) (t : Nat) : Nat → Nat := zcnt fun p => decide (F 8 (t * 8 + p) = -1)
theorem zhol_t {t p : Nat} (e : F 8 (t * 8 + p) = -1) : zhol F t (p + 1) = zhol F t p + 1 := zcnt_t (by simpa using e)
theorem zhol_f {t p : Nat} (e : F 8 (t * 8 + p) ≠ -1) : zhol F t (p + 1) = zhol F t p := zcnt_f (by simpa using e)
theorem l_howManyHoles (hb : b + 71 ≤ h.length) (t a : Nat) (ht : t < 20) (hs : F 7 t = nI a) (ha : a ≤ 8) (p : Nat) (hp : p ≤ a) : zruns zTB 39 4 [some (.ref (b + 16)), some (.int (nI t)), some (.int (nI (zhol F t p))), some (.int (nI p))] [] (nput b F g h) (some (.int (nI (zhol F t a))), nput b F g h) := by
  refine zr_iload_n (pc' := 5) zi_39_4 rfl rfl ?_
  refine zr_aload_n (pc' := 6) zi_39_5 rfl rfl ?_
  refine zr_get (pc' := 9) zi_39_6 (nput_at hb (k := 16) rfl) rfl rfl ?_
  refine zr_iload_n (pc' := 10) zi_39_9 rfl rfl ?_
  refine zr_atN (pc' := 13) (by omega) zi_39_10 hb rfl rfl (by decide) rfl rfl ?_
  rw [hs]
  refine zr_icmp (pc' := 16) zi_39_13 rfl (fun h13 => ?_) (fun h13 => ?_)
  · replace h13 := zc_ge_t (by omega) (by omega) h13
    refine zr_iload_n (pc' := 36) zi_39_35 rfl rfl ?_
    rw [show a = p by omega]
    exact zr_ireturn zi_39_36 rfl
  · replace h13 := zc_ge_f (by omega) (by omega) h13
    refine zr_aload_n (pc' := 17) zi_39_16 rfl rfl ?_
    refine zr_iload_n (pc' := 18) zi_39_17 rfl rfl ?_
    refine zr_iload_n (pc' := 19) zi_39_18 rfl rfl ?_
    refine zr_v2 (pc' := 22) zi_39_19 (nput_at hb (k := 16) rfl) rfl (c_slotIn hb _ _ (by omega)) rfl ?_
    refine zr_iconst (v := (-1)) (pc' := 23) zi_39_22 rfl rfl ?_
    refine zr_icmp (pc' := 26) zi_39_23 rfl (fun h23 => ?_) (fun h23 => ?_)
    · replace h23 := zc_ne_t h23
      refine zr_iinc (pc' := 32) zi_39_29 rfl (by first | exact n_inc _ | rfl) rfl rfl ?_
      dsimp only [zst1, zst2, zkill, List.set, List.getElem?_cons_succ, List.getElem?_cons_zero]
      refine zr_goto zi_39_32 ?_
      have ih := l_howManyHoles hb t a ht hs ha (p + 1) (by omega)
      rw [zhol_f h23] at ih
      exact ih
    · replace h23 := zc_ne_f h23
      refine zr_iinc (pc' := 29) zi_39_26 rfl (by first | exact n_inc _ | rfl) rfl rfl ?_
      dsimp only [zst1, zst2, zkill, List.set, List.getElem?_cons_succ, List.getElem?_cons_zero]
      refine zr_iinc (pc' := 32) zi_39_29 rfl (by first | exact n_inc _ | rfl) rfl rfl ?_
      dsimp only [zst1, zst2, zkill, List.set, List.getElem?_cons_succ, List.getElem?_cons_zero]
      refine zr_goto zi_39_32 ?_
      have ih := l_howManyHoles hb t a ht hs ha (p + 1) (by omega)
      rw [zhol_t h23] at ih
      exact ih
termination_by a - p
theorem c_howManyHoles (hb : b + 71 ≤ h.length) (t a : Nat) (ht : t < 20) (hs : F 7 t = nI a) (ha : a ≤ 8) : zcalls zTB 39 [.ref (b + 16), .int (nI t)] (nput b F g h) (some (.int (nI (zhol F t a))), nput b F g h) := by
  refine zcalls_of (Nat.le_of_ble_eq_true rfl) ?_
  show zruns zTB 39 0 [some (.ref (b + 16)), some (.int (nI t)), none, none] [] _ _
  refine zr_iconst (v := (nI 0)) (pc' := 1) zi_39_0 rfl rfl ?_
  refine zr_istore_n (pc' := 2) zi_39_1 (Nat.le_of_ble_eq_true rfl) rfl rfl ?_
  dsimp only [zst1, zst2, zkill, List.set, List.getElem?_cons_succ, List.getElem?_cons_zero]
  refine zr_iconst (v := (nI 0)) (pc' := 3) zi_39_2 rfl rfl ?_
  refine zr_istore_n (pc' := 4) zi_39_3 (Nat.le_of_ble_eq_true rfl) rfl rfl ?_
  dsimp only [zst1, zst2, zkill, List.set, List.getElem?_cons_succ, List.getElem?_cons_zero]
  exact l_howManyHoles hb t a ht hs ha 0 (by omega)
/-- the place of hole q -/
def zpla (F : Nat → Nat → Int32) (t a q : Nat) (r : Int32) : Prop := (r = -1 ∧ zhol F t a ≤ q) ∨ ∃ p, p < a ∧ r = nI p ∧ F 8 (t * 8 + p) = -1 ∧ zhol F t p = q
theorem l_placeOfHole (hb : b + 71 ≤ h.length) (t a q : Nat) (ht : t < 20) (hs : F 7 t = nI a) (ha : a ≤ 8) (hq : q < 1000) (p : Nat) (hp : p ≤ a) (hpq : zhol F t p ≤ q) : zev 40 5 [some (.ref (b + 16)), some (.int (nI t)), some (.int (nI q)), some (.int (nI (zhol F t p))), some (.int (nI p))] [] (nput b F g h) (zQi (nput b F g h) (zpla F t a q)) := by
  refine zev_of (fun _ kk => zr_iload (pc' := 7) zi_40_5 rfl rfl kk) ?_
  refine zev_of (fun _ kk => zr_aload_n (pc' := 8) zi_40_7 rfl rfl kk) ?_
  refine zev_of (fun _ kk => zr_get (pc' := 11) zi_40_8 (nput_at hb (k := 16) rfl) rfl rfl kk) ?_
  refine zev_of (fun _ kk => zr_iload_n (pc' := 12) zi_40_11 rfl rfl kk) ?_
  refine zev_of (fun _ kk => zr_atN (pc' := 15) (by omega) zi_40_12 hb rfl rfl (by decide) rfl rfl kk) ?_
  rw [hs]
  refine zv_icmp (pc' := 18) zi_40_15 rfl (fun h15 => ?_) (fun h15 => ?_)
  · replace h15 := zc_ge_t (by omega) (by omega) h15
    refine zev_of (fun _ kk => zr_iconst (v := (-1)) (pc' := 47) zi_40_46 rfl rfl kk) ?_
    refine zev_ret (zr_ireturn zi_40_47 rfl) ?_
    refine ⟨_, .inl ⟨rfl, ?_⟩, rfl⟩
    rw [show a = p by omega]
    exact hpq
  · replace h15 := zc_ge_f (by omega) (by omega) h15
    refine zev_of (fun _ kk => zr_aload_n (pc' := 19) zi_40_18 rfl rfl kk) ?_
    refine zev_of (fun _ kk => zr_iload_n (pc' := 20) zi_40_19 rfl rfl kk) ?_
    refine zev_of (fun _ kk => zr_iload (pc' := 22) zi_40_20 rfl rfl kk) ?_
    refine zev_of (fun _ kk => zr_v2 (pc' := 25) zi_40_22 (nput_at hb (k := 16) rfl) rfl (c_slotIn hb _ _ (by omega)) rfl kk) ?_
    refine zev_of (fun _ kk => zr_iconst (v := (-1)) (pc' := 26) zi_40_25 rfl rfl kk) ?_
    refine zv_icmp (pc' := 29) zi_40_26 rfl (fun h26 => ?_) (fun h26 => ?_)
    · replace h26 := zc_ne_t h26
      refine zev_of (fun _ kk => zr_iinc (pc' := 43) zi_40_40 rfl (by first | exact n_inc _ | rfl) rfl rfl kk) ?_
      dsimp only [zst1, zst2, zkill, List.set, List.getElem?_cons_succ, List.getElem?_cons_zero]
      refine zev_of (fun _ kk => zr_goto zi_40_43 kk) ?_
      have ih := l_placeOfHole hb t a q ht hs ha hq (p + 1) (by omega)
      rw [zhol_f h26] at ih
      exact ih hpq
    · replace h26 := zc_ne_f h26
      refine zev_of (fun _ kk => zr_iload_n (pc' := 30) zi_40_29 rfl rfl kk) ?_
      refine zev_of (fun _ kk => zr_iload_n (pc' := 31) zi_40_30 rfl rfl kk) ?_
      refine zv_icmp (pc' := 34) zi_40_31 rfl (fun h31 => ?_) (fun h31 => ?_)
      · replace h31 := zc_ne_t h31
        refine zev_of (fun _ kk => zr_iinc (pc' := 40) zi_40_37 rfl (by first | exact n_inc _ | rfl) rfl rfl kk) ?_
        dsimp only [zst1, zst2, zkill, List.set, List.getElem?_cons_succ, List.getElem?_cons_zero]
        refine zev_of (fun _ kk => zr_iinc (pc' := 43) zi_40_40 rfl (by first | exact n_inc _ | rfl) rfl rfl kk) ?_
        dsimp only [zst1, zst2, zkill, List.set, List.getElem?_cons_succ, List.getElem?_cons_zero]
        refine zev_of (fun _ kk => zr_goto zi_40_43 kk) ?_
        have ih := l_placeOfHole hb t a q ht hs ha hq (p + 1) (by omega)
        rw [zhol_t h26] at ih
        have hz : zhol F t p ≤ p := zcnt_le _ _
        have : zhol F t p ≠ q := fun e => h31 (by rw [e])
        exact ih (by omega)
      · replace h31 := zc_ne_f h31
        refine zev_of (fun _ kk => zr_iload (pc' := 36) zi_40_34 rfl rfl kk) ?_
        refine zev_ret (zr_ireturn zi_40_36 rfl) ?_
        have hz : zhol F t p ≤ p := zcnt_le _ _
        exact ⟨_, .inr ⟨p, by omega, rfl, h26, (nI_eq (by omega) (by omega)).mp h31⟩, rfl⟩
termination_by a - p
theorem c_placeOfHole (hb : b + 71 ≤ h.length) (t a q : Nat) (ht : t < 20) (hs : F 7 t = nI a) (ha : a ≤ 8) (hq : q < 1000) : ∃ r, zpla F t a q r ∧ zcalls zTB 40 [.ref (b + 16), .int (nI t), .int (nI q)] (nput b F g h) (some (.int r), nput b F g h) := by
  refine zQi_out (zev_calls (Nat.le_of_ble_eq_true rfl) ?_)
  show zev 40 0 [some (.ref (b + 16)), some (.int (nI t)), some (.int (nI q)), none, none] [] _ _
  refine zev_of (fun _ kk => zr_iconst (v := (nI 0)) (pc' := 1) zi_40_0 rfl rfl kk) ?_
  refine zev_of (fun _ kk => zr_istore_n (pc' := 2) zi_40_1 (Nat.le_of_ble_eq_true rfl) rfl rfl kk) ?_
  dsimp only [zst1, zst2, zkill, List.set, List.getElem?_cons_succ, List.getElem?_cons_zero]
  refine zev_of (fun _ kk => zr_iconst (v := (nI 0)) (pc' := 3) zi_40_2 rfl rfl kk) ?_
  refine zev_of (fun _ kk => zr_istore (pc' := 5) zi_40_3 (Nat.le_of_ble_eq_true rfl) rfl rfl kk) ?_
  dsimp only [zst1, zst2, zkill, List.set, List.getElem?_cons_succ, List.getElem?_cons_zero]
  exact l_placeOfHole hb t a q ht hs ha hq 0 (by omega) (by exact Nat.zero_le _)
theorem c_placeOfNone (hb : b + 71 ≤ h.length) (q : Int32) : zcalls zTB 40 [.ref (b + 16), .int (-1), .int q] (nput b F g h) (some (.int (-1)), nput b F g h) := by
  refine zcalls_of (Nat.le_of_ble_eq_true rfl) ?_
  show zruns zTB 40 0 [some (.ref (b + 16)), some (.int (-1)), some (.int q), none, none] [] _ _
  refine zr_iconst (v := (nI 0)) (pc' := 1) zi_40_0 rfl rfl ?_
  refine zr_istore_n (pc' := 2) zi_40_1 (Nat.le_of_ble_eq_true rfl) rfl rfl ?_
  dsimp only [zst1, zst2, zkill, List.set, List.getElem?_cons_succ, List.getElem?_cons_zero]
  refine zr_iconst (v := (nI 0)) (pc' := 3) zi_40_2 rfl rfl ?_
  refine zr_istore (pc' := 5) zi_40_3 (Nat.le_of_ble_eq_true rfl) rfl rfl ?_
  dsimp only [zst1, zst2, zkill, List.set, List.getElem?_cons_succ, List.getElem?_cons_zero]
  refine zr_iload (pc' := 7) zi_40_5 rfl rfl ?_
  refine zr_aload_n (pc' := 8) zi_40_7 rfl rfl ?_
  refine zr_get (pc' := 11) zi_40_8 (nput_at hb (k := 16) rfl) rfl rfl ?_
  refine zr_iload_n (pc' := 12) zi_40_11 rfl rfl ?_
  refine zr_at (pc' := 15) zi_40_12 hb rfl rfl (by decide) rfl rfl ?_
  rw [rat_neg]
  refine zr_icmp (pc' := 18) zi_40_15 rfl (fun h15 => ?_) (fun h15 => ?_)
  · replace h15 := zx_ge_t h15
    refine zr_iconst (v := (-1)) (pc' := 47) zi_40_46 rfl rfl ?_
    exact zr_ireturn zi_40_47 rfl
  · replace h15 := zx_ge_f h15
    exact absurd h15 (by decide)
/-- at how many places a line has the word of a template -/
def zsm (F : Nat → Nat → Int32) (l t : Nat) : Nat → Nat := zcnt fun p => decide (F 4 (l * 8 + p) = F 8 (t * 8 + p))
theorem zsm_t {l t p : Nat} (e : F 4 (l * 8 + p) = F 8 (t * 8 + p)) : zsm F l t (p + 1) = zsm F l t p + 1 := zcnt_t (by simpa using e)
theorem zsm_f {l t p : Nat} (e : F 4 (l * 8 + p) ≠ F 8 (t * 8 + p)) : zsm F l t (p + 1) = zsm F l t p := zcnt_f (by simpa using e)
/-- likeness and 1 -/
def zak (F : Nat → Nat → Int32) (l t : Nat) : Nat := if F 3 l = F 7 t then zsm F l t (F 7 t).toNatClampNeg + 1 else 0
theorem l_likeness (hb : b + 71 ≤ h.length) (l t a : Nat) (hl : l < 70) (ht : t < 20) (ha : a ≤ 8) (p : Nat) (hp : p ≤ a) : zruns zTB 41 31 [some (.ref (b + 16)), some (.ref (b + 1)), some (.int (nI l)), some (.int (nI t)), some (.int (nI a)), some (.int (nI (zsm F l t p))), some (.int (nI p))] [] (nput b F g h) (some (.int (nI (zsm F l t a))), nput b F g h) := by
  refine zr_iload (pc' := 33) zi_41_31 rfl rfl ?_
  refine zr_iload (pc' := 35) zi_41_33 rfl rfl ?_
  refine zr_icmp (pc' := 38) zi_41_35 rfl (fun h35 => ?_) (fun h35 => ?_)
  · replace h35 := zc_ge_t (by omega) (by omega) h35
    refine zr_iload (pc' := 66) zi_41_64 rfl rfl ?_
    rw [show a = p by omega]
    exact zr_ireturn zi_41_66 rfl
  · replace h35 := zc_ge_f (by omega) (by omega) h35
    refine zr_aload_n (pc' := 39) zi_41_38 rfl rfl ?_
    refine zr_iload_n (pc' := 40) zi_41_39 rfl rfl ?_
    refine zr_iload (pc' := 42) zi_41_40 rfl rfl ?_
    refine zr_v2 (pc' := 45) zi_41_42 (nput_at hb (k := 1) rfl) rfl (c_wordIn hb _ _ (by omega)) rfl ?_
    refine zr_aload_n (pc' := 46) zi_41_45 rfl rfl ?_
    refine zr_iload_n (pc' := 47) zi_41_46 rfl rfl ?_
    refine zr_iload (pc' := 49) zi_41_47 rfl rfl ?_
    refine zr_v2 (pc' := 52) zi_41_49 (nput_at hb (k := 16) rfl) rfl (c_slotIn hb _ _ (by omega)) rfl ?_
    refine zr_icmp (pc' := 55) zi_41_52 rfl (fun h52 => ?_) (fun h52 => ?_)
    · replace h52 := zc_ne_t h52
      refine zr_iinc (pc' := 61) zi_41_58 rfl (by first | exact n_inc _ | rfl) rfl rfl ?_
      dsimp only [zst1, zst2, zkill, List.set, List.getElem?_cons_succ, List.getElem?_cons_zero]
      refine zr_goto zi_41_61 ?_
      have ih := l_likeness hb l t a hl ht ha (p + 1) (by omega)
      rw [zsm_f h52] at ih
      exact ih
    · replace h52 := zc_ne_f h52
      refine zr_iinc (pc' := 58) zi_41_55 rfl (by first | exact n_inc _ | rfl) rfl rfl ?_
      dsimp only [zst1, zst2, zkill, List.set, List.getElem?_cons_succ, List.getElem?_cons_zero]
      refine zr_iinc (pc' := 61) zi_41_58 rfl (by first | exact n_inc _ | rfl) rfl rfl ?_
      dsimp only [zst1, zst2, zkill, List.set, List.getElem?_cons_succ, List.getElem?_cons_zero]
      refine zr_goto zi_41_61 ?_
      have ih := l_likeness hb l t a hl ht ha (p + 1) (by omega)
      rw [zsm_t h52] at ih
      exact ih
termination_by a - p
theorem c_likeness (hb : b + 71 ≤ h.length) (l t a : Nat) (hl : l < 70) (ht : t < 20) (hs : F 7 t = nI a) (ha : a ≤ 8) : zcalls zTB 41 [.ref (b + 16), .ref (b + 1), .int (nI l), .int (nI t)] (nput b F g h) (some (.int (nI (zak F l t) - 1)), nput b F g h) := by
  refine zcalls_of (Nat.le_of_ble_eq_true rfl) ?_
  show zruns zTB 41 0 [some (.ref (b + 16)), some (.ref (b + 1)), some (.int (nI l)), some (.int (nI t)), none, none, none] [] _ _
  refine zr_aload_n (pc' := 1) zi_41_0 rfl rfl ?_
  refine zr_get (pc' := 4) zi_41_1 (nput_at hb (k := 16) rfl) rfl rfl ?_
  refine zr_iload_n (pc' := 5) zi_41_4 rfl rfl ?_
  refine zr_atN (pc' := 8) (by omega) zi_41_5 hb rfl rfl (by decide) rfl rfl ?_
  refine zr_istore (pc' := 10) zi_41_8 (Nat.le_of_ble_eq_true rfl) rfl rfl ?_
  dsimp only [zst1, zst2, zkill, List.set, List.getElem?_cons_succ, List.getElem?_cons_zero]
  refine zr_aload_n (pc' := 11) zi_41_10 rfl rfl ?_
  refine zr_get (pc' := 14) zi_41_11 (nput_at hb (k := 1) rfl) rfl rfl ?_
  refine zr_iload_n (pc' := 15) zi_41_14 rfl rfl ?_
  refine zr_atN (pc' := 18) (by omega) zi_41_15 hb rfl rfl (by decide) rfl rfl ?_
  refine zr_iload (pc' := 20) zi_41_18 rfl rfl ?_
  refine zr_icmp (pc' := 23) zi_41_20 rfl (fun h20 => ?_) (fun h20 => ?_)
  · replace h20 := zc_eq_t h20
    refine zr_iconst (v := (nI 0)) (pc' := 26) zi_41_25 rfl rfl ?_
    refine zr_istore (pc' := 28) zi_41_26 (Nat.le_of_ble_eq_true rfl) rfl rfl ?_
    dsimp only [zst1, zst2, zkill, List.set, List.getElem?_cons_succ, List.getElem?_cons_zero]
    refine zr_iconst (v := (nI 0)) (pc' := 29) zi_41_28 rfl rfl ?_
    refine zr_istore (pc' := 31) zi_41_29 (Nat.le_of_ble_eq_true rfl) rfl rfl ?_
    dsimp only [zst1, zst2, zkill, List.set, List.getElem?_cons_succ, List.getElem?_cons_zero]
    rw [zak, if_pos h20, hs, nI_clamp (by omega), nI_pred]
    exact l_likeness hb l t a hl ht ha 0 (by omega)
  · replace h20 := zc_eq_f h20
    refine zr_iconst (v := (-1)) (pc' := 24) zi_41_23 rfl rfl ?_
    rw [zak, if_neg h20]
    rw [show nI 0 - 1 = (-1 : Int32) from rfl]
    exact zr_ireturn zi_41_24 rfl
end
end
section
theorem zi_42_0 : zI 42 0 = some (.iconst (-1), []) := by decide +kernel
theorem zi_42_1 : zI 42 1 = some (.istore 4, []) := by decide +kernel
theorem zi_42_3 : zI 42 3 = some (.iconst (-1), []) := by decide +kernel
theorem zi_42_4 : zI 42 4 = some (.istore 5, []) := by decide +kernel
theorem zi_42_6 : zI 42 6 = some (.iconst 0, []) := by decide +kernel
theorem zi_42_7 : zI 42 7 = some (.istore 6, []) := by decide +kernel
theorem zi_42_9 : zI 42 9 = some (.iload 6, []) := by decide +kernel
theorem zi_42_11 : zI 42 11 = some (.aload_n 0, []) := by decide +kernel
theorem zi_42_12 : zI 42 12 = some (.getfield 37, [5, 2, 145]) := by decide +kernel
theorem zi_42_15 : zI 42 15 = some (.if_icmp .ge 34, [49]) := by decide +kernel
theorem zi_42_18 : zI 42 18 = some (.aload_n 0, []) := by decide +kernel
theorem zi_42_19 : zI 42 19 = some (.aload_n 1, []) := by decide +kernel
theorem zi_42_20 : zI 42 20 = some (.iload_n 2, []) := by decide +kernel
theorem zi_42_21 : zI 42 21 = some (.iload 6, []) := by decide +kernel
theorem zi_42_23 : zI 42 23 = some (.invokevirtual 41, [41, 0, 3, 5, 148, 149, 139, 147, 0, 146]) := by decide +kernel
theorem zi_42_26 : zI 42 26 = some (.istore 7, []) := by decide +kernel
theorem zi_42_28 : zI 42 28 = some (.iload 7, []) := by decide +kernel
theorem zi_42_30 : zI 42 30 = some (.iload 5, []) := by decide +kernel
theorem zi_42_32 : zI 42 32 = some (.if_icmp .le 11, [43]) := by decide +kernel
theorem zi_42_35 : zI 42 35 = some (.iload 7, []) := by decide +kernel
theorem zi_42_37 : zI 42 37 = some (.istore 5, []) := by decide +kernel
theorem zi_42_39 : zI 42 39 = some (.iload 6, []) := by decide +kernel
theorem zi_42_41 : zI 42 41 = some (.istore 4, []) := by decide +kernel
theorem zi_42_43 : zI 42 43 = some (.iinc 6 1, []) := by decide +kernel
theorem zi_42_46 : zI 42 46 = some (.goto (-37), [9]) := by decide +kernel
theorem zi_42_49 : zI 42 49 = some (.aload_n 1, []) := by decide +kernel
theorem zi_42_50 : zI 42 50 = some (.getfield 31, [0, 3, 140]) := by decide +kernel
theorem zi_42_53 : zI 42 53 = some (.iload_n 2, []) := by decide +kernel
theorem zi_42_54 : zI 42 54 = some (.invokevirtual 23, [0, 0, 1, 1, 10, 11, 12, 9, 0, 33]) := by decide +kernel
theorem zi_42_57 : zI 42 57 = some (.iload_n 3, []) := by decide +kernel
theorem zi_42_58 : zI 42 58 = some (.imul, []) := by decide +kernel
theorem zi_42_59 : zI 42 59 = some (.bipush 99, []) := by decide +kernel
theorem zi_42_61 : zI 42 61 = some (.iadd, []) := by decide +kernel
theorem zi_42_62 : zI 42 62 = some (.bipush 100, []) := by decide +kernel
theorem zi_42_64 : zI 42 64 = some (.idiv, []) := by decide +kernel
theorem zi_42_65 : zI 42 65 = some (.istore 6, []) := by decide +kernel
theorem zi_42_67 : zI 42 67 = some (.iload 4, []) := by decide +kernel
theorem zi_42_69 : zI 42 69 = some (.iconst (-1), []) := by decide +kernel
theorem zi_42_70 : zI 42 70 = some (.if_icmp .eq 13, [83]) := by decide +kernel
theorem zi_42_73 : zI 42 73 = some (.iload 5, []) := by decide +kernel
theorem zi_42_75 : zI 42 75 = some (.iload 6, []) := by decide +kernel
theorem zi_42_77 : zI 42 77 = some (.if_icmp .lt 6, [83]) := by decide +kernel
theorem zi_42_80 : zI 42 80 = some (.iload 4, []) := by decide +kernel
theorem zi_42_82 : zI 42 82 = some (.ireturn, []) := by decide +kernel
theorem zi_42_83 : zI 42 83 = some (.aload_n 0, []) := by decide +kernel
theorem zi_42_84 : zI 42 84 = some (.getfield 37, [5, 2, 145]) := by decide +kernel
theorem zi_42_87 : zI 42 87 = some (.bipush 20, []) := by decide +kernel
theorem zi_42_89 : zI 42 89 = some (.if_icmp .ge 10, [99]) := by decide +kernel
theorem zi_42_92 : zI 42 92 = some (.aload_n 0, []) := by decide +kernel
theorem zi_42_93 : zI 42 93 = some (.getfield 37, [5, 2, 145]) := by decide +kernel
theorem zi_42_96 : zI 42 96 = some (.goto 4, [100]) := by decide +kernel
theorem zi_42_99 : zI 42 99 = some (.iconst (-1), []) := by decide +kernel
theorem zi_42_100 : zI 42 100 = some (.ireturn, []) := by decide +kernel
/-! learning a line -/
section
variable {b : Nat} {F : Nat → Nat → Int32} {g : Nat → Nat} {h : zH}
theorem zak_le {l t a : Nat} (hs : F 7 t = nI a) (ha : a ≤ 8) : zak F l t ≤ 9 := by
  unfold zak
  split
  · rw [hs, nI_clamp (by omega)]
    have : zsm F l t a ≤ a := zcnt_le _ _
    omega
  · omega
/-- what is chosen for a line of c words -/
def zcho (F : Nat → Nat → Int32) (T l c s : Nat) (r : Int32) : Prop :=
  (∃ t, t < T ∧ r = nI t ∧ 0 < zak F l t ∧ c * s ≤ 100 * (zak F l t - 1) ∧ (∀ u, u < T → zak F l u ≤ zak F l t) ∧ ∀ u, u < t → zak F l u < zak F l t) ∨
  ((∀ t, t < T → zak F l t = 0 ∨ 100 * (zak F l t - 1) < c * s) ∧ r = if T < 20 then nI T else -1)
/-- the best of the first i, and its likeness and 1 -/
def zbst (F : Nat → Nat → Int32) (l i B M : Nat) : Prop := (∀ t, t < i → zak F l t ≤ M) ∧ (M = 0 → B = 0) ∧ (0 < M → ∃ t, t < i ∧ B = t + 1 ∧ zak F l t = M ∧ ∀ u, u < t → zak F l u < M)
theorem zbst_none {l i B M : Nat} (hB : zbst F l i B M) (h20 : B ≤ 20) (e : nI B - 1 = -1) : M = 0 := by
  rcases Nat.eq_zero_or_pos M with q | q
  · exact q
  · obtain ⟨t, h1, h2, _⟩ := hB.2.2 q
    rw [h2, nI_pred] at e
    exact absurd e (nI_neg (by omega))
theorem zbst_lt {M c s : Nat} (hM : M ≤ 9) (hcs : c * s ≤ 800) (e : nI M - 1 < nI ((c * s + 99) / 100)) : M = 0 ∨ 100 * (M - 1) < c * s := by
  cases M with
  | zero => exact .inl rfl
  | succ M =>
    rw [nI_pred] at e
    have := (nI_ltI (by omega) (by omega)).mp e
    omega
theorem zbst_ge {M c s : Nat} (hM : M ≤ 9) (hcs : c * s ≤ 800) (h0 : 0 < M) (e : ¬ nI M - 1 < nI ((c * s + 99) / 100)) : c * s ≤ 100 * (M - 1) := by
  cases M with
  | zero => omega
  | succ M =>
    rw [nI_pred] at e
    have := Nat.le_of_not_lt fun q => e ((nI_ltI (by omega) (by omega)).mpr q)
    rw [Nat.add_sub_cancel]
    omega
theorem l_choose (hb : b + 71 ≤ h.length) (l c s : Nat) (hl : l < 70) (hc : F 3 l = nI c) (hc8 : c ≤ 8) (hs1 : s ≤ 100) (hT : g 2 ≤ 20) (hsz : ∀ t, t < g 2 → ∃ a, a ≤ 8 ∧ F 7 t = nI a) (i B M : Nat) (hi : i ≤ g 2) (hM : M ≤ 9) (hB : zbst F l i B M) (X : Option Value) : zev 42 9 [some (.ref (b + 16)), some (.ref (b + 1)), some (.int (nI l)), some (.int (nI s)), some (.int (nI B - 1)), some (.int (nI M - 1)), some (.int (nI i)), X] [] (nput b F g h) (zQi (nput b F g h) (zcho F (g 2) l c s)) := by
  have hB20 : B ≤ 20 := by
    rcases Nat.eq_zero_or_pos M with q | q
    · rw [hB.2.1 q]; omega
    · obtain ⟨t, h1, h2, _⟩ := hB.2.2 q
      omega
  refine zev_of (fun _ kk => zr_iload (pc' := 11) zi_42_9 rfl rfl kk) ?_
  refine zev_of (fun _ kk => zr_aload_n (pc' := 12) zi_42_11 rfl rfl kk) ?_
  refine zev_of (fun _ kk => zr_get (pc' := 15) zi_42_12 (nput_at hb (k := 16) rfl) rfl rfl kk) ?_
  refine zv_icmp (pc' := 18) zi_42_15 rfl (fun h15 => ?_) (fun h15 => ?_)
  · replace h15 := zc_ge_t (by omega) (by omega) h15
    refine zev_of (fun _ kk => zr_aload_n (pc' := 50) zi_42_49 rfl rfl kk) ?_
    refine zev_of (fun _ kk => zr_get (pc' := 53) zi_42_50 (nput_at hb (k := 1) rfl) rfl rfl kk) ?_
    refine zev_of (fun _ kk => zr_iload_n (pc' := 54) zi_42_53 rfl rfl kk) ?_
    refine zev_of (fun _ kk => zr_atN (pc' := 57) (by omega) zi_42_54 hb rfl rfl (by decide) rfl rfl kk) ?_
    rw [hc]
    refine zev_of (fun _ kk => zr_iload_n (pc' := 58) zi_42_57 rfl rfl kk) ?_
    refine zev_of (fun _ kk => zr_imul (pc' := 59) zi_42_58 (by first | exact pk_mul _ _ | rfl) rfl kk) ?_
    refine zev_of (fun _ kk => zr_bipush (v := (nI 99)) (pc' := 61) zi_42_59 rfl rfl kk) ?_
    refine zev_of (fun _ kk => zr_iadd (pc' := 62) zi_42_61 (by first | exact nI_add _ _ | rfl) rfl kk) ?_
    refine zev_of (fun _ kk => zr_bipush (v := (nI 100)) (pc' := 64) zi_42_62 rfl rfl kk) ?_
    have hdv : nI (c * s + 99) / nI 100 = nI ((c * s + 99) / 100) := pk_div (by have := Nat.mul_le_mul hc8 hs1; omega) (by omega) (by omega)
    refine zev_of (fun _ kk => zr_idiv (pc' := 65) zi_42_64 (by decide) hdv rfl kk) ?_
    refine zev_of (fun _ kk => zr_istore (pc' := 67) zi_42_65 (Nat.le_of_ble_eq_true rfl) rfl rfl kk) ?_
    dsimp only [zst1, zst2, zkill, List.set, List.getElem?_cons_succ, List.getElem?_cons_zero]
    refine zev_of (fun _ kk => zr_iload (pc' := 69) zi_42_67 rfl rfl kk) ?_
    refine zev_of (fun _ kk => zr_iconst (v := (-1)) (pc' := 70) zi_42_69 rfl rfl kk) ?_
    refine zv_icmp (pc' := 73) zi_42_70 rfl (fun h70 => ?_) (fun h70 => ?_)
    · replace h70 := zc_eq_t h70
      refine zev_of (fun _ kk => zr_aload_n (pc' := 84) zi_42_83 rfl rfl kk) ?_
      refine zev_of (fun _ kk => zr_get (pc' := 87) zi_42_84 (nput_at hb (k := 16) rfl) rfl rfl kk) ?_
      refine zev_of (fun _ kk => zr_bipush (v := (nI 20)) (pc' := 89) zi_42_87 rfl rfl kk) ?_
      refine zv_icmp (pc' := 92) zi_42_89 rfl (fun h89 => ?_) (fun h89 => ?_)
      · replace h89 := zc_ge_t (by omega) (by omega) h89
        refine zev_of (fun _ kk => zr_iconst (v := (-1)) (pc' := 100) zi_42_99 rfl rfl kk) ?_
        refine zev_ret (zr_ireturn zi_42_100 rfl) ?_
        exact ⟨_, .inr ⟨fun t ht => .inl (by have := hB.1 t (by omega); have := zbst_none hB (by omega) h70; omega), by rw [if_neg (by omega)]⟩, rfl⟩
      · replace h89 := zc_ge_f (by omega) (by omega) h89
        refine zev_of (fun _ kk => zr_aload_n (pc' := 93) zi_42_92 rfl rfl kk) ?_
        refine zev_of (fun _ kk => zr_get (pc' := 96) zi_42_93 (nput_at hb (k := 16) rfl) rfl rfl kk) ?_
        refine zev_of (fun _ kk => zr_goto zi_42_96 kk) ?_
        refine zev_ret (zr_ireturn zi_42_100 rfl) ?_
        exact ⟨_, .inr ⟨fun t ht => .inl (by have := hB.1 t (by omega); have := zbst_none hB (by omega) h70; omega), by rw [if_pos (by omega)]⟩, rfl⟩
    · replace h70 := zc_eq_f h70
      refine zev_of (fun _ kk => zr_iload (pc' := 75) zi_42_73 rfl rfl kk) ?_
      refine zev_of (fun _ kk => zr_iload (pc' := 77) zi_42_75 rfl rfl kk) ?_
      refine zv_icmp (pc' := 80) zi_42_77 rfl (fun h77 => ?_) (fun h77 => ?_)
      · replace h77 := zx_lt_t h77
        refine zev_of (fun _ kk => zr_aload_n (pc' := 84) zi_42_83 rfl rfl kk) ?_
        refine zev_of (fun _ kk => zr_get (pc' := 87) zi_42_84 (nput_at hb (k := 16) rfl) rfl rfl kk) ?_
        refine zev_of (fun _ kk => zr_bipush (v := (nI 20)) (pc' := 89) zi_42_87 rfl rfl kk) ?_
        refine zv_icmp (pc' := 92) zi_42_89 rfl (fun h89 => ?_) (fun h89 => ?_)
        · replace h89 := zc_ge_t (by omega) (by omega) h89
          refine zev_of (fun _ kk => zr_iconst (v := (-1)) (pc' := 100) zi_42_99 rfl rfl kk) ?_
          refine zev_ret (zr_ireturn zi_42_100 rfl) ?_
          refine ⟨_, .inr ⟨fun t ht => ?_, by rw [if_neg (by omega)]⟩, rfl⟩
          have h1 := hB.1 t (by omega)
          have h2 := zbst_lt (by omega) (by have := Nat.mul_le_mul hc8 hs1; omega) h77
          omega
        · replace h89 := zc_ge_f (by omega) (by omega) h89
          refine zev_of (fun _ kk => zr_aload_n (pc' := 93) zi_42_92 rfl rfl kk) ?_
          refine zev_of (fun _ kk => zr_get (pc' := 96) zi_42_93 (nput_at hb (k := 16) rfl) rfl rfl kk) ?_
          refine zev_of (fun _ kk => zr_goto zi_42_96 kk) ?_
          refine zev_ret (zr_ireturn zi_42_100 rfl) ?_
          refine ⟨_, .inr ⟨fun t ht => ?_, by rw [if_pos (by omega)]⟩, rfl⟩
          have h1 := hB.1 t (by omega)
          have h2 := zbst_lt (by omega) (by have := Nat.mul_le_mul hc8 hs1; omega) h77
          omega
      · replace h77 := zx_lt_f h77
        refine zev_of (fun _ kk => zr_iload (pc' := 82) zi_42_80 rfl rfl kk) ?_
        refine zev_ret (zr_ireturn zi_42_82 rfl) ?_
        have hM0 : 0 < M := by
          rcases Nat.eq_zero_or_pos M with q | q
          · rw [hB.2.1 q] at h70
            exact absurd rfl h70
          · exact q
        obtain ⟨t, h1, h2, h3, h4⟩ := hB.2.2 hM0
        have h5 := zbst_ge (by omega) (by have := Nat.mul_le_mul hc8 hs1; omega) hM0 h77
        exact ⟨_, .inl ⟨t, by omega, by rw [h2, nI_pred], by omega, by omega, fun u hu => h3 ▸ hB.1 u (by omega), fun u hu => h3 ▸ h4 u hu⟩, rfl⟩
  · replace h15 := zc_ge_f (by omega) (by omega) h15
    refine zev_of (fun _ kk => zr_aload_n (pc' := 19) zi_42_18 rfl rfl kk) ?_
    refine zev_of (fun _ kk => zr_aload_n (pc' := 20) zi_42_19 rfl rfl kk) ?_
    refine zev_of (fun _ kk => zr_iload_n (pc' := 21) zi_42_20 rfl rfl kk) ?_
    refine zev_of (fun _ kk => zr_iload (pc' := 23) zi_42_21 rfl rfl kk) ?_
    obtain ⟨a, ha, hs⟩ := hsz i (by omega)
    have ha9 := zak_le (l := l) hs ha
    refine zev_of (fun _ kk => zr_v3 (pc' := 26) zi_42_23 (nput_at hb (k := 16) rfl) rfl (c_likeness hb l i a hl (by omega) hs ha) rfl kk) ?_
    refine zev_of (fun _ kk => zr_istore (pc' := 28) zi_42_26 (Nat.le_of_ble_eq_true rfl) rfl rfl kk) ?_
    dsimp only [zst1, zst2, zkill, List.set, List.getElem?_cons_succ, List.getElem?_cons_zero]
    refine zev_of (fun _ kk => zr_iload (pc' := 30) zi_42_28 rfl rfl kk) ?_
    refine zev_of (fun _ kk => zr_iload (pc' := 32) zi_42_30 rfl rfl kk) ?_
    refine zv_icmp (pc' := 35) zi_42_32 rfl (fun h32 => ?_) (fun h32 => ?_)
    · replace h32 := zx_le_t h32
      refine zev_of (fun _ kk => zr_iinc (pc' := 46) zi_42_43 rfl (by first | exact n_inc _ | rfl) rfl rfl kk) ?_
      dsimp only [zst1, zst2, zkill, List.set, List.getElem?_cons_succ, List.getElem?_cons_zero]
      refine zev_of (fun _ kk => zr_goto zi_42_46 kk) ?_
      have h2 := (nI_m1 (by omega) (by omega)).mp h32
      exact l_choose hb l c s hl hc hc8 hs1 hT hsz (i + 1) B M (by omega) hM ⟨fun t ht => by
        rcases Nat.lt_or_ge t i with q | q
        · exact hB.1 t q
        · exact (show t = i by omega) ▸ h2, hB.2.1, fun q => by
        obtain ⟨t, h1, h2⟩ := hB.2.2 q
        exact ⟨t, by omega, h2⟩⟩ _
    · replace h32 := zx_le_f h32
      refine zev_of (fun _ kk => zr_iload (pc' := 37) zi_42_35 rfl rfl kk) ?_
      refine zev_of (fun _ kk => zr_istore (pc' := 39) zi_42_37 (Nat.le_of_ble_eq_true rfl) rfl rfl kk) ?_
      dsimp only [zst1, zst2, zkill, List.set, List.getElem?_cons_succ, List.getElem?_cons_zero]
      refine zev_of (fun _ kk => zr_iload (pc' := 41) zi_42_39 rfl rfl kk) ?_
      refine zev_of (fun _ kk => zr_istore (pc' := 43) zi_42_41 (Nat.le_of_ble_eq_true rfl) rfl rfl kk) ?_
      dsimp only [zst1, zst2, zkill, List.set, List.getElem?_cons_succ, List.getElem?_cons_zero]
      refine zev_of (fun _ kk => zr_iinc (pc' := 46) zi_42_43 rfl (by first | exact n_inc _ | rfl) rfl rfl kk) ?_
      dsimp only [zst1, zst2, zkill, List.set, List.getElem?_cons_succ, List.getElem?_cons_zero]
      refine zev_of (fun _ kk => zr_goto zi_42_46 kk) ?_
      have h2 := Nat.lt_of_not_le fun q => h32 ((nI_m1 (by omega) (by omega)).mpr q)
      have ih := l_choose hb l c s hl hc hc8 hs1 hT hsz (i + 1) (i + 1) (zak F l i) (by omega) (by omega) ⟨fun t ht => by
        rcases Nat.lt_or_ge t i with q | q
        · have := hB.1 t q
          omega
        · exact Nat.le_of_eq ((show t = i by omega) ▸ rfl), fun q => by omega, fun _ => ⟨i, by omega, rfl, rfl, fun u hu => by have := hB.1 u hu; omega⟩⟩ (some (.int (nI (zak F l i) - 1)))
      rw [nI_pred] at ih
      exact ih
termination_by g 2 - i
theorem c_choose (hb : b + 71 ≤ h.length) (l c s : Nat) (hl : l < 70) (hc : F 3 l = nI c) (hc8 : c ≤ 8) (hs1 : s ≤ 100) (hT : g 2 ≤ 20) (hsz : ∀ t, t < g 2 → ∃ a, a ≤ 8 ∧ F 7 t = nI a) : ∃ r, zcho F (g 2) l c s r ∧ zcalls zTB 42 [.ref (b + 16), .ref (b + 1), .int (nI l), .int (nI s)] (nput b F g h) (some (.int r), nput b F g h) := by
  refine zQi_out (zev_calls (Nat.le_of_ble_eq_true rfl) ?_)
  show zev 42 0 [some (.ref (b + 16)), some (.ref (b + 1)), some (.int (nI l)), some (.int (nI s)), none, none, none, none] [] _ _
  refine zev_of (fun _ kk => zr_iconst (v := (-1)) (pc' := 1) zi_42_0 rfl rfl kk) ?_
  refine zev_of (fun _ kk => zr_istore (pc' := 3) zi_42_1 (Nat.le_of_ble_eq_true rfl) rfl rfl kk) ?_
  dsimp only [zst1, zst2, zkill, List.set, List.getElem?_cons_succ, List.getElem?_cons_zero]
  refine zev_of (fun _ kk => zr_iconst (v := (-1)) (pc' := 4) zi_42_3 rfl rfl kk) ?_
  refine zev_of (fun _ kk => zr_istore (pc' := 6) zi_42_4 (Nat.le_of_ble_eq_true rfl) rfl rfl kk) ?_
  dsimp only [zst1, zst2, zkill, List.set, List.getElem?_cons_succ, List.getElem?_cons_zero]
  refine zev_of (fun _ kk => zr_iconst (v := (nI 0)) (pc' := 7) zi_42_6 rfl rfl kk) ?_
  refine zev_of (fun _ kk => zr_istore (pc' := 9) zi_42_7 (Nat.le_of_ble_eq_true rfl) rfl rfl kk) ?_
  dsimp only [zst1, zst2, zkill, List.set, List.getElem?_cons_succ, List.getElem?_cons_zero]
  exact l_choose hb l c s hl hc hc8 hs1 hT hsz 0 0 0 (by omega) (by omega) ⟨fun t ht => absurd ht (by omega), fun _ => rfl, fun q => absurd q (by omega)⟩ none
end
end
section
theorem zi_43_0 : zI 43 0 = some (.aload_n 0, []) := by decide +kernel
theorem zi_43_1 : zI 43 1 = some (.aload_n 1, []) := by decide +kernel
theorem zi_43_2 : zI 43 2 = some (.iload_n 2, []) := by decide +kernel
theorem zi_43_3 : zI 43 3 = some (.iload_n 3, []) := by decide +kernel
theorem zi_43_4 : zI 43 4 = some (.invokevirtual 45, [42, 0, 3, 5, 152, 153, 139, 151, 0, 150]) := by decide +kernel
theorem zi_43_7 : zI 43 7 = some (.istore 4, []) := by decide +kernel
theorem zi_43_9 : zI 43 9 = some (.iload 4, []) := by decide +kernel
theorem zi_43_11 : zI 43 11 = some (.iconst (-1), []) := by decide +kernel
theorem zi_43_12 : zI 43 12 = some (.if_icmp .ne 5, [17]) := by decide +kernel
theorem zi_43_15 : zI 43 15 = some (.iconst (-1), []) := by decide +kernel
theorem zi_43_16 : zI 43 16 = some (.ireturn, []) := by decide +kernel
theorem zi_43_17 : zI 43 17 = some (.iload 4, []) := by decide +kernel
theorem zi_43_19 : zI 43 19 = some (.aload_n 0, []) := by decide +kernel
theorem zi_43_20 : zI 43 20 = some (.getfield 37, [5, 2, 145]) := by decide +kernel
theorem zi_43_23 : zI 43 23 = some (.if_icmp .ne 12, [35]) := by decide +kernel
theorem zi_43_26 : zI 43 26 = some (.aload_n 0, []) := by decide +kernel
theorem zi_43_27 : zI 43 27 = some (.aload_n 1, []) := by decide +kernel
theorem zi_43_28 : zI 43 28 = some (.iload_n 2, []) := by decide +kernel
theorem zi_43_29 : zI 43 29 = some (.invokevirtual 48, [92, 0, 2, 5, 156, 157, 139, 155, 0, 154]) := by decide +kernel
theorem zi_43_32 : zI 43 32 = some (.goto 11, [43]) := by decide +kernel
theorem zi_43_35 : zI 43 35 = some (.aload_n 0, []) := by decide +kernel
theorem zi_43_36 : zI 43 36 = some (.aload_n 1, []) := by decide +kernel
theorem zi_43_37 : zI 43 37 = some (.iload_n 2, []) := by decide +kernel
theorem zi_43_38 : zI 43 38 = some (.iload 4, []) := by decide +kernel
theorem zi_43_40 : zI 43 40 = some (.invokevirtual 52, [93, 0, 3, 5, 160, 161, 139, 159, 0, 158]) := by decide +kernel
theorem zi_43_43 : zI 43 43 = some (.iload 4, []) := by decide +kernel
theorem zi_43_45 : zI 43 45 = some (.ireturn, []) := by decide +kernel
theorem zi_61_0 : zI 61 0 = some (.aload_n 0, []) := by decide +kernel
theorem zi_61_1 : zI 61 1 = some (.getfield 38, [0, 7, 231]) := by decide +kernel
theorem zi_61_4 : zI 61 4 = some (.istore 4, []) := by decide +kernel
theorem zi_61_6 : zI 61 6 = some (.aload_n 0, []) := by decide +kernel
theorem zi_61_7 : zI 61 7 = some (.getfield 14, [0, 0, 115]) := by decide +kernel
theorem zi_61_10 : zI 61 10 = some (.iload 4, []) := by decide +kernel
theorem zi_61_12 : zI 61 12 = some (.iload_n 1, []) := by decide +kernel
theorem zi_61_13 : zI 61 13 = some (.invokevirtual 42, [1, 0, 2, 1, 234, 235, 12, 233, 0, 232]) := by decide +kernel
theorem zi_61_16 : zI 61 16 = some (.aload_n 0, []) := by decide +kernel
theorem zi_61_17 : zI 61 17 = some (.getfield 20, [0, 1, 121]) := by decide +kernel
theorem zi_61_20 : zI 61 20 = some (.iload 4, []) := by decide +kernel
theorem zi_61_22 : zI 61 22 = some (.iload_n 2, []) := by decide +kernel
theorem zi_61_23 : zI 61 23 = some (.invokevirtual 42, [1, 0, 2, 1, 234, 235, 12, 233, 0, 232]) := by decide +kernel
theorem zi_61_26 : zI 61 26 = some (.aload_n 0, []) := by decide +kernel
theorem zi_61_27 : zI 61 27 = some (.getfield 23, [0, 2, 229]) := by decide +kernel
theorem zi_61_30 : zI 61 30 = some (.iload 4, []) := by decide +kernel
theorem zi_61_32 : zI 61 32 = some (.iload_n 3, []) := by decide +kernel
theorem zi_61_33 : zI 61 33 = some (.invokevirtual 42, [1, 0, 2, 1, 234, 235, 12, 233, 0, 232]) := by decide +kernel
theorem zi_61_36 : zI 61 36 = some (.aload_n 0, []) := by decide +kernel
theorem zi_61_37 : zI 61 37 = some (.getfield 26, [0, 3, 230]) := by decide +kernel
theorem zi_61_40 : zI 61 40 = some (.iload 4, []) := by decide +kernel
theorem zi_61_42 : zI 61 42 = some (.iconst 0, []) := by decide +kernel
theorem zi_61_43 : zI 61 43 = some (.invokevirtual 42, [1, 0, 2, 1, 234, 235, 12, 233, 0, 232]) := by decide +kernel
theorem zi_61_46 : zI 61 46 = some (.aload_n 0, []) := by decide +kernel
theorem zi_61_47 : zI 61 47 = some (.getfield 32, [0, 5, 119]) := by decide +kernel
theorem zi_61_50 : zI 61 50 = some (.iload 4, []) := by decide +kernel
theorem zi_61_52 : zI 61 52 = some (.iconst (-1), []) := by decide +kernel
theorem zi_61_53 : zI 61 53 = some (.invokevirtual 42, [1, 0, 2, 1, 234, 235, 12, 233, 0, 232]) := by decide +kernel
theorem zi_61_56 : zI 61 56 = some (.aload_n 0, []) := by decide +kernel
theorem zi_61_57 : zI 61 57 = some (.iload 4, []) := by decide +kernel
theorem zi_61_59 : zI 61 59 = some (.iconst 1, []) := by decide +kernel
theorem zi_61_60 : zI 61 60 = some (.iadd, []) := by decide +kernel
theorem zi_61_61 : zI 61 61 = some (.putfield 38, [0, 7, 0, 231]) := by decide +kernel
theorem zi_61_64 : zI 61 64 = some (.iload 4, []) := by decide +kernel
theorem zi_61_66 : zI 61 66 = some (.ireturn, []) := by decide +kernel
theorem zi_62_0 : zI 62 0 = some (.aload_n 0, []) := by decide +kernel
theorem zi_62_1 : zI 62 1 = some (.getfield 26, [0, 3, 230]) := by decide +kernel
theorem zi_62_4 : zI 62 4 = some (.iload_n 1, []) := by decide +kernel
theorem zi_62_5 : zI 62 5 = some (.invokevirtual 46, [0, 0, 1, 1, 10, 11, 12, 9, 0, 8]) := by decide +kernel
theorem zi_62_8 : zI 62 8 = some (.istore_n 3, []) := by decide +kernel
theorem zi_62_9 : zI 62 9 = some (.aload_n 0, []) := by decide +kernel
theorem zi_62_10 : zI 62 10 = some (.getfield 29, [0, 4, 7]) := by decide +kernel
theorem zi_62_13 : zI 62 13 = some (.iload_n 1, []) := by decide +kernel
theorem zi_62_14 : zI 62 14 = some (.bipush 8, []) := by decide +kernel
theorem zi_62_16 : zI 62 16 = some (.imul, []) := by decide +kernel
theorem zi_62_17 : zI 62 17 = some (.iload_n 3, []) := by decide +kernel
theorem zi_62_18 : zI 62 18 = some (.iadd, []) := by decide +kernel
theorem zi_62_19 : zI 62 19 = some (.iload_n 2, []) := by decide +kernel
theorem zi_62_20 : zI 62 20 = some (.invokevirtual 42, [1, 0, 2, 1, 234, 235, 12, 233, 0, 232]) := by decide +kernel
theorem zi_62_23 : zI 62 23 = some (.aload_n 0, []) := by decide +kernel
theorem zi_62_24 : zI 62 24 = some (.getfield 26, [0, 3, 230]) := by decide +kernel
theorem zi_62_27 : zI 62 27 = some (.iload_n 1, []) := by decide +kernel
theorem zi_62_28 : zI 62 28 = some (.iload_n 3, []) := by decide +kernel
theorem zi_62_29 : zI 62 29 = some (.iconst 1, []) := by decide +kernel
theorem zi_62_30 : zI 62 30 = some (.iadd, []) := by decide +kernel
theorem zi_62_31 : zI 62 31 = some (.invokevirtual 42, [1, 0, 2, 1, 234, 235, 12, 233, 0, 232]) := by decide +kernel
theorem zi_62_34 : zI 62 34 = some (.iload_n 3, []) := by decide +kernel
theorem zi_62_35 : zI 62 35 = some (.iconst 1, []) := by decide +kernel
theorem zi_62_36 : zI 62 36 = some (.iadd, []) := by decide +kernel
theorem zi_62_37 : zI 62 37 = some (.ireturn, []) := by decide +kernel
theorem zi_64_0 : zI 64 0 = some (.iconst 0, []) := by decide +kernel
theorem zi_64_1 : zI 64 1 = some (.istore_n 2, []) := by decide +kernel
theorem zi_64_2 : zI 64 2 = some (.iload_n 2, []) := by decide +kernel
theorem zi_64_3 : zI 64 3 = some (.aload_n 0, []) := by decide +kernel
theorem zi_64_4 : zI 64 4 = some (.getfield 38, [0, 7, 231]) := by decide +kernel
theorem zi_64_7 : zI 64 7 = some (.if_icmp .ge 46, [53]) := by decide +kernel
theorem zi_64_10 : zI 64 10 = some (.aload_n 1, []) := by decide +kernel
theorem zi_64_11 : zI 64 11 = some (.aload_n 0, []) := by decide +kernel
theorem zi_64_12 : zI 64 12 = some (.getfield 32, [0, 5, 119]) := by decide +kernel
theorem zi_64_15 : zI 64 15 = some (.iload_n 2, []) := by decide +kernel
theorem zi_64_16 : zI 64 16 = some (.invokevirtual 46, [0, 0, 1, 1, 10, 11, 12, 9, 0, 8]) := by decide +kernel
theorem zi_64_19 : zI 64 19 = some (.iconst 0, []) := by decide +kernel
theorem zi_64_20 : zI 64 20 = some (.invokevirtual 53, [40, 0, 2, 5, 238, 239, 139, 237, 0, 236]) := by decide +kernel
theorem zi_64_23 : zI 64 23 = some (.istore_n 3, []) := by decide +kernel
theorem zi_64_24 : zI 64 24 = some (.aload_n 0, []) := by decide +kernel
theorem zi_64_25 : zI 64 25 = some (.getfield 35, [0, 6, 120]) := by decide +kernel
theorem zi_64_28 : zI 64 28 = some (.iload_n 2, []) := by decide +kernel
theorem zi_64_29 : zI 64 29 = some (.iload_n 3, []) := by decide +kernel
theorem zi_64_30 : zI 64 30 = some (.iconst (-1), []) := by decide +kernel
theorem zi_64_31 : zI 64 31 = some (.if_icmp .ne 7, [38]) := by decide +kernel
theorem zi_64_34 : zI 64 34 = some (.iconst (-1), []) := by decide +kernel
theorem zi_64_35 : zI 64 35 = some (.goto 9, [44]) := by decide +kernel
theorem zi_64_38 : zI 64 38 = some (.aload_n 0, []) := by decide +kernel
theorem zi_64_39 : zI 64 39 = some (.iload_n 2, []) := by decide +kernel
theorem zi_64_40 : zI 64 40 = some (.iload_n 3, []) := by decide +kernel
theorem zi_64_41 : zI 64 41 = some (.invokevirtual 59, [8, 0, 2, 0, 143, 144, 53, 142, 0, 240]) := by decide +kernel
theorem zi_64_44 : zI 64 44 = some (.invokevirtual 42, [1, 0, 2, 1, 234, 235, 12, 233, 0, 232]) := by decide +kernel
theorem zi_64_47 : zI 64 47 = some (.iinc 2 1, []) := by decide +kernel
theorem zi_64_50 : zI 64 50 = some (.goto (-48), [2]) := by decide +kernel
theorem zi_64_53 : zI 64 53 = some (.return_, []) := by decide +kernel
theorem zi_92_0 : zI 92 0 = some (.aload_n 1, []) := by decide +kernel
theorem zi_92_1 : zI 92 1 = some (.getfield 31, [0, 3, 140]) := by decide +kernel
theorem zi_92_4 : zI 92 4 = some (.iload_n 2, []) := by decide +kernel
theorem zi_92_5 : zI 92 5 = some (.invokevirtual 23, [0, 0, 1, 1, 10, 11, 12, 9, 0, 33]) := by decide +kernel
theorem zi_92_8 : zI 92 8 = some (.istore_n 3, []) := by decide +kernel
theorem zi_92_9 : zI 92 9 = some (.aload_n 0, []) := by decide +kernel
theorem zi_92_10 : zI 92 10 = some (.getfield 14, [5, 0, 134]) := by decide +kernel
theorem zi_92_13 : zI 92 13 = some (.aload_n 0, []) := by decide +kernel
theorem zi_92_14 : zI 92 14 = some (.getfield 37, [5, 2, 145]) := by decide +kernel
theorem zi_92_17 : zI 92 17 = some (.iload_n 3, []) := by decide +kernel
theorem zi_92_18 : zI 92 18 = some (.invokevirtual 56, [1, 0, 2, 1, 234, 235, 12, 233, 0, 358]) := by decide +kernel
theorem zi_92_21 : zI 92 21 = some (.iconst 0, []) := by decide +kernel
theorem zi_92_22 : zI 92 22 = some (.istore 4, []) := by decide +kernel
theorem zi_92_24 : zI 92 24 = some (.iload 4, []) := by decide +kernel
theorem zi_92_26 : zI 92 26 = some (.iload_n 3, []) := by decide +kernel
theorem zi_92_27 : zI 92 27 = some (.if_icmp .ge 33, [60]) := by decide +kernel
theorem zi_92_30 : zI 92 30 = some (.aload_n 0, []) := by decide +kernel
theorem zi_92_31 : zI 92 31 = some (.getfield 20, [5, 1, 32]) := by decide +kernel
theorem zi_92_34 : zI 92 34 = some (.aload_n 0, []) := by decide +kernel
theorem zi_92_35 : zI 92 35 = some (.getfield 37, [5, 2, 145]) := by decide +kernel
theorem zi_92_38 : zI 92 38 = some (.bipush 8, []) := by decide +kernel
theorem zi_92_40 : zI 92 40 = some (.imul, []) := by decide +kernel
theorem zi_92_41 : zI 92 41 = some (.iload 4, []) := by decide +kernel
theorem zi_92_43 : zI 92 43 = some (.iadd, []) := by decide +kernel
theorem zi_92_44 : zI 92 44 = some (.aload_n 1, []) := by decide +kernel
theorem zi_92_45 : zI 92 45 = some (.iload_n 2, []) := by decide +kernel
theorem zi_92_46 : zI 92 46 = some (.iload 4, []) := by decide +kernel
theorem zi_92_48 : zI 92 48 = some (.invokevirtual 34, [8, 0, 2, 0, 143, 144, 53, 142, 0, 141]) := by decide +kernel
theorem zi_92_51 : zI 92 51 = some (.invokevirtual 56, [1, 0, 2, 1, 234, 235, 12, 233, 0, 358]) := by decide +kernel
theorem zi_92_54 : zI 92 54 = some (.iinc 4 1, []) := by decide +kernel
theorem zi_92_57 : zI 92 57 = some (.goto (-33), [24]) := by decide +kernel
theorem zi_92_60 : zI 92 60 = some (.aload_n 0, []) := by decide +kernel
theorem zi_92_61 : zI 92 61 = some (.dup, []) := by decide +kernel
theorem zi_92_62 : zI 92 62 = some (.getfield 37, [5, 2, 145]) := by decide +kernel
theorem zi_92_65 : zI 92 65 = some (.iconst 1, []) := by decide +kernel
theorem zi_92_66 : zI 92 66 = some (.iadd, []) := by decide +kernel
theorem zi_92_67 : zI 92 67 = some (.putfield 37, [5, 2, 0, 145]) := by decide +kernel
theorem zi_92_70 : zI 92 70 = some (.return_, []) := by decide +kernel
theorem zi_93_0 : zI 93 0 = some (.iconst 0, []) := by decide +kernel
theorem zi_93_1 : zI 93 1 = some (.istore 4, []) := by decide +kernel
theorem zi_93_3 : zI 93 3 = some (.iload 4, []) := by decide +kernel
theorem zi_93_5 : zI 93 5 = some (.aload_n 0, []) := by decide +kernel
theorem zi_93_6 : zI 93 6 = some (.getfield 14, [5, 0, 134]) := by decide +kernel
theorem zi_93_9 : zI 93 9 = some (.iload_n 3, []) := by decide +kernel
theorem zi_93_10 : zI 93 10 = some (.invokevirtual 23, [0, 0, 1, 1, 10, 11, 12, 9, 0, 33]) := by decide +kernel
theorem zi_93_13 : zI 93 13 = some (.if_icmp .ge 41, [54]) := by decide +kernel
theorem zi_93_16 : zI 93 16 = some (.aload_n 0, []) := by decide +kernel
theorem zi_93_17 : zI 93 17 = some (.iload_n 3, []) := by decide +kernel
theorem zi_93_18 : zI 93 18 = some (.iload 4, []) := by decide +kernel
theorem zi_93_20 : zI 93 20 = some (.invokevirtual 27, [16, 0, 2, 5, 137, 138, 139, 136, 0, 135]) := by decide +kernel
theorem zi_93_23 : zI 93 23 = some (.aload_n 1, []) := by decide +kernel
theorem zi_93_24 : zI 93 24 = some (.iload_n 2, []) := by decide +kernel
theorem zi_93_25 : zI 93 25 = some (.iload 4, []) := by decide +kernel
theorem zi_93_27 : zI 93 27 = some (.invokevirtual 34, [8, 0, 2, 0, 143, 144, 53, 142, 0, 141]) := by decide +kernel
theorem zi_93_30 : zI 93 30 = some (.if_icmp .eq 18, [48]) := by decide +kernel
theorem zi_93_33 : zI 93 33 = some (.aload_n 0, []) := by decide +kernel
theorem zi_93_34 : zI 93 34 = some (.getfield 20, [5, 1, 32]) := by decide +kernel
theorem zi_93_37 : zI 93 37 = some (.iload_n 3, []) := by decide +kernel
theorem zi_93_38 : zI 93 38 = some (.bipush 8, []) := by decide +kernel
theorem zi_93_40 : zI 93 40 = some (.imul, []) := by decide +kernel
theorem zi_93_41 : zI 93 41 = some (.iload 4, []) := by decide +kernel
theorem zi_93_43 : zI 93 43 = some (.iadd, []) := by decide +kernel
theorem zi_93_44 : zI 93 44 = some (.iconst (-1), []) := by decide +kernel
theorem zi_93_45 : zI 93 45 = some (.invokevirtual 56, [1, 0, 2, 1, 234, 235, 12, 233, 0, 358]) := by decide +kernel
theorem zi_93_48 : zI 93 48 = some (.iinc 4 1, []) := by decide +kernel
theorem zi_93_51 : zI 93 51 = some (.goto (-48), [3]) := by decide +kernel
theorem zi_93_54 : zI 93 54 = some (.return_, []) := by decide +kernel
/-! what changes lines and templates -/
theorem updG_eq {g : Nat → Nat} {k v : Nat} : updG g k v k = v := if_pos rfl
theorem updG_ne {g : Nat → Nat} {k q v : Nat} (h : q ≠ k) : updG g k v q = g q := if_neg h
/-- template T has the words of line l from place i on -/
def zcop (F F' : Nat → Nat → Int32) (l T i c : Nat) : Prop := (∀ r, r ≠ 8 → F' r = F r) ∧ (∀ p, i ≤ p → p < c → F' 8 (T * 8 + p) = F 4 (l * 8 + p)) ∧ ∀ x, x < T * 8 + i ∨ T * 8 + c ≤ x → F' 8 x = F 8 x
/-- template t has a hole from place i on wherever it hasn't the word of line l -/
def zwid (F F' : Nat → Nat → Int32) (l t i a : Nat) : Prop := (∀ r, r ≠ 8 → F' r = F r) ∧ (∀ p, i ≤ p → p < a → F' 8 (t * 8 + p) = if F 8 (t * 8 + p) = F 4 (l * 8 + p) then F 8 (t * 8 + p) else -1) ∧ ∀ x, x < t * 8 + i ∨ t * 8 + a ≤ x → F' 8 x = F 8 x
section
variable {b : Nat} {h : zH}
theorem l_copy (hb : b + 71 ≤ h.length) (F : Nat → Nat → Int32) (g : Nat → Nat) (l c : Nat) (hl : l < 70) (hc8 : c ≤ 8) (hT : g 2 < 20) (i : Nat) (hi : i ≤ c) : zev 92 24 [some (.ref (b + 16)), some (.ref (b + 1)), some (.int (nI l)), some (.int (nI c)), some (.int (nI i))] [] (nput b F g h) (zQn b h fun F' g' => zcop F F' l (g 2) i c ∧ g' = updG g 2 (g 2 + 1)) := by
  refine zev_of (fun _ kk => zr_iload (pc' := 26) zi_92_24 rfl rfl kk) ?_
  refine zev_of (fun _ kk => zr_iload_n (pc' := 27) zi_92_26 rfl rfl kk) ?_
  refine zv_icmp (pc' := 30) zi_92_27 rfl (fun h27 => ?_) (fun h27 => ?_)
  · replace h27 := zc_ge_t (by omega) (by omega) h27
    refine zev_of (fun _ kk => zr_aload_n (pc' := 61) zi_92_60 rfl rfl kk) ?_
    refine zev_of (fun _ kk => zr_dup (pc' := 62) zi_92_61 rfl rfl kk) ?_
    refine zev_of (fun _ kk => zr_get (pc' := 65) zi_92_62 (nput_at hb (k := 16) rfl) rfl rfl kk) ?_
    refine zev_of (fun _ kk => zr_iconst (v := (nI 1)) (pc' := 66) zi_92_65 rfl rfl kk) ?_
    refine zev_of (fun _ kk => zr_iadd (pc' := 67) zi_92_66 (by first | exact nI_add _ _ | rfl) rfl kk) ?_
    refine zev_of (fun _ kk => zr_put (pc' := 70) zi_92_67 (by omega) (nput_at hb (k := 16) rfl) (Nat.le_of_ble_eq_true rfl) rfl rfl (nput_set (g' := updG _ 2 (_)) hb (by decide) rfl) kk) ?_
    refine zev_ret (zr_return zi_92_70 rfl) ?_
    refine ⟨_, _, ⟨⟨fun _ _ => rfl, fun p h1 h2 => absurd h1 (by omega), fun _ _ => rfl⟩, rfl⟩, rfl⟩
  · replace h27 := zc_ge_f (by omega) (by omega) h27
    refine zev_of (fun _ kk => zr_aload_n (pc' := 31) zi_92_30 rfl rfl kk) ?_
    refine zev_of (fun _ kk => zr_get (pc' := 34) zi_92_31 (nput_at hb (k := 16) rfl) rfl rfl kk) ?_
    refine zev_of (fun _ kk => zr_aload_n (pc' := 35) zi_92_34 rfl rfl kk) ?_
    refine zev_of (fun _ kk => zr_get (pc' := 38) zi_92_35 (nput_at hb (k := 16) rfl) rfl rfl kk) ?_
    refine zev_of (fun _ kk => zr_bipush (v := (nI 8)) (pc' := 40) zi_92_38 rfl rfl kk) ?_
    refine zev_of (fun _ kk => zr_imul (pc' := 41) zi_92_40 (by first | exact pk_mul _ _ | rfl) rfl kk) ?_
    refine zev_of (fun _ kk => zr_iload (pc' := 43) zi_92_41 rfl rfl kk) ?_
    refine zev_of (fun _ kk => zr_iadd (pc' := 44) zi_92_43 (by first | exact nI_add _ _ | rfl) rfl kk) ?_
    refine zev_of (fun _ kk => zr_aload_n (pc' := 45) zi_92_44 rfl rfl kk) ?_
    refine zev_of (fun _ kk => zr_iload_n (pc' := 46) zi_92_45 rfl rfl kk) ?_
    refine zev_of (fun _ kk => zr_iload (pc' := 48) zi_92_46 rfl rfl kk) ?_
    refine zev_of (fun _ kk => zr_v2 (pc' := 51) zi_92_48 (nput_at hb (k := 1) rfl) rfl (c_wordIn hb _ _ (by omega)) rfl kk) ?_
    refine zev_of (fun _ kk => zr_rputN (pc' := 54) (rr := 8) (by omega) zi_92_51 hb rfl rfl (fun _ => rfl) (by decide) (by decide) rfl rfl kk) ?_
    refine zev_of (fun _ kk => zr_iinc (pc' := 57) zi_92_54 rfl (by first | exact n_inc _ | rfl) rfl rfl kk) ?_
    dsimp only [zst1, zst2, zkill, List.set, List.getElem?_cons_succ, List.getElem?_cons_zero]
    refine zev_of (fun _ kk => zr_goto zi_92_57 kk) ?_
    refine zev_mono (l_copy hb _ g l c hl hc8 hT (i + 1) (by omega)) ?_
    rintro q ⟨F', g', ⟨⟨k1, k2, k3⟩, k4⟩, rfl⟩
    refine ⟨F', g', ⟨⟨fun r hr => (k1 r hr).trans (updR_ne hr), fun p h1 h2 => ?_, fun x hx => ?_⟩, k4⟩, rfl⟩
    · rcases Nat.lt_or_ge i p with q | q
      · rw [k2 p (by omega) h2, updR_ne (by decide)]
      · rw [show p = i by omega, k3 _ (by omega), updR_eq, pk_us]
    · rw [k3 x (by omega), updR_eq, pk_un (by omega)]
termination_by c - i
theorem c_copy (hb : b + 71 ≤ h.length) (F : Nat → Nat → Int32) (g : Nat → Nat) (l c : Nat) (hl : l < 70) (hc : F 3 l = nI c) (hc8 : c ≤ 8) (hT : g 2 < 20) : ∃ F' g', (zcop (updR F 7 (upd (F 7) (g 2) (nI c))) F' l (g 2) 0 c ∧ g' = updG g 2 (g 2 + 1)) ∧ zcalls zTB 92 [.ref (b + 16), .ref (b + 1), .int (nI l)] (nput b F g h) (none, nput b F' g' h) := by
  refine zQn_out (zev_calls (Nat.le_of_ble_eq_true rfl) ?_)
  show zev 92 0 [some (.ref (b + 16)), some (.ref (b + 1)), some (.int (nI l)), none, none] [] _ _
  refine zev_of (fun _ kk => zr_aload_n (pc' := 1) zi_92_0 rfl rfl kk) ?_
  refine zev_of (fun _ kk => zr_get (pc' := 4) zi_92_1 (nput_at hb (k := 1) rfl) rfl rfl kk) ?_
  refine zev_of (fun _ kk => zr_iload_n (pc' := 5) zi_92_4 rfl rfl kk) ?_
  refine zev_of (fun _ kk => zr_atN (pc' := 8) (by omega) zi_92_5 hb rfl rfl (by decide) rfl rfl kk) ?_
  rw [hc]
  refine zev_of (fun _ kk => zr_istore_n (pc' := 9) zi_92_8 (Nat.le_of_ble_eq_true rfl) rfl rfl kk) ?_
  dsimp only [zst1, zst2, zkill, List.set, List.getElem?_cons_succ, List.getElem?_cons_zero]
  refine zev_of (fun _ kk => zr_aload_n (pc' := 10) zi_92_9 rfl rfl kk) ?_
  refine zev_of (fun _ kk => zr_get (pc' := 13) zi_92_10 (nput_at hb (k := 16) rfl) rfl rfl kk) ?_
  refine zev_of (fun _ kk => zr_aload_n (pc' := 14) zi_92_13 rfl rfl kk) ?_
  refine zev_of (fun _ kk => zr_get (pc' := 17) zi_92_14 (nput_at hb (k := 16) rfl) rfl rfl kk) ?_
  refine zev_of (fun _ kk => zr_iload_n (pc' := 18) zi_92_17 rfl rfl kk) ?_
  refine zev_of (fun _ kk => zr_rputN (pc' := 21) (rr := 7) (by omega) zi_92_18 hb rfl rfl (fun _ => rfl) (by decide) (by decide) rfl rfl kk) ?_
  refine zev_of (fun _ kk => zr_iconst (v := (nI 0)) (pc' := 22) zi_92_21 rfl rfl kk) ?_
  refine zev_of (fun _ kk => zr_istore (pc' := 24) zi_92_22 (Nat.le_of_ble_eq_true rfl) rfl rfl kk) ?_
  dsimp only [zst1, zst2, zkill, List.set, List.getElem?_cons_succ, List.getElem?_cons_zero]
  exact l_copy hb _ g l c hl hc8 hT 0 (by omega)
theorem l_widen (hb : b + 71 ≤ h.length) (F : Nat → Nat → Int32) (g : Nat → Nat) (l t a : Nat) (hl : l < 70) (ht : t < 20) (hs : F 7 t = nI a) (ha : a ≤ 8) (i : Nat) (hi : i ≤ a) : zev 93 3 [some (.ref (b + 16)), some (.ref (b + 1)), some (.int (nI l)), some (.int (nI t)), some (.int (nI i))] [] (nput b F g h) (zQn b h fun F' g' => zwid F F' l t i a ∧ g' = g) := by
  refine zev_of (fun _ kk => zr_iload (pc' := 5) zi_93_3 rfl rfl kk) ?_
  refine zev_of (fun _ kk => zr_aload_n (pc' := 6) zi_93_5 rfl rfl kk) ?_
  refine zev_of (fun _ kk => zr_get (pc' := 9) zi_93_6 (nput_at hb (k := 16) rfl) rfl rfl kk) ?_
  refine zev_of (fun _ kk => zr_iload_n (pc' := 10) zi_93_9 rfl rfl kk) ?_
  refine zev_of (fun _ kk => zr_atN (pc' := 13) (by omega) zi_93_10 hb rfl rfl (by decide) rfl rfl kk) ?_
  rw [hs]
  refine zv_icmp (pc' := 16) zi_93_13 rfl (fun h13 => ?_) (fun h13 => ?_)
  · replace h13 := zc_ge_t (by omega) (by omega) h13
    refine zev_ret (zr_return zi_93_54 rfl) ?_
    refine ⟨_, _, ⟨⟨fun _ _ => rfl, fun p h1 h2 => absurd h1 (by omega), fun _ _ => rfl⟩, rfl⟩, rfl⟩
  · replace h13 := zc_ge_f (by omega) (by omega) h13
    refine zev_of (fun _ kk => zr_aload_n (pc' := 17) zi_93_16 rfl rfl kk) ?_
    refine zev_of (fun _ kk => zr_iload_n (pc' := 18) zi_93_17 rfl rfl kk) ?_
    refine zev_of (fun _ kk => zr_iload (pc' := 20) zi_93_18 rfl rfl kk) ?_
    refine zev_of (fun _ kk => zr_v2 (pc' := 23) zi_93_20 (nput_at hb (k := 16) rfl) rfl (c_slotIn hb _ _ (by omega)) rfl kk) ?_
    refine zev_of (fun _ kk => zr_aload_n (pc' := 24) zi_93_23 rfl rfl kk) ?_
    refine zev_of (fun _ kk => zr_iload_n (pc' := 25) zi_93_24 rfl rfl kk) ?_
    refine zev_of (fun _ kk => zr_iload (pc' := 27) zi_93_25 rfl rfl kk) ?_
    refine zev_of (fun _ kk => zr_v2 (pc' := 30) zi_93_27 (nput_at hb (k := 1) rfl) rfl (c_wordIn hb _ _ (by omega)) rfl kk) ?_
    refine zv_icmp (pc' := 33) zi_93_30 rfl (fun h30 => ?_) (fun h30 => ?_)
    · replace h30 := zc_eq_t h30
      refine zev_of (fun _ kk => zr_iinc (pc' := 51) zi_93_48 rfl (by first | exact n_inc _ | rfl) rfl rfl kk) ?_
      dsimp only [zst1, zst2, zkill, List.set, List.getElem?_cons_succ, List.getElem?_cons_zero]
      refine zev_of (fun _ kk => zr_goto zi_93_51 kk) ?_
      refine zev_mono (l_widen hb F g l t a hl ht hs ha (i + 1) (by omega)) ?_
      rintro q ⟨F', g', ⟨⟨k1, k2, k3⟩, k4⟩, rfl⟩
      refine ⟨F', g', ⟨⟨k1, fun p h1 h2 => ?_, fun x hx => k3 x (by omega)⟩, k4⟩, rfl⟩
      rcases Nat.lt_or_ge i p with q | q
      · exact k2 p (by omega) h2
      · rw [show p = i by omega, k3 _ (by omega), if_pos h30]
    · replace h30 := zc_eq_f h30
      refine zev_of (fun _ kk => zr_aload_n (pc' := 34) zi_93_33 rfl rfl kk) ?_
      refine zev_of (fun _ kk => zr_get (pc' := 37) zi_93_34 (nput_at hb (k := 16) rfl) rfl rfl kk) ?_
      refine zev_of (fun _ kk => zr_iload_n (pc' := 38) zi_93_37 rfl rfl kk) ?_
      refine zev_of (fun _ kk => zr_bipush (v := (nI 8)) (pc' := 40) zi_93_38 rfl rfl kk) ?_
      refine zev_of (fun _ kk => zr_imul (pc' := 41) zi_93_40 (by first | exact pk_mul _ _ | rfl) rfl kk) ?_
      refine zev_of (fun _ kk => zr_iload (pc' := 43) zi_93_41 rfl rfl kk) ?_
      refine zev_of (fun _ kk => zr_iadd (pc' := 44) zi_93_43 (by first | exact nI_add _ _ | rfl) rfl kk) ?_
      refine zev_of (fun _ kk => zr_iconst (v := (-1)) (pc' := 45) zi_93_44 rfl rfl kk) ?_
      refine zev_of (fun _ kk => zr_rputN (pc' := 48) (rr := 8) (by omega) zi_93_45 hb rfl rfl (fun _ => rfl) (by decide) (by decide) rfl rfl kk) ?_
      refine zev_of (fun _ kk => zr_iinc (pc' := 51) zi_93_48 rfl (by first | exact n_inc _ | rfl) rfl rfl kk) ?_
      dsimp only [zst1, zst2, zkill, List.set, List.getElem?_cons_succ, List.getElem?_cons_zero]
      refine zev_of (fun _ kk => zr_goto zi_93_51 kk) ?_
      refine zev_mono (l_widen hb (updR F 8 (upd (F 8) (t * 8 + i) (-1))) g l t a hl ht hs ha (i + 1) (by omega)) ?_
      rintro q ⟨F', g', ⟨⟨k1, k2, k3⟩, k4⟩, rfl⟩
      refine ⟨F', g', ⟨⟨fun r hr => (k1 r hr).trans (updR_ne hr), fun p h1 h2 => ?_, fun x hx => ?_⟩, k4⟩, rfl⟩
      · rcases Nat.lt_or_ge i p with q | q
        · rw [k2 p (by omega) h2, updR_eq, pk_un (by omega)]
          rfl
        · rw [show p = i by omega, k3 _ (by omega), updR_eq, pk_us, if_neg h30]
      · rw [k3 x (by omega), updR_eq, pk_un (by omega)]
termination_by a - i
theorem c_widen (hb : b + 71 ≤ h.length) (F : Nat → Nat → Int32) (g : Nat → Nat) (l t a : Nat) (hl : l < 70) (ht : t < 20) (hs : F 7 t = nI a) (ha : a ≤ 8) : ∃ F' g', (zwid F F' l t 0 a ∧ g' = g) ∧ zcalls zTB 93 [.ref (b + 16), .ref (b + 1), .int (nI l), .int (nI t)] (nput b F g h) (none, nput b F' g' h) := by
  refine zQn_out (zev_calls (Nat.le_of_ble_eq_true rfl) ?_)
  show zev 93 0 [some (.ref (b + 16)), some (.ref (b + 1)), some (.int (nI l)), some (.int (nI t)), none] [] _ _
  refine zev_of (fun _ kk => zr_iconst (v := (nI 0)) (pc' := 1) zi_93_0 rfl rfl kk) ?_
  refine zev_of (fun _ kk => zr_istore (pc' := 3) zi_93_1 (Nat.le_of_ble_eq_true rfl) rfl rfl kk) ?_
  dsimp only [zst1, zst2, zkill, List.set, List.getElem?_cons_succ, List.getElem?_cons_zero]
  exact l_widen hb _ g l t a hl ht hs ha 0 (by omega)
/-- what taking a line of c words does -/
def ztak (F : Nat → Nat → Int32) (g : Nat → Nat) (l c s : Nat) (r : Int32) (F' : Nat → Nat → Int32) (g' : Nat → Nat) : Prop := zcho F (g 2) l c s r ∧
  ((r = -1 ∧ F' = F ∧ g' = g) ∨
   (g 2 < 20 ∧ r = nI (g 2) ∧ zcop (updR F 7 (upd (F 7) (g 2) (nI c))) F' l (g 2) 0 c ∧ g' = updG g 2 (g 2 + 1)) ∨
   ∃ t a, t < g 2 ∧ r = nI t ∧ F 7 t = nI a ∧ a ≤ 8 ∧ zwid F F' l t 0 a ∧ g' = g)
theorem c_take (hb : b + 71 ≤ h.length) (F : Nat → Nat → Int32) (g : Nat → Nat) (l c s : Nat) (hl : l < 70) (hc : F 3 l = nI c) (hc8 : c ≤ 8) (hs1 : s ≤ 100) (hT : g 2 ≤ 20) (hsz : ∀ t, t < g 2 → ∃ a, a ≤ 8 ∧ F 7 t = nI a) : ∃ r F' g', ztak F g l c s r F' g' ∧ zcalls zTB 43 [.ref (b + 16), .ref (b + 1), .int (nI l), .int (nI s)] (nput b F g h) (some (.int r), nput b F' g' h) := by
  obtain ⟨r, hr, hcall⟩ := c_choose hb (F := F) (g := g) l c s hl hc hc8 hs1 hT hsz
  refine zQm_out (zev_calls (Nat.le_of_ble_eq_true rfl) ?_)
  show zev 43 0 [some (.ref (b + 16)), some (.ref (b + 1)), some (.int (nI l)), some (.int (nI s)), none] [] _ _
  refine zev_of (fun _ kk => zr_aload_n (pc' := 1) zi_43_0 rfl rfl kk) ?_
  refine zev_of (fun _ kk => zr_aload_n (pc' := 2) zi_43_1 rfl rfl kk) ?_
  refine zev_of (fun _ kk => zr_iload_n (pc' := 3) zi_43_2 rfl rfl kk) ?_
  refine zev_of (fun _ kk => zr_iload_n (pc' := 4) zi_43_3 rfl rfl kk) ?_
  refine zev_of (fun _ kk => zr_v3 (pc' := 7) zi_43_4 (nput_at hb (k := 16) rfl) rfl hcall rfl kk) ?_
  refine zev_of (fun _ kk => zr_istore (pc' := 9) zi_43_7 (Nat.le_of_ble_eq_true rfl) rfl rfl kk) ?_
  dsimp only [zst1, zst2, zkill, List.set, List.getElem?_cons_succ, List.getElem?_cons_zero]
  refine zev_of (fun _ kk => zr_iload (pc' := 11) zi_43_9 rfl rfl kk) ?_
  refine zev_of (fun _ kk => zr_iconst (v := (-1)) (pc' := 12) zi_43_11 rfl rfl kk) ?_
  refine zv_icmp (pc' := 15) zi_43_12 rfl (fun h12 => ?_) (fun h12 => ?_)
  · replace h12 := zc_ne_t h12
    refine zev_of (fun _ kk => zr_iload (pc' := 19) zi_43_17 rfl rfl kk) ?_
    refine zev_of (fun _ kk => zr_aload_n (pc' := 20) zi_43_19 rfl rfl kk) ?_
    refine zev_of (fun _ kk => zr_get (pc' := 23) zi_43_20 (nput_at hb (k := 16) rfl) rfl rfl kk) ?_
    refine zv_icmp (pc' := 26) zi_43_23 rfl (fun h23 => ?_) (fun h23 => ?_)
    · replace h23 := zc_ne_t h23
      obtain ⟨t, ht, e⟩ : ∃ t, t < g 2 ∧ r = nI t := by
        rcases hr with ⟨t, ht, e, _⟩ | ⟨_, e⟩
        · exact ⟨t, ht, e⟩
        · split at e
          · exact absurd e h23
          · exact absurd e h12
      subst e
      obtain ⟨a, ha, hs⟩ := hsz t ht
      obtain ⟨F1, g1, ⟨k1, k2⟩, hcp⟩ := c_widen hb F g l t a hl (by omega) hs ha
      refine zev_of (fun _ kk => zr_aload_n (pc' := 36) zi_43_35 rfl rfl kk) ?_
      refine zev_of (fun _ kk => zr_aload_n (pc' := 37) zi_43_36 rfl rfl kk) ?_
      refine zev_of (fun _ kk => zr_iload_n (pc' := 38) zi_43_37 rfl rfl kk) ?_
      refine zev_of (fun _ kk => zr_iload (pc' := 40) zi_43_38 rfl rfl kk) ?_
      refine zev_of (fun _ kk => zr_n3 (pc' := 43) zi_43_40 (nput_at hb (k := 16) rfl) rfl hcp rfl kk) ?_
      refine zev_of (fun _ kk => zr_iload (pc' := 45) zi_43_43 rfl rfl kk) ?_
      refine zev_ret (zr_ireturn zi_43_45 rfl) ?_
      exact ⟨_, _, _, ⟨hr, .inr (.inr ⟨t, a, ht, rfl, hs, ha, k1, k2⟩)⟩, rfl⟩
    · replace h23 := zc_ne_f h23
      have hT20 : g 2 < 20 := by
        rcases hr with ⟨t, ht, e, _⟩ | ⟨_, e⟩
        · have := (nI_eq (by omega) (by omega)).mp (e.symm.trans h23)
          omega
        · refine Nat.lt_of_not_le fun q => ?_
          rw [if_neg (by omega)] at e
          exact h12 e
      obtain ⟨F1, g1, ⟨k1, k2⟩, hcp⟩ := c_copy hb F g l c hl hc hc8 hT20
      refine zev_of (fun _ kk => zr_aload_n (pc' := 27) zi_43_26 rfl rfl kk) ?_
      refine zev_of (fun _ kk => zr_aload_n (pc' := 28) zi_43_27 rfl rfl kk) ?_
      refine zev_of (fun _ kk => zr_iload_n (pc' := 29) zi_43_28 rfl rfl kk) ?_
      refine zev_of (fun _ kk => zr_n2 (pc' := 32) zi_43_29 (nput_at hb (k := 16) rfl) rfl hcp rfl kk) ?_
      refine zev_of (fun _ kk => zr_goto zi_43_32 kk) ?_
      refine zev_of (fun _ kk => zr_iload (pc' := 45) zi_43_43 rfl rfl kk) ?_
      refine zev_ret (zr_ireturn zi_43_45 rfl) ?_
      exact ⟨_, _, _, ⟨hr, .inr (.inl ⟨hT20, h23, k1, k2⟩)⟩, rfl⟩
  · replace h12 := zc_ne_f h12
    refine zev_of (fun _ kk => zr_iconst (v := (-1)) (pc' := 16) zi_43_15 rfl rfl kk) ?_
    refine zev_ret (zr_ireturn zi_43_16 rfl) ?_
    subst h12
    exact ⟨_, _, _, ⟨hr, .inl ⟨rfl, rfl, rfl⟩⟩, rfl⟩
/-- the key of a line -/
def zkey (F : Nat → Nat → Int32) (i : Nat) (k : Int32) : Prop := (F 5 i = -1 ∧ k = -1) ∨ ∃ t a, t < 20 ∧ F 5 i = nI t ∧ F 7 t = nI a ∧ a ≤ 8 ∧ ((zhol F t a = 0 ∧ k = -1) ∨ ∃ p, p < a ∧ F 8 (t * 8 + p) = -1 ∧ zhol F t p = 0 ∧ k = F 4 (i * 8 + p))
theorem zkey_of {F F' : Nat → Nat → Int32} {i : Nat} {k : Int32} (h1 : F' 5 = F 5) (h2 : F' 7 = F 7) (h3 : F' 8 = F 8) (h4 : F' 4 = F 4) (q : zkey F' i k) : zkey F i k := by
  simp only [zkey, zhol, h1, h2, h3, h4] at q
  exact q
theorem l_findKeys (hb : b + 71 ≤ h.length) (F : Nat → Nat → Int32) (g : Nat → Nat) (hn : g 0 ≤ 70) (hof : ∀ i, i < g 0 → F 5 i = -1 ∨ ∃ t a, t < 20 ∧ F 5 i = nI t ∧ F 7 t = nI a ∧ a ≤ 8) (i : Nat) (hi : i ≤ g 0) (X : Option Value) : zev 64 2 [some (.ref (b + 1)), some (.ref (b + 16)), some (.int (nI i)), X] [] (nput b F g h) (zQn b h fun F' g' => ((∀ r, r ≠ 6 → F' r = F r) ∧ (∀ j, i ≤ j → j < g 0 → zkey F j (F' 6 j)) ∧ ∀ j, j < i → F' 6 j = F 6 j) ∧ g' = g) := by
  refine zev_of (fun _ kk => zr_iload_n (pc' := 3) zi_64_2 rfl rfl kk) ?_
  refine zev_of (fun _ kk => zr_aload_n (pc' := 4) zi_64_3 rfl rfl kk) ?_
  refine zev_of (fun _ kk => zr_get (pc' := 7) zi_64_4 (nput_at hb (k := 1) rfl) rfl rfl kk) ?_
  refine zv_icmp (pc' := 10) zi_64_7 rfl (fun h7 => ?_) (fun h7 => ?_)
  · replace h7 := zc_ge_t (by omega) (by omega) h7
    refine zev_ret (zr_return zi_64_53 rfl) ?_
    refine ⟨_, _, ⟨⟨fun _ _ => rfl, fun p h1 h2 => absurd h1 (by omega), fun _ _ => rfl⟩, rfl⟩, rfl⟩
  · replace h7 := zc_ge_f (by omega) (by omega) h7
    obtain ⟨pl, hpl, hk⟩ : ∃ pl, ((pl = -1 ∧ zkey F i (-1)) ∨ ∃ p, p < 8 ∧ pl = nI p ∧ zkey F i (F 4 (i * 8 + p))) ∧ zcalls zTB 40 [.ref (b + 16), .int (F 5 i), .int 0] (nput b F g h) (some (.int pl), nput b F g h) := by
      rcases hof i (by omega) with e | ⟨t, a, ht, e, hs, ha⟩
      · rw [e]
        exact ⟨_, .inl ⟨rfl, .inl ⟨e, rfl⟩⟩, c_placeOfNone hb 0⟩
      · rw [e]
        obtain ⟨r, hr, hc⟩ := c_placeOfHole hb (F := F) (g := g) t a 0 ht hs ha (by omega)
        refine ⟨r, ?_, hc⟩
        rcases hr with ⟨e1, e2⟩ | ⟨p, h1, h2, h3, h4⟩
        · exact .inl ⟨e1, .inr ⟨t, a, ht, e, hs, ha, .inl ⟨by omega, rfl⟩⟩⟩
        · exact .inr ⟨p, by omega, h2, .inr ⟨t, a, ht, e, hs, ha, .inr ⟨p, h1, h3, h4, rfl⟩⟩⟩
    have hz : ∀ k, zkey F i k → zev 64 2 [some (.ref (b + 1)), some (.ref (b + 16)), some (.int (nI (i + 1))), some (.int pl)] [] (nput b (updR F 6 (upd (F 6) i k)) g h) (zQn b h fun F' g' => ((∀ r, r ≠ 6 → F' r = F r) ∧ (∀ j, i ≤ j → j < g 0 → zkey F j (F' 6 j)) ∧ ∀ j, j < i → F' 6 j = F 6 j) ∧ g' = g) := by
      intro k hkk
      refine zev_mono (l_findKeys hb (updR F 6 (upd (F 6) i k)) g hn hof (i + 1) (by omega) _) ?_
      rintro q ⟨F', g', ⟨⟨k1, k2, k3⟩, k4⟩, rfl⟩
      refine ⟨F', g', ⟨⟨fun r hr => (k1 r hr).trans (updR_ne hr), fun p h1 h2 => ?_, fun x hx => ?_⟩, k4⟩, rfl⟩
      · rcases Nat.lt_or_ge i p with q | q
        · exact zkey_of rfl rfl rfl rfl (k2 p (by omega) h2)
        · rw [show p = i by omega, k3 _ (by omega), updR_eq, pk_us]
          exact hkk
      · rw [k3 x (by omega), updR_eq, pk_un (by omega)]
    refine zev_of (fun _ kk => zr_aload_n (pc' := 11) zi_64_10 rfl rfl kk) ?_
    refine zev_of (fun _ kk => zr_aload_n (pc' := 12) zi_64_11 rfl rfl kk) ?_
    refine zev_of (fun _ kk => zr_get (pc' := 15) zi_64_12 (nput_at hb (k := 1) rfl) rfl rfl kk) ?_
    refine zev_of (fun _ kk => zr_iload_n (pc' := 16) zi_64_15 rfl rfl kk) ?_
    refine zev_of (fun _ kk => zr_atN (pc' := 19) (by omega) zi_64_16 hb rfl rfl (by decide) rfl rfl kk) ?_
    refine zev_of (fun _ kk => zr_iconst (v := (nI 0)) (pc' := 20) zi_64_19 rfl rfl kk) ?_
    refine zev_of (fun _ kk => zr_v2 (pc' := 23) zi_64_20 (nput_at hb (k := 16) rfl) rfl hk rfl kk) ?_
    refine zev_of (fun _ kk => zr_istore_n (pc' := 24) zi_64_23 (Nat.le_of_ble_eq_true rfl) rfl rfl kk) ?_
    dsimp only [zst1, zst2, zkill, List.set, List.getElem?_cons_succ, List.getElem?_cons_zero]
    refine zev_of (fun _ kk => zr_aload_n (pc' := 25) zi_64_24 rfl rfl kk) ?_
    refine zev_of (fun _ kk => zr_get (pc' := 28) zi_64_25 (nput_at hb (k := 1) rfl) rfl rfl kk) ?_
    refine zev_of (fun _ kk => zr_iload_n (pc' := 29) zi_64_28 rfl rfl kk) ?_
    refine zev_of (fun _ kk => zr_iload_n (pc' := 30) zi_64_29 rfl rfl kk) ?_
    refine zev_of (fun _ kk => zr_iconst (v := (-1)) (pc' := 31) zi_64_30 rfl rfl kk) ?_
    refine zv_icmp (pc' := 34) zi_64_31 rfl (fun h31 => ?_) (fun h31 => ?_)
    · replace h31 := zc_ne_t h31
      obtain ⟨p, hp8, rfl, hkk⟩ : ∃ p, p < 8 ∧ pl = nI p ∧ zkey F i (F 4 (i * 8 + p)) := by
        rcases hpl with ⟨e, _⟩ | q
        · exact absurd e h31
        · exact q
      refine zev_of (fun _ kk => zr_aload_n (pc' := 39) zi_64_38 rfl rfl kk) ?_
      refine zev_of (fun _ kk => zr_iload_n (pc' := 40) zi_64_39 rfl rfl kk) ?_
      refine zev_of (fun _ kk => zr_iload_n (pc' := 41) zi_64_40 rfl rfl kk) ?_
      refine zev_of (fun _ kk => zr_v2 (pc' := 44) zi_64_41 (nput_at hb (k := 1) rfl) rfl (c_wordIn hb _ _ (by omega)) rfl kk) ?_
      refine zev_of (fun _ kk => zr_rputN (pc' := 47) (rr := 6) (by omega) zi_64_44 hb rfl rfl (fun _ => rfl) (by decide) (by decide) rfl rfl kk) ?_
      refine zev_of (fun _ kk => zr_iinc (pc' := 50) zi_64_47 rfl (by first | exact n_inc _ | rfl) rfl rfl kk) ?_
      dsimp only [zst1, zst2, zkill, List.set, List.getElem?_cons_succ, List.getElem?_cons_zero]
      refine zev_of (fun _ kk => zr_goto zi_64_50 kk) ?_
      exact hz _ hkk
    · replace h31 := zc_ne_f h31
      refine zev_of (fun _ kk => zr_iconst (v := (-1)) (pc' := 35) zi_64_34 rfl rfl kk) ?_
      refine zev_of (fun _ kk => zr_goto zi_64_35 kk) ?_
      refine zev_of (fun _ kk => zr_rputN (pc' := 47) (rr := 6) (by omega) zi_64_44 hb rfl rfl (fun _ => rfl) (by decide) (by decide) rfl rfl kk) ?_
      refine zev_of (fun _ kk => zr_iinc (pc' := 50) zi_64_47 rfl (by first | exact n_inc _ | rfl) rfl rfl kk) ?_
      dsimp only [zst1, zst2, zkill, List.set, List.getElem?_cons_succ, List.getElem?_cons_zero]
      refine zev_of (fun _ kk => zr_goto zi_64_50 kk) ?_
      rcases hpl with ⟨e, q⟩ | ⟨p, hp8, e, _⟩
      · rw [h31]
        rw [h31] at hz
        exact hz _ q
      · exact absurd (e.symm.trans h31) (nI_neg (by omega))
termination_by g 0 - i
theorem c_findKeys (hb : b + 71 ≤ h.length) (F : Nat → Nat → Int32) (g : Nat → Nat) (hn : g 0 ≤ 70) (hof : ∀ i, i < g 0 → F 5 i = -1 ∨ ∃ t a, t < 20 ∧ F 5 i = nI t ∧ F 7 t = nI a ∧ a ≤ 8) : ∃ F' g', (((∀ r, r ≠ 6 → F' r = F r) ∧ ∀ j, j < g 0 → zkey F j (F' 6 j)) ∧ g' = g) ∧ zcalls zTB 64 [.ref (b + 1), .ref (b + 16)] (nput b F g h) (none, nput b F' g' h) := by
  refine zQn_out (zev_calls (Nat.le_of_ble_eq_true rfl) ?_)
  show zev 64 0 [some (.ref (b + 1)), some (.ref (b + 16)), none, none] [] _ _
  refine zev_of (fun _ kk => zr_iconst (v := (nI 0)) (pc' := 1) zi_64_0 rfl rfl kk) ?_
  refine zev_of (fun _ kk => zr_istore_n (pc' := 2) zi_64_1 (Nat.le_of_ble_eq_true rfl) rfl rfl kk) ?_
  dsimp only [zst1, zst2, zkill, List.set, List.getElem?_cons_succ, List.getElem?_cons_zero]
  refine zev_mono (l_findKeys hb F g hn hof 0 (by omega) none) ?_
  rintro q ⟨F', g', ⟨⟨k1, k2, k3⟩, k4⟩, rfl⟩
  exact ⟨F', g', ⟨⟨k1, fun j hj => k2 j (Nat.zero_le _) hj⟩, k4⟩, rfl⟩
/-- a line is added -/
def zapp (F F' : Nat → Nat → Int32) (n : Nat) (x y z : Int32) : Prop := F' 0 = upd (F 0) n x ∧ F' 1 = upd (F 1) n y ∧ F' 2 = upd (F 2) n z ∧ F' 3 = upd (F 3) n (nI 0) ∧ F' 5 = upd (F 5) n (-1) ∧ ∀ r, r ≠ 0 → r ≠ 1 → r ≠ 2 → r ≠ 3 → r ≠ 5 → F' r = F r
theorem c_append (hb : b + 71 ≤ h.length) (F : Nat → Nat → Int32) (g : Nat → Nat) (hn : g 0 < 70) (x y z : Int32) : ∃ r F' g', (r = nI (g 0) ∧ zapp F F' (g 0) x y z ∧ g' = updG g 0 (g 0 + 1)) ∧ zcalls zTB 61 [.ref (b + 1), .int x, .int y, .int z] (nput b F g h) (some (.int r), nput b F' g' h) := by
  refine zQm_out (zev_calls (Nat.le_of_ble_eq_true rfl) ?_)
  show zev 61 0 [some (.ref (b + 1)), some (.int x), some (.int y), some (.int z), none] [] _ _
  refine zev_of (fun _ kk => zr_aload_n (pc' := 1) zi_61_0 rfl rfl kk) ?_
  refine zev_of (fun _ kk => zr_get (pc' := 4) zi_61_1 (nput_at hb (k := 1) rfl) rfl rfl kk) ?_
  refine zev_of (fun _ kk => zr_istore (pc' := 6) zi_61_4 (Nat.le_of_ble_eq_true rfl) rfl rfl kk) ?_
  dsimp only [zst1, zst2, zkill, List.set, List.getElem?_cons_succ, List.getElem?_cons_zero]
  refine zev_of (fun _ kk => zr_aload_n (pc' := 7) zi_61_6 rfl rfl kk) ?_
  refine zev_of (fun _ kk => zr_get (pc' := 10) zi_61_7 (nput_at hb (k := 1) rfl) rfl rfl kk) ?_
  refine zev_of (fun _ kk => zr_iload (pc' := 12) zi_61_10 rfl rfl kk) ?_
  refine zev_of (fun _ kk => zr_iload_n (pc' := 13) zi_61_12 rfl rfl kk) ?_
  refine zev_of (fun _ kk => zr_rputN (pc' := 16) (rr := 0) (by omega) zi_61_13 hb rfl rfl (fun _ => rfl) (by decide) (by decide) rfl rfl kk) ?_
  refine zev_of (fun _ kk => zr_aload_n (pc' := 17) zi_61_16 rfl rfl kk) ?_
  refine zev_of (fun _ kk => zr_get (pc' := 20) zi_61_17 (nput_at hb (k := 1) rfl) rfl rfl kk) ?_
  refine zev_of (fun _ kk => zr_iload (pc' := 22) zi_61_20 rfl rfl kk) ?_
  refine zev_of (fun _ kk => zr_iload_n (pc' := 23) zi_61_22 rfl rfl kk) ?_
  refine zev_of (fun _ kk => zr_rputN (pc' := 26) (rr := 1) (by omega) zi_61_23 hb rfl rfl (fun _ => rfl) (by decide) (by decide) rfl rfl kk) ?_
  refine zev_of (fun _ kk => zr_aload_n (pc' := 27) zi_61_26 rfl rfl kk) ?_
  refine zev_of (fun _ kk => zr_get (pc' := 30) zi_61_27 (nput_at hb (k := 1) rfl) rfl rfl kk) ?_
  refine zev_of (fun _ kk => zr_iload (pc' := 32) zi_61_30 rfl rfl kk) ?_
  refine zev_of (fun _ kk => zr_iload_n (pc' := 33) zi_61_32 rfl rfl kk) ?_
  refine zev_of (fun _ kk => zr_rputN (pc' := 36) (rr := 2) (by omega) zi_61_33 hb rfl rfl (fun _ => rfl) (by decide) (by decide) rfl rfl kk) ?_
  refine zev_of (fun _ kk => zr_aload_n (pc' := 37) zi_61_36 rfl rfl kk) ?_
  refine zev_of (fun _ kk => zr_get (pc' := 40) zi_61_37 (nput_at hb (k := 1) rfl) rfl rfl kk) ?_
  refine zev_of (fun _ kk => zr_iload (pc' := 42) zi_61_40 rfl rfl kk) ?_
  refine zev_of (fun _ kk => zr_iconst (v := (nI 0)) (pc' := 43) zi_61_42 rfl rfl kk) ?_
  refine zev_of (fun _ kk => zr_rputN (pc' := 46) (rr := 3) (by omega) zi_61_43 hb rfl rfl (fun _ => rfl) (by decide) (by decide) rfl rfl kk) ?_
  refine zev_of (fun _ kk => zr_aload_n (pc' := 47) zi_61_46 rfl rfl kk) ?_
  refine zev_of (fun _ kk => zr_get (pc' := 50) zi_61_47 (nput_at hb (k := 1) rfl) rfl rfl kk) ?_
  refine zev_of (fun _ kk => zr_iload (pc' := 52) zi_61_50 rfl rfl kk) ?_
  refine zev_of (fun _ kk => zr_iconst (v := (-1)) (pc' := 53) zi_61_52 rfl rfl kk) ?_
  refine zev_of (fun _ kk => zr_rputN (pc' := 56) (rr := 5) (by omega) zi_61_53 hb rfl rfl (fun _ => rfl) (by decide) (by decide) rfl rfl kk) ?_
  refine zev_of (fun _ kk => zr_aload_n (pc' := 57) zi_61_56 rfl rfl kk) ?_
  refine zev_of (fun _ kk => zr_iload (pc' := 59) zi_61_57 rfl rfl kk) ?_
  refine zev_of (fun _ kk => zr_iconst (v := (nI 1)) (pc' := 60) zi_61_59 rfl rfl kk) ?_
  refine zev_of (fun _ kk => zr_iadd (pc' := 61) zi_61_60 (by first | exact nI_add _ _ | rfl) rfl kk) ?_
  refine zev_of (fun _ kk => zr_put (pc' := 64) zi_61_61 (by omega) (nput_at hb (k := 1) rfl) (Nat.le_of_ble_eq_true rfl) rfl rfl (nput_set (g' := updG _ 0 (_)) hb (by decide) rfl) kk) ?_
  refine zev_of (fun _ kk => zr_iload (pc' := 66) zi_61_64 rfl rfl kk) ?_
  refine zev_ret (zr_ireturn zi_61_66 rfl) ?_
  refine ⟨_, _, _, ⟨rfl, ⟨rfl, rfl, rfl, rfl, rfl, fun r h1 h2 h3 h4 h5 => ?_⟩, rfl⟩, rfl⟩
  rw [updR_ne h5, updR_ne h4, updR_ne h3, updR_ne h2, updR_ne h1]
theorem c_appendWord (hb : b + 71 ≤ h.length) (F : Nat → Nat → Int32) (g : Nat → Nat) (l c : Nat) (w : Int32) (hl : l < 70) (hc : F 3 l = nI c) (hc8 : c < 8) : zcalls zTB 62 [.ref (b + 1), .int (nI l), .int w] (nput b F g h) (some (.int (nI (c + 1))), nput b (updR (updR F 4 (upd (F 4) (l * 8 + c) w)) 3 (upd (F 3) l (nI (c + 1)))) g h) := by
  refine zcalls_of (Nat.le_of_ble_eq_true rfl) ?_
  show zruns zTB 62 0 [some (.ref (b + 1)), some (.int (nI l)), some (.int w), none] [] _ _
  refine zr_aload_n (pc' := 1) zi_62_0 rfl rfl ?_
  refine zr_get (pc' := 4) zi_62_1 (nput_at hb (k := 1) rfl) rfl rfl ?_
  refine zr_iload_n (pc' := 5) zi_62_4 rfl rfl ?_
  refine zr_atN (pc' := 8) (by omega) zi_62_5 hb rfl rfl (by decide) rfl rfl ?_
  rw [hc]
  refine zr_istore_n (pc' := 9) zi_62_8 (Nat.le_of_ble_eq_true rfl) rfl rfl ?_
  dsimp only [zst1, zst2, zkill, List.set, List.getElem?_cons_succ, List.getElem?_cons_zero]
  refine zr_aload_n (pc' := 10) zi_62_9 rfl rfl ?_
  refine zr_get (pc' := 13) zi_62_10 (nput_at hb (k := 1) rfl) rfl rfl ?_
  refine zr_iload_n (pc' := 14) zi_62_13 rfl rfl ?_
  refine zr_bipush (v := (nI 8)) (pc' := 16) zi_62_14 rfl rfl ?_
  refine zr_imul (pc' := 17) zi_62_16 (by first | exact pk_mul _ _ | rfl) rfl ?_
  refine zr_iload_n (pc' := 18) zi_62_17 rfl rfl ?_
  refine zr_iadd (pc' := 19) zi_62_18 (by first | exact nI_add _ _ | rfl) rfl ?_
  refine zr_iload_n (pc' := 20) zi_62_19 rfl rfl ?_
  refine zr_rputN (pc' := 23) (rr := 4) (by omega) zi_62_20 hb rfl rfl (fun _ => rfl) (by decide) (by decide) rfl rfl ?_
  refine zr_aload_n (pc' := 24) zi_62_23 rfl rfl ?_
  refine zr_get (pc' := 27) zi_62_24 (nput_at hb (k := 1) rfl) rfl rfl ?_
  refine zr_iload_n (pc' := 28) zi_62_27 rfl rfl ?_
  refine zr_iload_n (pc' := 29) zi_62_28 rfl rfl ?_
  refine zr_iconst (v := (nI 1)) (pc' := 30) zi_62_29 rfl rfl ?_
  refine zr_iadd (pc' := 31) zi_62_30 (by first | exact nI_add _ _ | rfl) rfl ?_
  refine zr_rputN (pc' := 34) (rr := 3) (by omega) zi_62_31 hb rfl rfl (fun _ => rfl) (by decide) (by decide) rfl rfl ?_
  refine zr_iload_n (pc' := 35) zi_62_34 rfl rfl ?_
  refine zr_iconst (v := (nI 1)) (pc' := 36) zi_62_35 rfl rfl ?_
  refine zr_iadd (pc' := 37) zi_62_36 (by first | exact nI_add _ _ | rfl) rfl ?_
  exact zr_ireturn zi_62_37 rfl
end
end
section

/-! sessions: what find makes -/
/-- one value is changed -/
def zup (f f' : Nat → Int32) (k : Nat) (v : Int32) : Prop := f' k = v ∧ ∀ j, j ≠ k → f' j = f j
def zsum (f : Nat → Nat) : Nat → Nat
  | 0 => 0
  | n + 1 => zsum f n + f n
theorem zsum_ext {f f' : Nat → Nat} : ∀ {n : Nat}, (∀ j, j < n → f j = f' j) → zsum f n = zsum f' n
  | 0, _ => rfl
  | n + 1, h => by simp only [zsum, zsum_ext (n := n) fun j hj => h j (by omega), h n (by omega)]
def nup (f : Nat → Nat) (k v : Nat) : Nat → Nat := fun j => if j = k then v else f j
theorem nup_eq {f : Nat → Nat} {k v : Nat} : nup f k v k = v := if_pos rfl
theorem nup_ne {f : Nat → Nat} {k j v : Nat} (h : j ≠ k) : nup f k v j = f j := if_neg h
theorem zsum_up {f : Nat → Nat} {k v : Nat} : ∀ {n : Nat}, k < n → zsum (nup f k v) n + f k = zsum f n + v
  | 0, h => absurd h (by omega)
  | n + 1, h => by
    simp only [zsum]
    rcases Nat.lt_or_ge k n with q | q
    · have := zsum_up (f := f) (v := v) q
      rw [nup_ne (by omega)]
      omega
    · have e : k = n := by omega
      subst e
      rw [nup_eq, zsum_ext (f' := f) fun j hj => nup_ne (by omega)]
      omega
def zkp (F : Nat → Nat → Int32) (l : Nat) : Bool := decide (0 ≤ F 6 l)
def zbg (F : Nat → Nat → Int32) (gap : Int32) (l : Nat) : Bool := decide (0 ≤ F 6 l ∧ zjn F l gap l = -1)
def zses (F : Nat → Nat → Int32) (S : Nat) (gap : Int32) (i : Nat) (C : Nat → Nat → Nat) (Z : Nat → Nat) : Prop :=
  (S ≤ i) ∧
  (∀ s, s < S → 0 < Z s ∧ Z s ≤ i ∧ F 13 s = nI (C s 0) ∧ F 14 s = nI (C s (Z s - 1)) ∧ F 15 s = nI (Z s) ∧ ∃ w, w ≤ Z s ∧ F 16 s = nI w) ∧
  (∀ s, s < S → ∀ k, k < Z s → C s k < i ∧ F 11 (C s k) = nI s ∧ F 6 (C s k) = F 6 (C s 0)) ∧
  (∀ s, s < S → ∀ k, k + 1 < Z s → C s k < C s (k + 1) ∧ F 12 (C s k) = nI (C s (k + 1)) ∧ F 0 (C s (k + 1)) - F 0 (C s k) ≤ gap) ∧
  (∀ s, s + 1 < S → C s 0 < C (s + 1) 0) ∧
  (∀ l, l < i → (F 6 l < 0 ∧ F 11 l = -1) ∨ (0 ≤ F 6 l ∧ ∃ s k, s < S ∧ k < Z s ∧ C s k = l ∧ F 11 l = nI s)) ∧
  (zsum Z S = zcnt (zkp F) i) ∧
  (S = zcnt (zbg F gap) i)
section
variable {F : Nat → Nat → Int32} {S : Nat} {gap : Int32} {i : Nat} {C : Nat → Nat → Nat} {Z : Nat → Nat}
theorem zses.le (q : zses F S gap i C Z) : S ≤ i := q.1
theorem zses.sz (q : zses F S gap i C Z) : ∀ s, s < S → 0 < Z s ∧ Z s ≤ i ∧ F 13 s = nI (C s 0) ∧ F 14 s = nI (C s (Z s - 1)) ∧ F 15 s = nI (Z s) ∧ ∃ w, w ≤ Z s ∧ F 16 s = nI w := q.2.1
theorem zses.el (q : zses F S gap i C Z) : ∀ s, s < S → ∀ k, k < Z s → C s k < i ∧ F 11 (C s k) = nI s ∧ F 6 (C s k) = F 6 (C s 0) := q.2.2.1
theorem zses.ch (q : zses F S gap i C Z) : ∀ s, s < S → ∀ k, k + 1 < Z s → C s k < C s (k + 1) ∧ F 12 (C s k) = nI (C s (k + 1)) ∧ F 0 (C s (k + 1)) - F 0 (C s k) ≤ gap := q.2.2.2.1
theorem zses.fi (q : zses F S gap i C Z) : ∀ s, s + 1 < S → C s 0 < C (s + 1) 0 := q.2.2.2.2.1
theorem zses.ln (q : zses F S gap i C Z) : ∀ l, l < i → (F 6 l < 0 ∧ F 11 l = -1) ∨ (0 ≤ F 6 l ∧ ∃ s k, s < S ∧ k < Z s ∧ C s k = l ∧ F 11 l = nI s) := q.2.2.2.2.2.1
theorem zses.sm (q : zses F S gap i C Z) : zsum Z S = zcnt (zkp F) i := q.2.2.2.2.2.2.1
theorem zses.ct (q : zses F S gap i C Z) : S = zcnt (zbg F gap) i := q.2.2.2.2.2.2.2
end
theorem zjn_cases (F : Nat → Nat → Int32) (l : Nat) (gap : Int32) : ∀ m, zjn F l gap m = -1 ∨ ∃ j, j < m ∧ zjn F l gap m = nI j ∧ F 6 j = F 6 l ∧ F 0 l - F 0 j ≤ gap ∧ ∀ k, j < k → k < m → F 6 k ≠ F 6 l
  | 0 => .inl rfl
  | m + 1 => by
    rw [zjn]
    split
    · rename_i h1
      split
      · rename_i h2
        exact .inr ⟨m, by omega, rfl, h1, h2, fun k h3 h4 => absurd h3 (by omega)⟩
      · exact .inl rfl
    · rename_i h1
      rcases zjn_cases F l gap m with q | ⟨j, h2, h3, h4, h5, h6⟩
      · exact .inl q
      · refine .inr ⟨j, by omega, h3, h4, h5, fun k h7 h8 => ?_⟩
        rcases Nat.lt_or_ge k m with q | q
        · exact h6 k h7 q
        · exact (show k = m by omega) ▸ h1
theorem zjn_of {F F' : Nat → Nat → Int32} {l : Nat} {gap : Int32} (h1 : F' 6 = F 6) (h2 : F' 0 = F 0) : ∀ m, zjn F' l gap m = zjn F l gap m
  | 0 => rfl
  | m + 1 => by rw [zjn, zjn, h1, h2, zjn_of h1 h2 m]
theorem zkp_of {F F' : Nat → Nat → Int32} (h1 : F' 6 = F 6) : zkp F' = zkp F := by
  unfold zkp
  rw [h1]
theorem zbg_of {F F' : Nat → Nat → Int32} {gap : Int32} (h1 : F' 6 = F 6) (h2 : F' 0 = F 0) : zbg F' gap = zbg F gap := by
  funext l
  unfold zbg
  rw [h1, zjn_of h1 h2 l]
theorem zses_neg {F F' : Nat → Nat → Int32} {S : Nat} {gap : Int32} {i : Nat} {C : Nat → Nat → Nat} {Z : Nat → Nat} (q : zses F S gap i C Z) (hk : F 6 i < 0) (h11 : zup (F 11) (F' 11) i (-1)) (hr : ∀ r, r ≠ 11 → F' r = F r) : zses F' S gap (i + 1) C Z := by
  have e6 := hr 6 (by decide)
  have e0 := hr 0 (by decide)
  have e12 := hr 12 (by decide)
  have e13 := hr 13 (by decide)
  have e14 := hr 14 (by decide)
  have e15 := hr 15 (by decide)
  have e16 := hr 16 (by decide)
  have hk' : ¬ 0 ≤ F 6 i := Int32.not_le.mpr hk
  refine ⟨?_, ?_, ?_, ?_, ?_, ?_, ?_, ?_⟩
  · have := q.le; omega
  · intro s hs
    rw [e13, e14, e15, e16]
    obtain ⟨a, b, c⟩ := q.sz s hs
    exact ⟨a, by omega, c⟩
  · intro s hs k hkk
    obtain ⟨a, b, c⟩ := q.el s hs k hkk
    rw [e6]
    exact ⟨by omega, by rw [h11.2 _ (by omega)]; exact b, c⟩
  · intro s hs k hkk
    rw [e12, e0]
    exact q.ch s hs k hkk
  · exact q.fi
  · intro l hl
    rw [e6]
    rcases Nat.lt_or_ge l i with w | w
    · rw [h11.2 _ (by omega)]
      exact q.ln l w
    · have e : l = i := by omega
      subst e
      exact .inl ⟨hk, h11.1⟩
  · rw [zkp_of e6, zcnt_f (by simpa [zkp] using hk)]
    exact q.sm
  · rw [zbg_of e6 e0, zcnt_f (by simp only [zbg, decide_eq_false_iff_not]; exact fun w => hk' w.1)]
    exact q.ct
theorem zses_new {F F' : Nat → Nat → Int32} {S : Nat} {gap : Int32} {i : Nat} {C : Nat → Nat → Nat} {Z : Nat → Nat} (q : zses F S gap i C Z) (hk : 0 ≤ F 6 i) (hj : zjn F i gap i = -1) (h11 : zup (F 11) (F' 11) i (nI S)) (e12 : F' 12 = F 12) (h13 : zup (F 13) (F' 13) S (nI i)) (h14 : zup (F 14) (F' 14) S (nI i)) (h15 : zup (F 15) (F' 15) S (nI 1)) {w : Nat} (hw : w ≤ 1) (h16 : zup (F 16) (F' 16) S (nI w)) (e6 : F' 6 = F 6) (e0 : F' 0 = F 0) : zses F' (S + 1) gap (i + 1) (fun s => if s = S then fun _ => i else C s) (nup Z S 1) := by
  have hle := q.le
  refine ⟨?_, ?_, ?_, ?_, ?_, ?_, ?_, ?_⟩
  · omega
  · intro s hs
    rcases Nat.lt_or_ge s S with u | u
    · rw [nup_ne (by omega), h13.2 _ (by omega), h14.2 _ (by omega), h15.2 _ (by omega), h16.2 _ (by omega)]
      simp only [if_neg (show s ≠ S by omega)]
      obtain ⟨a, b, c⟩ := q.sz s u
      exact ⟨a, by omega, c⟩
    · have e : s = S := by omega
      subst e
      rw [nup_eq, h13.1, h14.1, h15.1, h16.1]
      simp only [if_true]
      exact ⟨by omega, by omega, trivial, trivial, trivial, w, hw, rfl⟩
  · intro s hs k hkk
    rcases Nat.lt_or_ge s S with u | u
    · rw [nup_ne (by omega)] at hkk
      simp only [if_neg (show s ≠ S by omega)]
      obtain ⟨a, b, c⟩ := q.el s u k hkk
      rw [e6]
      exact ⟨by omega, by rw [h11.2 _ (by omega)]; exact b, c⟩
    · have e : s = S := by omega
      subst e
      simp only [if_true]
      exact ⟨by omega, h11.1, trivial⟩
  · intro s hs k hkk
    rcases Nat.lt_or_ge s S with u | u
    · rw [nup_ne (by omega)] at hkk
      simp only [if_neg (show s ≠ S by omega)]
      rw [e12, e0]
      exact q.ch s u k hkk
    · have e : s = S := by omega
      subst e
      rw [nup_eq] at hkk
      omega
  · intro s hs
    simp only [if_neg (show s ≠ S by omega)]
    split
    · have := (q.sz s (by omega)).1
      exact (q.el s (by omega) 0 this).1
    · exact q.fi s (by omega)
  · intro l hl
    rw [e6]
    rcases Nat.lt_or_ge l i with u | u
    · rw [h11.2 _ (by omega)]
      rcases q.ln l u with v | ⟨v, s, k, h1, h2, h3, h4⟩
      · exact .inl v
      · refine .inr ⟨v, s, k, by omega, by rw [nup_ne (by omega)]; exact h2, ?_, h4⟩
        simp only [if_neg (show s ≠ S by omega)]
        exact h3
    · have e : l = i := by omega
      subst e
      refine .inr ⟨hk, S, 0, by omega, by rw [nup_eq]; omega, ?_, h11.1⟩
      simp only [if_true]
  · rw [zkp_of e6, zcnt_t (by simpa [zkp] using hk), zsum, nup_eq, zsum_ext fun j hj => nup_ne (by omega), q.sm]
  · rw [zbg_of e6 e0, zcnt_t (by simp only [zbg, decide_eq_true_eq]; exact ⟨hk, hj⟩), ← q.ct]
theorem zses_on {F F' : Nat → Nat → Int32} {S : Nat} {gap : Int32} {i : Nat} {C : Nat → Nat → Nat} {Z : Nat → Nat} (q : zses F S gap i C Z) (hi : i < 70) (hk : 0 ≤ F 6 i) {j s : Nat} (hji : j < i) (hj : zjn F i gap i = nI j) (hs : s < S) (hjs : C s (Z s - 1) = j) (hkj : F 6 j = F 6 i) (hgap : F 0 i - F 0 j ≤ gap) (h11 : zup (F 11) (F' 11) i (nI s)) (h12 : zup (F 12) (F' 12) j (nI i)) (e13 : F' 13 = F 13) (h14 : zup (F 14) (F' 14) s (nI i)) (h15 : zup (F 15) (F' 15) s (nI (Z s + 1))) {w : Nat} (hw : w ≤ Z s + 1) (h16 : zup (F 16) (F' 16) s (nI w)) (e6 : F' 6 = F 6) (e0 : F' 0 = F 0) : zses F' S gap (i + 1) (fun u => if u = s then nup (C s) (Z s) i else C u) (nup Z s (Z s + 1)) := by
  have hle := q.le
  obtain ⟨hz0, hzi, _⟩ := q.sz s hs
  have hin : ∀ u, u < S → ∀ k, k < Z u → u ≠ s → C u k ≠ j := by
    intro u hu k hkk hne e
    have h1 := (q.el u hu k hkk).2.1
    have h2 := (q.el s hs (Z s - 1) (by omega)).2.1
    rw [hjs] at h2
    rw [e] at h1
    exact hne ((nI_eq (by omega) (by omega)).mp (h1.symm.trans h2))
  have hin2 : ∀ k d, k + d + 1 < Z s → C s k < C s (k + d + 1) := by
    intro k d
    induction d with
    | zero => intro h; exact (q.ch s hs k h).1
    | succ d ih =>
      intro h
      exact Nat.lt_trans (ih (by omega)) (q.ch s hs (k + d + 1) h).1
  have hin3 : ∀ k, k + 1 < Z s → C s k ≠ j := by
    intro k hkk e
    have := hin2 k (Z s - 1 - k - 1) (by omega)
    rw [show k + (Z s - 1 - k - 1) + 1 = Z s - 1 by omega, hjs] at this
    omega
  refine ⟨?_, ?_, ?_, ?_, ?_, ?_, ?_, ?_⟩
  · omega
  · intro u hu
    rcases Nat.lt_or_ge u s with v | v
    · rw [nup_ne (by omega), e13, h14.2 _ (by omega), h15.2 _ (by omega), h16.2 _ (by omega)]
      simp only [if_neg (show u ≠ s by omega)]
      obtain ⟨a, b, c⟩ := q.sz u hu
      exact ⟨a, by omega, c⟩
    · rcases Nat.lt_or_ge s u with v2 | v2
      · rw [nup_ne (by omega), e13, h14.2 _ (by omega), h15.2 _ (by omega), h16.2 _ (by omega)]
        simp only [if_neg (show u ≠ s by omega)]
        obtain ⟨a, b, c⟩ := q.sz u hu
        exact ⟨a, by omega, c⟩
      · have e : u = s := by omega
        subst e
        rw [nup_eq, e13, h14.1, h15.1, h16.1]
        simp only [if_true]
        refine ⟨by omega, by omega, ?_, ?_, trivial, w, hw, rfl⟩
        · rw [nup_ne (by omega)]
          exact (q.sz u hu).2.2.1
        · rw [Nat.add_sub_cancel, nup_eq]
  · intro u hu k hkk
    rw [e6]
    by_cases e : u = s
    · subst e
      rw [nup_eq] at hkk
      simp only [if_true]
      rw [nup_ne (show 0 ≠ Z u by omega)]
      rcases Nat.lt_or_ge k (Z u) with v | v
      · rw [nup_ne (by omega)]
        obtain ⟨a, b, c⟩ := q.el u hu k v
        exact ⟨by omega, by rw [h11.2 _ (by omega)]; exact b, c⟩
      · rw [show k = Z u by omega, nup_eq]
        refine ⟨by omega, h11.1, ?_⟩
        have := (q.el u hu (Z u - 1) (by omega)).2.2
        rw [hjs] at this
        rw [← hkj]
        exact this
    · rw [nup_ne e] at hkk
      simp only [if_neg e]
      obtain ⟨a, b, c⟩ := q.el u hu k hkk
      exact ⟨by omega, by rw [h11.2 _ (by omega)]; exact b, c⟩
  · intro u hu k hkk
    rw [e0]
    by_cases e : u = s
    · subst e
      rw [nup_eq] at hkk
      simp only [if_true]
      rcases Nat.lt_or_ge (k + 1) (Z u) with v | v
      · rw [nup_ne (by omega), nup_ne (by omega), h12.2 _ (hin3 k v)]
        exact q.ch u hu k v
      · have e : k = Z u - 1 := by omega
        subst e
        rw [show Z u - 1 + 1 = Z u by omega, nup_ne (by omega), nup_eq, hjs, h12.1]
        exact ⟨hji, rfl, hgap⟩
    · rw [nup_ne e] at hkk
      simp only [if_neg e]
      rw [h12.2 _ (hin u hu k (by omega) e)]
      exact q.ch u hu k hkk
  · intro u hu
    have hc : ∀ v, (if v = s then nup (C s) (Z s) i else C v) 0 = C v 0 := by
      intro v
      split
      · rename_i e
        rw [nup_ne (by omega), e]
      · rfl
    have h := q.fi u hu
    rw [← hc u, ← hc (u + 1)] at h
    exact h
  · intro l hl
    rw [e6]
    rcases Nat.lt_or_ge l i with u | u
    · rw [h11.2 _ (by omega)]
      rcases q.ln l u with v | ⟨v, t, k, h1, h2, h3, h4⟩
      · exact .inl v
      · refine .inr ⟨v, t, k, h1, ?_, ?_, h4⟩
        · unfold nup
          split
          · rename_i e
            subst e
            omega
          · exact h2
        · by_cases e : t = s
          · subst e
            simp only [if_true]
            rw [nup_ne (by omega)]
            exact h3
          · simp only [if_neg e]
            exact h3
    · have e : l = i := by omega
      subst e
      refine .inr ⟨hk, s, Z s, hs, by rw [nup_eq]; omega, ?_, h11.1⟩
      simp only [if_true]
      exact nup_eq
  · rw [zkp_of e6, zcnt_t (by simpa [zkp] using hk), ← q.sm]
    have := zsum_up (f := Z) (v := Z s + 1) hs
    omega
  · rw [zbg_of e6 e0, zcnt_f (by simp only [zbg, decide_eq_false_iff_not]; rw [hj]; exact fun v => nI_neg (by omega) v.2)]
    exact q.ct
end
section
theorem zi_78_0 : zI 78 0 = some (.aload_n 0, []) := by decide +kernel
theorem zi_78_1 : zI 78 1 = some (.iconst 0, []) := by decide +kernel
theorem zi_78_2 : zI 78 2 = some (.putfield 41, [3, 8, 0, 299]) := by decide +kernel
theorem zi_78_5 : zI 78 5 = some (.iconst 0, []) := by decide +kernel
theorem zi_78_6 : zI 78 6 = some (.istore_n 3, []) := by decide +kernel
theorem zi_78_7 : zI 78 7 = some (.iload_n 3, []) := by decide +kernel
theorem zi_78_8 : zI 78 8 = some (.aload_n 1, []) := by decide +kernel
theorem zi_78_9 : zI 78 9 = some (.getfield 45, [0, 7, 300]) := by decide +kernel
theorem zi_78_12 : zI 78 12 = some (.if_icmp .ge 110, [122]) := by decide +kernel
theorem zi_78_15 : zI 78 15 = some (.aload_n 0, []) := by decide +kernel
theorem zi_78_16 : zI 78 16 = some (.getfield 14, [3, 0, 293]) := by decide +kernel
theorem zi_78_19 : zI 78 19 = some (.iload_n 3, []) := by decide +kernel
theorem zi_78_20 : zI 78 20 = some (.iconst (-1), []) := by decide +kernel
theorem zi_78_21 : zI 78 21 = some (.invokevirtual 48, [1, 0, 2, 1, 234, 235, 12, 233, 0, 301]) := by decide +kernel
theorem zi_78_24 : zI 78 24 = some (.aload_n 1, []) := by decide +kernel
theorem zi_78_25 : zI 78 25 = some (.getfield 52, [0, 6, 302]) := by decide +kernel
theorem zi_78_28 : zI 78 28 = some (.iload_n 3, []) := by decide +kernel
theorem zi_78_29 : zI 78 29 = some (.invokevirtual 55, [0, 0, 1, 1, 10, 11, 12, 9, 0, 100]) := by decide +kernel
theorem zi_78_32 : zI 78 32 = some (.ifCond .lt 84, [116]) := by decide +kernel
theorem zi_78_35 : zI 78 35 = some (.aload_n 1, []) := by decide +kernel
theorem zi_78_36 : zI 78 36 = some (.iload_n 3, []) := by decide +kernel
theorem zi_78_37 : zI 78 37 = some (.iload_n 2, []) := by decide +kernel
theorem zi_78_38 : zI 78 38 = some (.invokevirtual 59, [34, 0, 2, 0, 305, 306, 53, 304, 0, 303]) := by decide +kernel
theorem zi_78_41 : zI 78 41 = some (.istore 4, []) := by decide +kernel
theorem zi_78_43 : zI 78 43 = some (.iload 4, []) := by decide +kernel
theorem zi_78_45 : zI 78 45 = some (.iconst (-1), []) := by decide +kernel
theorem zi_78_46 : zI 78 46 = some (.if_icmp .ne 11, [57]) := by decide +kernel
theorem zi_78_49 : zI 78 49 = some (.aload_n 0, []) := by decide +kernel
theorem zi_78_50 : zI 78 50 = some (.iload_n 3, []) := by decide +kernel
theorem zi_78_51 : zI 78 51 = some (.invokevirtual 63, [79, 0, 1, 3, 309, 310, 61, 308, 0, 307]) := by decide +kernel
theorem zi_78_54 : zI 78 54 = some (.goto 10, [64]) := by decide +kernel
theorem zi_78_57 : zI 78 57 = some (.aload_n 0, []) := by decide +kernel
theorem zi_78_58 : zI 78 58 = some (.iload 4, []) := by decide +kernel
theorem zi_78_60 : zI 78 60 = some (.iload_n 3, []) := by decide +kernel
theorem zi_78_61 : zI 78 61 = some (.invokevirtual 66, [80, 0, 2, 3, 313, 314, 61, 312, 0, 311]) := by decide +kernel
theorem zi_78_64 : zI 78 64 = some (.istore 5, []) := by decide +kernel
theorem zi_78_66 : zI 78 66 = some (.aload_n 0, []) := by decide +kernel
theorem zi_78_67 : zI 78 67 = some (.getfield 14, [3, 0, 293]) := by decide +kernel
theorem zi_78_70 : zI 78 70 = some (.iload_n 3, []) := by decide +kernel
theorem zi_78_71 : zI 78 71 = some (.iload 5, []) := by decide +kernel
theorem zi_78_73 : zI 78 73 = some (.invokevirtual 48, [1, 0, 2, 1, 234, 235, 12, 233, 0, 301]) := by decide +kernel
theorem zi_78_76 : zI 78 76 = some (.aload_n 0, []) := by decide +kernel
theorem zi_78_77 : zI 78 77 = some (.getfield 26, [3, 3, 296]) := by decide +kernel
theorem zi_78_80 : zI 78 80 = some (.iload 5, []) := by decide +kernel
theorem zi_78_82 : zI 78 82 = some (.iload_n 3, []) := by decide +kernel
theorem zi_78_83 : zI 78 83 = some (.invokevirtual 48, [1, 0, 2, 1, 234, 235, 12, 233, 0, 301]) := by decide +kernel
theorem zi_78_86 : zI 78 86 = some (.aload_n 0, []) := by decide +kernel
theorem zi_78_87 : zI 78 87 = some (.getfield 29, [3, 4, 297]) := by decide +kernel
theorem zi_78_90 : zI 78 90 = some (.iload 5, []) := by decide +kernel
theorem zi_78_92 : zI 78 92 = some (.invokevirtual 69, [7, 0, 1, 1, 269, 270, 12, 268, 0, 315]) := by decide +kernel
theorem zi_78_95 : zI 78 95 = some (.aload_n 1, []) := by decide +kernel
theorem zi_78_96 : zI 78 96 = some (.getfield 72, [0, 2, 316]) := by decide +kernel
theorem zi_78_99 : zI 78 99 = some (.iload_n 3, []) := by decide +kernel
theorem zi_78_100 : zI 78 100 = some (.invokevirtual 55, [0, 0, 1, 1, 10, 11, 12, 9, 0, 100]) := by decide +kernel
theorem zi_78_103 : zI 78 103 = some (.iconst 3, []) := by decide +kernel
theorem zi_78_104 : zI 78 104 = some (.if_icmp .ne 12, [116]) := by decide +kernel
theorem zi_78_107 : zI 78 107 = some (.aload_n 0, []) := by decide +kernel
theorem zi_78_108 : zI 78 108 = some (.getfield 32, [3, 5, 298]) := by decide +kernel
theorem zi_78_111 : zI 78 111 = some (.iload 5, []) := by decide +kernel
theorem zi_78_113 : zI 78 113 = some (.invokevirtual 69, [7, 0, 1, 1, 269, 270, 12, 268, 0, 315]) := by decide +kernel
theorem zi_78_116 : zI 78 116 = some (.iinc 3 1, []) := by decide +kernel
theorem zi_78_119 : zI 78 119 = some (.goto (-112), [7]) := by decide +kernel
theorem zi_78_122 : zI 78 122 = some (.return_, []) := by decide +kernel
theorem zi_79_0 : zI 79 0 = some (.aload_n 0, []) := by decide +kernel
theorem zi_79_1 : zI 79 1 = some (.getfield 41, [3, 8, 299]) := by decide +kernel
theorem zi_79_4 : zI 79 4 = some (.istore_n 2, []) := by decide +kernel
theorem zi_79_5 : zI 79 5 = some (.aload_n 0, []) := by decide +kernel
theorem zi_79_6 : zI 79 6 = some (.getfield 23, [3, 2, 295]) := by decide +kernel
theorem zi_79_9 : zI 79 9 = some (.iload_n 2, []) := by decide +kernel
theorem zi_79_10 : zI 79 10 = some (.iload_n 1, []) := by decide +kernel
theorem zi_79_11 : zI 79 11 = some (.invokevirtual 48, [1, 0, 2, 1, 234, 235, 12, 233, 0, 301]) := by decide +kernel
theorem zi_79_14 : zI 79 14 = some (.aload_n 0, []) := by decide +kernel
theorem zi_79_15 : zI 79 15 = some (.getfield 29, [3, 4, 297]) := by decide +kernel
theorem zi_79_18 : zI 79 18 = some (.iload_n 2, []) := by decide +kernel
theorem zi_79_19 : zI 79 19 = some (.iconst 0, []) := by decide +kernel
theorem zi_79_20 : zI 79 20 = some (.invokevirtual 48, [1, 0, 2, 1, 234, 235, 12, 233, 0, 301]) := by decide +kernel
theorem zi_79_23 : zI 79 23 = some (.aload_n 0, []) := by decide +kernel
theorem zi_79_24 : zI 79 24 = some (.getfield 32, [3, 5, 298]) := by decide +kernel
theorem zi_79_27 : zI 79 27 = some (.iload_n 2, []) := by decide +kernel
theorem zi_79_28 : zI 79 28 = some (.iconst 0, []) := by decide +kernel
theorem zi_79_29 : zI 79 29 = some (.invokevirtual 48, [1, 0, 2, 1, 234, 235, 12, 233, 0, 301]) := by decide +kernel
theorem zi_79_32 : zI 79 32 = some (.aload_n 0, []) := by decide +kernel
theorem zi_79_33 : zI 79 33 = some (.iload_n 2, []) := by decide +kernel
theorem zi_79_34 : zI 79 34 = some (.iconst 1, []) := by decide +kernel
theorem zi_79_35 : zI 79 35 = some (.iadd, []) := by decide +kernel
theorem zi_79_36 : zI 79 36 = some (.putfield 41, [3, 8, 0, 299]) := by decide +kernel
theorem zi_79_39 : zI 79 39 = some (.iload_n 2, []) := by decide +kernel
theorem zi_79_40 : zI 79 40 = some (.ireturn, []) := by decide +kernel
theorem zi_80_0 : zI 80 0 = some (.aload_n 0, []) := by decide +kernel
theorem zi_80_1 : zI 80 1 = some (.getfield 20, [3, 1, 294]) := by decide +kernel
theorem zi_80_4 : zI 80 4 = some (.iload_n 1, []) := by decide +kernel
theorem zi_80_5 : zI 80 5 = some (.iload_n 2, []) := by decide +kernel
theorem zi_80_6 : zI 80 6 = some (.invokevirtual 48, [1, 0, 2, 1, 234, 235, 12, 233, 0, 301]) := by decide +kernel
theorem zi_80_9 : zI 80 9 = some (.aload_n 0, []) := by decide +kernel
theorem zi_80_10 : zI 80 10 = some (.getfield 14, [3, 0, 293]) := by decide +kernel
theorem zi_80_13 : zI 80 13 = some (.iload_n 1, []) := by decide +kernel
theorem zi_80_14 : zI 80 14 = some (.invokevirtual 55, [0, 0, 1, 1, 10, 11, 12, 9, 0, 100]) := by decide +kernel
theorem zi_80_17 : zI 80 17 = some (.ireturn, []) := by decide +kernel
/-! sessions: find -/
section
variable {b : Nat} {h : zH}
theorem c_begin (hb : b + 71 ≤ h.length) (F : Nat → Nat → Int32) (g : Nat → Nat) (i : Nat) (hS : g 4 < 70) : zcalls zTB 79 [.ref (b + 26), .int (nI i)] (nput b F g h) (some (.int (nI (g 4))), nput b (updR (updR (updR F 13 (upd (F 13) (g 4) (nI i))) 15 (upd (F 15) (g 4) (nI 0))) 16 (upd (F 16) (g 4) (nI 0))) (updG g 4 (g 4 + 1)) h) := by
  refine zcalls_of (Nat.le_of_ble_eq_true rfl) ?_
  show zruns zTB 79 0 [some (.ref (b + 26)), some (.int (nI i)), none] [] _ _
  refine zr_aload_n (pc' := 1) zi_79_0 rfl rfl ?_
  refine zr_get (pc' := 4) zi_79_1 (nput_at hb (k := 26) rfl) rfl rfl ?_
  refine zr_istore_n (pc' := 5) zi_79_4 (Nat.le_of_ble_eq_true rfl) rfl rfl ?_
  dsimp only [zst1, zst2, zkill, List.set, List.getElem?_cons_succ, List.getElem?_cons_zero]
  refine zr_aload_n (pc' := 6) zi_79_5 rfl rfl ?_
  refine zr_get (pc' := 9) zi_79_6 (nput_at hb (k := 26) rfl) rfl rfl ?_
  refine zr_iload_n (pc' := 10) zi_79_9 rfl rfl ?_
  refine zr_iload_n (pc' := 11) zi_79_10 rfl rfl ?_
  refine zr_rputN (pc' := 14) (rr := 13) (by omega) zi_79_11 hb rfl rfl (fun _ => rfl) (by decide) (by decide) rfl rfl ?_
  refine zr_aload_n (pc' := 15) zi_79_14 rfl rfl ?_
  refine zr_get (pc' := 18) zi_79_15 (nput_at hb (k := 26) rfl) rfl rfl ?_
  refine zr_iload_n (pc' := 19) zi_79_18 rfl rfl ?_
  refine zr_iconst (v := (nI 0)) (pc' := 20) zi_79_19 rfl rfl ?_
  refine zr_rputN (pc' := 23) (rr := 15) (by omega) zi_79_20 hb rfl rfl (fun _ => rfl) (by decide) (by decide) rfl rfl ?_
  refine zr_aload_n (pc' := 24) zi_79_23 rfl rfl ?_
  refine zr_get (pc' := 27) zi_79_24 (nput_at hb (k := 26) rfl) rfl rfl ?_
  refine zr_iload_n (pc' := 28) zi_79_27 rfl rfl ?_
  refine zr_iconst (v := (nI 0)) (pc' := 29) zi_79_28 rfl rfl ?_
  refine zr_rputN (pc' := 32) (rr := 16) (by omega) zi_79_29 hb rfl rfl (fun _ => rfl) (by decide) (by decide) rfl rfl ?_
  refine zr_aload_n (pc' := 33) zi_79_32 rfl rfl ?_
  refine zr_iload_n (pc' := 34) zi_79_33 rfl rfl ?_
  refine zr_iconst (v := (nI 1)) (pc' := 35) zi_79_34 rfl rfl ?_
  refine zr_iadd (pc' := 36) zi_79_35 (by first | exact nI_add _ _ | rfl) rfl ?_
  refine zr_put (pc' := 39) zi_79_36 (by omega) (nput_at hb (k := 26) rfl) (Nat.le_of_ble_eq_true rfl) rfl rfl (nput_set (g' := updG _ 4 (_)) hb (by decide) rfl) ?_
  refine zr_iload_n (pc' := 40) zi_79_39 rfl rfl ?_
  exact zr_ireturn zi_79_40 rfl
theorem c_goOn (hb : b + 71 ≤ h.length) (F : Nat → Nat → Int32) (g : Nat → Nat) (j i : Nat) (v : Int32) (hj : j < 70) (hv : F 11 j = v) : zcalls zTB 80 [.ref (b + 26), .int (nI j), .int (nI i)] (nput b F g h) (some (.int v), nput b (updR F 12 (upd (F 12) j (nI i))) g h) := by
  subst hv
  refine zcalls_of (Nat.le_of_ble_eq_true rfl) ?_
  show zruns zTB 80 0 [some (.ref (b + 26)), some (.int (nI j)), some (.int (nI i))] [] _ _
  refine zr_aload_n (pc' := 1) zi_80_0 rfl rfl ?_
  refine zr_get (pc' := 4) zi_80_1 (nput_at hb (k := 26) rfl) rfl rfl ?_
  refine zr_iload_n (pc' := 5) zi_80_4 rfl rfl ?_
  refine zr_iload_n (pc' := 6) zi_80_5 rfl rfl ?_
  refine zr_rputN (pc' := 9) (rr := 12) (by omega) zi_80_6 hb rfl rfl (fun _ => rfl) (by decide) (by decide) rfl rfl ?_
  refine zr_aload_n (pc' := 10) zi_80_9 rfl rfl ?_
  refine zr_get (pc' := 13) zi_80_10 (nput_at hb (k := 26) rfl) rfl rfl ?_
  refine zr_iload_n (pc' := 14) zi_80_13 rfl rfl ?_
  refine zr_atN (pc' := 17) (by omega) zi_80_14 hb rfl rfl (by decide) rfl rfl ?_
  exact zr_ireturn zi_80_17 rfl
theorem zup_rf (f : Nat → Int32) (k : Nat) (v : Int32) : zup f (upd f k v) k v := ⟨pk_us, fun _ hj => pk_un hj⟩
theorem zup_2 (f : Nat → Int32) (k : Nat) (v w : Int32) : zup f (upd (upd f k w) k v) k v := ⟨pk_us, fun _ hj => (pk_un hj).trans (pk_un hj)⟩
theorem zup_in {f f' : Nat → Int32} {k a : Nat} (hk : k < 70) (q : zup f f' k (nI a)) : zup f (rput 70 f' (nI k) (f' (nI k).toNatClampNeg + 1)) k (nI (a + 1)) := by
  rw [rput_n hk (by omega), nI_clamp (by omega), q.1, nI_1]
  exact ⟨pk_us, fun _ hj => (pk_un hj).trans (q.2 _ hj)⟩
theorem zup_same {f : Nat → Int32} {k : Nat} {v : Int32} (e : f k = v) : zup f f k v := ⟨e, fun _ _ => rfl⟩
/-- the rows of the sessions alone are changed -/
def zonS (F F' : Nat → Nat → Int32) : Prop := ∀ r, r < 11 ∨ 16 < r → F' r = F r
theorem l_find (hb : b + 71 ≤ h.length) (F : Nat → Nat → Int32) (g : Nat → Nat) (gap : Int32) (hn : g 0 ≤ 70) (C : Nat → Nat → Nat) (Z : Nat → Nat) (i : Nat) (hi : i ≤ g 0) (q : zses F (g 4) gap i C Z) (X Y : Option Value) : zev 78 7 [some (.ref (b + 26)), some (.ref (b + 1)), some (.int gap), some (.int (nI i)), X, Y] [] (nput b F g h) (zQn b h fun F' g' => zonS F F' ∧ ∃ S C Z, g' = updG g 4 S ∧ zses F' S gap (g 0) C Z) := by
  have hS := q.le
  refine zev_of (fun _ kk => zr_iload_n (pc' := 8) zi_78_7 rfl rfl kk) ?_
  refine zev_of (fun _ kk => zr_aload_n (pc' := 9) zi_78_8 rfl rfl kk) ?_
  refine zev_of (fun _ kk => zr_get (pc' := 12) zi_78_9 (nput_at hb (k := 1) rfl) rfl rfl kk) ?_
  refine zv_icmp (pc' := 15) zi_78_12 rfl (fun h12 => ?_) (fun h12 => ?_)
  · replace h12 := zc_ge_t (by omega) (by omega) h12
    refine zev_ret (zr_return zi_78_122 rfl) ?_
    have e : i = g 0 := by omega
    refine ⟨_, _, ⟨fun _ _ => rfl, g 4, C, Z, ?_, e ▸ q⟩, rfl⟩
    funext k
    unfold updG
    split
    · rename_i w
      rw [w]
    · rfl
  · replace h12 := zc_ge_f (by omega) (by omega) h12
    refine zev_of (fun _ kk => zr_aload_n (pc' := 16) zi_78_15 rfl rfl kk) ?_
    refine zev_of (fun _ kk => zr_get (pc' := 19) zi_78_16 (nput_at hb (k := 26) rfl) rfl rfl kk) ?_
    refine zev_of (fun _ kk => zr_iload_n (pc' := 20) zi_78_19 rfl rfl kk) ?_
    refine zev_of (fun _ kk => zr_iconst (v := (-1)) (pc' := 21) zi_78_20 rfl rfl kk) ?_
    refine zev_of (fun _ kk => zr_rputN (pc' := 24) (rr := 11) (by omega) zi_78_21 hb rfl rfl (fun _ => rfl) (by decide) (by decide) rfl rfl kk) ?_
    refine zev_of (fun _ kk => zr_aload_n (pc' := 25) zi_78_24 rfl rfl kk) ?_
    refine zev_of (fun _ kk => zr_get (pc' := 28) zi_78_25 (nput_at hb (k := 1) rfl) rfl rfl kk) ?_
    refine zev_of (fun _ kk => zr_iload_n (pc' := 29) zi_78_28 rfl rfl kk) ?_
    refine zev_of (fun _ kk => zr_atN (pc' := 32) (by omega) zi_78_29 hb rfl rfl (by decide) rfl rfl kk) ?_
    refine zv_if (pc' := 35) zi_78_32 rfl (fun h32 => ?_) (fun h32 => ?_)
    · replace h32 := zx_lt_t h32
      refine zev_of (fun _ kk => zr_iinc (pc' := 119) zi_78_116 rfl (by first | exact n_inc _ | rfl) rfl rfl kk) ?_
      dsimp only [zst1, zst2, zkill, List.set, List.getElem?_cons_succ, List.getElem?_cons_zero]
      refine zev_of (fun _ kk => zr_goto zi_78_119 kk) ?_
      refine zev_mono (l_find hb (updR F 11 (upd (F 11) i (-1))) g gap hn C Z (i + 1) (by omega) (zses_neg q h32 (zup_rf _ _ _) (fun r hr => updR_ne hr)) X Y) ?_
      rintro p ⟨F', g', ⟨h1, h2⟩, rfl⟩
      exact ⟨F', g', ⟨fun r hr => (h1 r hr).trans (updR_ne (by omega)), h2⟩, rfl⟩
    · replace h32 := zx_lt_f h32
      have h32' := Int32.not_lt.mp h32
      have hjc := c_joined hb (F := updR F 11 (upd (F 11) i (-1))) (g := g) i gap (by omega)
      rw [zjn_of (F := F) (F' := updR F 11 (upd (F 11) i (-1))) rfl rfl] at hjc
      have hrec : ∀ F1 S1 C1 Z1, zonS F F1 → zses F1 S1 gap (i + 1) C1 Z1 → ∀ g1, g1 = updG g 4 S1 → ∀ X Y, zev 78 7 [some (.ref (b + 26)), some (.ref (b + 1)), some (.int gap), some (.int (nI (i + 1))), X, Y] [] (nput b F1 g1 h) (zQn b h fun F' g' => zonS F F' ∧ ∃ S C Z, g' = updG g 4 S ∧ zses F' S gap (g 0) C Z) := by
        intro F1 S1 C1 Z1 ho hq g1 e X Y
        subst e
        refine zev_mono (l_find hb F1 (updG g 4 S1) gap hn C1 Z1 (i + 1) (by exact (by omega : i + 1 ≤ g 0)) hq X Y) ?_
        rintro p ⟨F', g', ⟨h1, S2, C2, Z2, h2, h3⟩, rfl⟩
        refine ⟨F', g', ⟨fun r hr => (h1 r hr).trans (ho r hr), S2, C2, Z2, ?_, h3⟩, rfl⟩
        rw [h2]
        funext k
        unfold updG
        split <;> rfl
      rcases zjn_cases F i gap i with hj | ⟨j, hji, hj, hkj, hgap, hlast⟩
      · rw [hj] at hjc
        refine zev_of (fun _ kk => zr_aload_n (pc' := 36) zi_78_35 rfl rfl kk) ?_
        refine zev_of (fun _ kk => zr_iload_n (pc' := 37) zi_78_36 rfl rfl kk) ?_
        refine zev_of (fun _ kk => zr_iload_n (pc' := 38) zi_78_37 rfl rfl kk) ?_
        refine zev_of (fun _ kk => zr_v2 (pc' := 41) zi_78_38 (nput_at hb (k := 1) rfl) rfl hjc rfl kk) ?_
        refine zev_of (fun _ kk => zr_istore (pc' := 43) zi_78_41 (Nat.le_of_ble_eq_true rfl) rfl rfl kk) ?_
        dsimp only [zst1, zst2, zkill, List.set, List.getElem?_cons_succ, List.getElem?_cons_zero]
        refine zev_of (fun _ kk => zr_iload (pc' := 45) zi_78_43 rfl rfl kk) ?_
        refine zev_of (fun _ kk => zr_iconst (v := (-1)) (pc' := 46) zi_78_45 rfl rfl kk) ?_
        refine zv_icmp (pc' := 49) zi_78_46 rfl (fun h46 => ?_) (fun h46 => ?_)
        · replace h46 := zc_ne_t h46
          exact absurd rfl h46
        · replace h46 := zc_ne_f h46
          refine zev_of (fun _ kk => zr_aload_n (pc' := 50) zi_78_49 rfl rfl kk) ?_
          refine zev_of (fun _ kk => zr_iload_n (pc' := 51) zi_78_50 rfl rfl kk) ?_
          refine zev_of (fun _ kk => zr_v1 (pc' := 54) zi_78_51 (nput_at hb (k := 26) rfl) rfl (c_begin hb _ _ _ (by omega)) rfl kk) ?_
          refine zev_of (fun _ kk => zr_goto zi_78_54 kk) ?_
          refine zev_of (fun _ kk => zr_istore (pc' := 66) zi_78_64 (Nat.le_of_ble_eq_true rfl) rfl rfl kk) ?_
          dsimp only [zst1, zst2, zkill, List.set, List.getElem?_cons_succ, List.getElem?_cons_zero]
          refine zev_of (fun _ kk => zr_aload_n (pc' := 67) zi_78_66 rfl rfl kk) ?_
          refine zev_of (fun _ kk => zr_get (pc' := 70) zi_78_67 (nput_at hb (k := 26) rfl) rfl rfl kk) ?_
          refine zev_of (fun _ kk => zr_iload_n (pc' := 71) zi_78_70 rfl rfl kk) ?_
          refine zev_of (fun _ kk => zr_iload (pc' := 73) zi_78_71 rfl rfl kk) ?_
          refine zev_of (fun _ kk => zr_rputN (pc' := 76) (rr := 11) (by omega) zi_78_73 hb rfl rfl (fun _ => rfl) (by decide) (by decide) rfl rfl kk) ?_
          refine zev_of (fun _ kk => zr_aload_n (pc' := 77) zi_78_76 rfl rfl kk) ?_
          refine zev_of (fun _ kk => zr_get (pc' := 80) zi_78_77 (nput_at hb (k := 26) rfl) rfl rfl kk) ?_
          refine zev_of (fun _ kk => zr_iload (pc' := 82) zi_78_80 rfl rfl kk) ?_
          refine zev_of (fun _ kk => zr_iload_n (pc' := 83) zi_78_82 rfl rfl kk) ?_
          refine zev_of (fun _ kk => zr_rputN (pc' := 86) (rr := 14) (by omega) zi_78_83 hb rfl rfl (fun _ => rfl) (by decide) (by decide) rfl rfl kk) ?_
          refine zev_of (fun _ kk => zr_aload_n (pc' := 87) zi_78_86 rfl rfl kk) ?_
          refine zev_of (fun _ kk => zr_get (pc' := 90) zi_78_87 (nput_at hb (k := 26) rfl) rfl rfl kk) ?_
          refine zev_of (fun _ kk => zr_iload (pc' := 92) zi_78_90 rfl rfl kk) ?_
          refine zev_of (fun _ kk => zr_rinc (pc' := 95) (rr := 15) zi_78_92 hb rfl rfl (fun _ => rfl) (by decide) (by decide) rfl rfl kk) ?_
          refine zev_of (fun _ kk => zr_aload_n (pc' := 96) zi_78_95 rfl rfl kk) ?_
          refine zev_of (fun _ kk => zr_get (pc' := 99) zi_78_96 (nput_at hb (k := 1) rfl) rfl rfl kk) ?_
          refine zev_of (fun _ kk => zr_iload_n (pc' := 100) zi_78_99 rfl rfl kk) ?_
          refine zev_of (fun _ kk => zr_atN (pc' := 103) (by omega) zi_78_100 hb rfl rfl (by decide) rfl rfl kk) ?_
          refine zev_of (fun _ kk => zr_iconst (v := (nI 3)) (pc' := 104) zi_78_103 rfl rfl kk) ?_
          refine zv_icmp (pc' := 107) zi_78_104 rfl (fun h104 => ?_) (fun h104 => ?_)
          · replace h104 := zc_ne_t h104
            refine zev_of (fun _ kk => zr_iinc (pc' := 119) zi_78_116 rfl (by first | exact n_inc _ | rfl) rfl rfl kk) ?_
            dsimp only [zst1, zst2, zkill, List.set, List.getElem?_cons_succ, List.getElem?_cons_zero]
            refine zev_of (fun _ kk => zr_goto zi_78_119 kk) ?_
            refine hrec _ (g 4 + 1) ?C1 ?Z1 ?ho1 ?hq1 _ rfl _ _
            case hq1 =>
              refine zses_new (w := 0) q h32' hj ?_ ?_ ?_ ?_ ?_ ?_ ?_ ?_ ?_
              · exact zup_2 _ _ _ _
              · exact rfl
              · exact zup_rf _ _ _
              · exact zup_rf _ _ _
              · exact zup_in (by omega) (zup_rf _ _ _)
              · exact (by omega)
              · exact zup_rf _ _ _
              · exact rfl
              · exact rfl
            case ho1 =>
              intro r hr
              rw [updR_ne (by omega), updR_ne (by omega), updR_ne (by omega), updR_ne (by omega), updR_ne (by omega), updR_ne (by omega), updR_ne (by omega)]
          · replace h104 := zc_ne_f h104
            refine zev_of (fun _ kk => zr_aload_n (pc' := 108) zi_78_107 rfl rfl kk) ?_
            refine zev_of (fun _ kk => zr_get (pc' := 111) zi_78_108 (nput_at hb (k := 26) rfl) rfl rfl kk) ?_
            refine zev_of (fun _ kk => zr_iload (pc' := 113) zi_78_111 rfl rfl kk) ?_
            refine zev_of (fun _ kk => zr_rinc (pc' := 116) (rr := 16) zi_78_113 hb rfl rfl (fun _ => rfl) (by decide) (by decide) rfl rfl kk) ?_
            refine zev_of (fun _ kk => zr_iinc (pc' := 119) zi_78_116 rfl (by first | exact n_inc _ | rfl) rfl rfl kk) ?_
            dsimp only [zst1, zst2, zkill, List.set, List.getElem?_cons_succ, List.getElem?_cons_zero]
            refine zev_of (fun _ kk => zr_goto zi_78_119 kk) ?_
            refine hrec _ (g 4 + 1) ?C2 ?Z2 ?ho2 ?hq2 _ rfl _ _
            case hq2 =>
              refine zses_new (w := 1) q h32' hj ?_ ?_ ?_ ?_ ?_ ?_ ?_ ?_ ?_
              · exact zup_2 _ _ _ _
              · exact rfl
              · exact zup_rf _ _ _
              · exact zup_rf _ _ _
              · exact zup_in (by omega) (zup_rf _ _ _)
              · exact (by omega)
              · exact zup_in (by omega) (zup_rf _ _ _)
              · exact rfl
              · exact rfl
            case ho2 =>
              intro r hr
              rw [updR_ne (by omega), updR_ne (by omega), updR_ne (by omega), updR_ne (by omega), updR_ne (by omega), updR_ne (by omega), updR_ne (by omega), updR_ne (by omega)]
      · rw [hj] at hjc
        obtain ⟨s, k, hs, hk, hsk, hsj⟩ : ∃ s k, s < g 4 ∧ k < Z s ∧ C s k = j ∧ F 11 j = nI s := by
          rcases q.ln j hji with ⟨w, _⟩ | ⟨_, w⟩
          · rw [hkj] at w
            exact absurd w h32
          · exact w
        have hkz : k = Z s - 1 := by
          refine Nat.le_antisymm (by omega) (Nat.le_of_not_lt fun hlt => ?_)
          have h1 := (q.ch s hs k (by omega)).1
          have h2 := q.el s hs (k + 1) (by omega)
          have h3 := (q.el s hs k hk).2.2
          refine hlast (C s (k + 1)) (by omega) h2.1 ?_
          rw [h2.2.2, ← h3, hsk, hkj]
        obtain ⟨hz0, hzi, hq1, hq2, hq3, w, hw, hq4⟩ := q.sz s hs
        refine zev_of (fun _ kk => zr_aload_n (pc' := 36) zi_78_35 rfl rfl kk) ?_
        refine zev_of (fun _ kk => zr_iload_n (pc' := 37) zi_78_36 rfl rfl kk) ?_
        refine zev_of (fun _ kk => zr_iload_n (pc' := 38) zi_78_37 rfl rfl kk) ?_
        refine zev_of (fun _ kk => zr_v2 (pc' := 41) zi_78_38 (nput_at hb (k := 1) rfl) rfl hjc rfl kk) ?_
        refine zev_of (fun _ kk => zr_istore (pc' := 43) zi_78_41 (Nat.le_of_ble_eq_true rfl) rfl rfl kk) ?_
        dsimp only [zst1, zst2, zkill, List.set, List.getElem?_cons_succ, List.getElem?_cons_zero]
        refine zev_of (fun _ kk => zr_iload (pc' := 45) zi_78_43 rfl rfl kk) ?_
        refine zev_of (fun _ kk => zr_iconst (v := (-1)) (pc' := 46) zi_78_45 rfl rfl kk) ?_
        refine zv_icmp (pc' := 49) zi_78_46 rfl (fun h46 => ?_) (fun h46 => ?_)
        · replace h46 := zc_ne_t h46
          refine zev_of (fun _ kk => zr_aload_n (pc' := 58) zi_78_57 rfl rfl kk) ?_
          refine zev_of (fun _ kk => zr_iload (pc' := 60) zi_78_58 rfl rfl kk) ?_
          refine zev_of (fun _ kk => zr_iload_n (pc' := 61) zi_78_60 rfl rfl kk) ?_
          refine zev_of (fun _ kk => zr_v2 (pc' := 64) zi_78_61 (nput_at hb (k := 26) rfl) rfl (c_goOn hb _ _ j i (nI s) (by omega) ((pk_un (by omega)).trans hsj)) rfl kk) ?_
          refine zev_of (fun _ kk => zr_istore (pc' := 66) zi_78_64 (Nat.le_of_ble_eq_true rfl) rfl rfl kk) ?_
          dsimp only [zst1, zst2, zkill, List.set, List.getElem?_cons_succ, List.getElem?_cons_zero]
          refine zev_of (fun _ kk => zr_aload_n (pc' := 67) zi_78_66 rfl rfl kk) ?_
          refine zev_of (fun _ kk => zr_get (pc' := 70) zi_78_67 (nput_at hb (k := 26) rfl) rfl rfl kk) ?_
          refine zev_of (fun _ kk => zr_iload_n (pc' := 71) zi_78_70 rfl rfl kk) ?_
          refine zev_of (fun _ kk => zr_iload (pc' := 73) zi_78_71 rfl rfl kk) ?_
          refine zev_of (fun _ kk => zr_rputN (pc' := 76) (rr := 11) (by omega) zi_78_73 hb rfl rfl (fun _ => rfl) (by decide) (by decide) rfl rfl kk) ?_
          refine zev_of (fun _ kk => zr_aload_n (pc' := 77) zi_78_76 rfl rfl kk) ?_
          refine zev_of (fun _ kk => zr_get (pc' := 80) zi_78_77 (nput_at hb (k := 26) rfl) rfl rfl kk) ?_
          refine zev_of (fun _ kk => zr_iload (pc' := 82) zi_78_80 rfl rfl kk) ?_
          refine zev_of (fun _ kk => zr_iload_n (pc' := 83) zi_78_82 rfl rfl kk) ?_
          refine zev_of (fun _ kk => zr_rputN (pc' := 86) (rr := 14) (by omega) zi_78_83 hb rfl rfl (fun _ => rfl) (by decide) (by decide) rfl rfl kk) ?_
          refine zev_of (fun _ kk => zr_aload_n (pc' := 87) zi_78_86 rfl rfl kk) ?_
          refine zev_of (fun _ kk => zr_get (pc' := 90) zi_78_87 (nput_at hb (k := 26) rfl) rfl rfl kk) ?_
          refine zev_of (fun _ kk => zr_iload (pc' := 92) zi_78_90 rfl rfl kk) ?_
          refine zev_of (fun _ kk => zr_rinc (pc' := 95) (rr := 15) zi_78_92 hb rfl rfl (fun _ => rfl) (by decide) (by decide) rfl rfl kk) ?_
          refine zev_of (fun _ kk => zr_aload_n (pc' := 96) zi_78_95 rfl rfl kk) ?_
          refine zev_of (fun _ kk => zr_get (pc' := 99) zi_78_96 (nput_at hb (k := 1) rfl) rfl rfl kk) ?_
          refine zev_of (fun _ kk => zr_iload_n (pc' := 100) zi_78_99 rfl rfl kk) ?_
          refine zev_of (fun _ kk => zr_atN (pc' := 103) (by omega) zi_78_100 hb rfl rfl (by decide) rfl rfl kk) ?_
          refine zev_of (fun _ kk => zr_iconst (v := (nI 3)) (pc' := 104) zi_78_103 rfl rfl kk) ?_
          refine zv_icmp (pc' := 107) zi_78_104 rfl (fun h104 => ?_) (fun h104 => ?_)
          · replace h104 := zc_ne_t h104
            refine zev_of (fun _ kk => zr_iinc (pc' := 119) zi_78_116 rfl (by first | exact n_inc _ | rfl) rfl rfl kk) ?_
            dsimp only [zst1, zst2, zkill, List.set, List.getElem?_cons_succ, List.getElem?_cons_zero]
            refine zev_of (fun _ kk => zr_goto zi_78_119 kk) ?_
            refine hrec _ (g 4) ?C3 ?Z3 ?ho3 ?hq3 _ ?he3 _ _
            case hq3 =>
              refine zses_on (w := w) q (by omega) h32' hji hj hs (hkz ▸ hsk) hkj hgap ?_ ?_ ?_ ?_ ?_ ?_ ?_ ?_ ?_
              · exact zup_2 _ _ _ _
              · exact zup_rf _ _ _
              · exact rfl
              · exact zup_rf _ _ _
              · exact zup_in (by omega) (zup_same hq3)
              · exact (by omega)
              · exact zup_same hq4
              · exact rfl
              · exact rfl
            case ho3 =>
              intro r hr
              rw [updR_ne (by omega), updR_ne (by omega), updR_ne (by omega), updR_ne (by omega), updR_ne (by omega)]
            case he3 =>
              funext k
              unfold updG
              split
              · rename_i w
                rw [w]
              · rfl
          · replace h104 := zc_ne_f h104
            refine zev_of (fun _ kk => zr_aload_n (pc' := 108) zi_78_107 rfl rfl kk) ?_
            refine zev_of (fun _ kk => zr_get (pc' := 111) zi_78_108 (nput_at hb (k := 26) rfl) rfl rfl kk) ?_
            refine zev_of (fun _ kk => zr_iload (pc' := 113) zi_78_111 rfl rfl kk) ?_
            refine zev_of (fun _ kk => zr_rinc (pc' := 116) (rr := 16) zi_78_113 hb rfl rfl (fun _ => rfl) (by decide) (by decide) rfl rfl kk) ?_
            refine zev_of (fun _ kk => zr_iinc (pc' := 119) zi_78_116 rfl (by first | exact n_inc _ | rfl) rfl rfl kk) ?_
            dsimp only [zst1, zst2, zkill, List.set, List.getElem?_cons_succ, List.getElem?_cons_zero]
            refine zev_of (fun _ kk => zr_goto zi_78_119 kk) ?_
            refine hrec _ (g 4) ?C4 ?Z4 ?ho4 ?hq4 _ ?he4 _ _
            case hq4 =>
              refine zses_on (w := w + 1) q (by omega) h32' hji hj hs (hkz ▸ hsk) hkj hgap ?_ ?_ ?_ ?_ ?_ ?_ ?_ ?_ ?_
              · exact zup_2 _ _ _ _
              · exact zup_rf _ _ _
              · exact rfl
              · exact zup_rf _ _ _
              · exact zup_in (by omega) (zup_same hq3)
              · exact (by omega)
              · exact zup_in (by omega) (zup_same hq4)
              · exact rfl
              · exact rfl
            case ho4 =>
              intro r hr
              rw [updR_ne (by omega), updR_ne (by omega), updR_ne (by omega), updR_ne (by omega), updR_ne (by omega), updR_ne (by omega)]
            case he4 =>
              funext k
              unfold updG
              split
              · rename_i w
                rw [w]
              · rfl
        · replace h46 := zc_ne_f h46
          exact absurd h46 (nI_neg (by omega))
termination_by g 0 - i
decreasing_by all_goals (show g 0 - (i + 1) < g 0 - i; omega)
theorem c_find (hb : b + 71 ≤ h.length) (F : Nat → Nat → Int32) (g : Nat → Nat) (gap : Int32) (hn : g 0 ≤ 70) : ∃ F' g', (zonS F F' ∧ ∃ S C Z, g' = updG g 4 S ∧ zses F' S gap (g 0) C Z) ∧ zcalls zTB 78 [.ref (b + 26), .ref (b + 1), .int gap] (nput b F g h) (none, nput b F' g' h) := by
  refine zQn_out (zev_calls (Nat.le_of_ble_eq_true rfl) ?_)
  show zev 78 0 [some (.ref (b + 26)), some (.ref (b + 1)), some (.int gap), none, none, none] [] _ _
  refine zev_of (fun _ kk => zr_aload_n (pc' := 1) zi_78_0 rfl rfl kk) ?_
  refine zev_of (fun _ kk => zr_iconst (v := (nI 0)) (pc' := 2) zi_78_1 rfl rfl kk) ?_
  refine zev_of (fun _ kk => zr_put (pc' := 5) zi_78_2 (by omega) (nput_at hb (k := 26) rfl) (Nat.le_of_ble_eq_true rfl) rfl rfl (nput_set (g' := updG _ 4 (0)) hb (by decide) rfl) kk) ?_
  refine zev_of (fun _ kk => zr_iconst (v := (nI 0)) (pc' := 6) zi_78_5 rfl rfl kk) ?_
  refine zev_of (fun _ kk => zr_istore_n (pc' := 7) zi_78_6 (Nat.le_of_ble_eq_true rfl) rfl rfl kk) ?_
  dsimp only [zst1, zst2, zkill, List.set, List.getElem?_cons_succ, List.getElem?_cons_zero]
  refine zev_mono (l_find hb F (updG g 4 0) gap hn (fun _ _ => 0) (fun _ => 0) 0 (Nat.zero_le _) ?_ none none) ?_
  · refine ⟨Nat.le_refl _, ?_, ?_, ?_, ?_, ?_, rfl, rfl⟩
    · intro s hs
      exact absurd hs (Nat.not_lt_zero _)
    · intro s hs
      exact absurd hs (Nat.not_lt_zero _)
    · intro s hs
      exact absurd hs (Nat.not_lt_zero _)
    · intro s hs
      exact absurd hs (Nat.not_lt_zero _)
    · intro s hs
      exact absurd hs (Nat.not_lt_zero _)
  · rintro p ⟨F', g', ⟨h1, S2, C2, Z2, h2, h3⟩, rfl⟩
    refine ⟨F', g', ⟨h1, S2, C2, Z2, ?_, h3⟩, rfl⟩
    rw [h2]
    funext k
    unfold updG
    split <;> rfl
end
end
section
theorem zi_28_0 : zI 28 0 = some (.aload_n 0, []) := by decide +kernel
theorem zi_28_1 : zI 28 1 = some (.getfield 38, [3, 7, 98]) := by decide +kernel
theorem zi_28_4 : zI 28 4 = some (.aload_n 0, []) := by decide +kernel
theorem zi_28_5 : zI 28 5 = some (.getfield 35, [3, 6, 99]) := by decide +kernel
theorem zi_28_8 : zI 28 8 = some (.iload_n 1, []) := by decide +kernel
theorem zi_28_9 : zI 28 9 = some (.invokevirtual 55, [0, 0, 1, 1, 10, 11, 12, 9, 0, 100]) := by decide +kernel
theorem zi_28_12 : zI 28 12 = some (.invokevirtual 55, [0, 0, 1, 1, 10, 11, 12, 9, 0, 100]) := by decide +kernel
theorem zi_28_15 : zI 28 15 = some (.ireturn, []) := by decide +kernel
theorem zi_81_0 : zI 81 0 = some (.aload_n 0, []) := by decide +kernel
theorem zi_81_1 : zI 81 1 = some (.getfield 38, [3, 7, 98]) := by decide +kernel
theorem zi_81_4 : zI 81 4 = some (.invokevirtual 75, [15, 0, 0, 1, 264, 265, 12, 263, 0, 317]) := by decide +kernel
theorem zi_81_7 : zI 81 7 = some (.iconst 0, []) := by decide +kernel
theorem zi_81_8 : zI 81 8 = some (.istore_n 2, []) := by decide +kernel
theorem zi_81_9 : zI 81 9 = some (.iload_n 2, []) := by decide +kernel
theorem zi_81_10 : zI 81 10 = some (.aload_n 0, []) := by decide +kernel
theorem zi_81_11 : zI 81 11 = some (.getfield 41, [3, 8, 299]) := by decide +kernel
theorem zi_81_14 : zI 81 14 = some (.if_icmp .ge 49, [63]) := by decide +kernel
theorem zi_81_17 : zI 81 17 = some (.iconst 0, []) := by decide +kernel
theorem zi_81_18 : zI 81 18 = some (.istore_n 3, []) := by decide +kernel
theorem zi_81_19 : zI 81 19 = some (.iload_n 3, []) := by decide +kernel
theorem zi_81_20 : zI 81 20 = some (.iload_n 2, []) := by decide +kernel
theorem zi_81_21 : zI 81 21 = some (.if_icmp .ge 19, [40]) := by decide +kernel
theorem zi_81_24 : zI 81 24 = some (.aload_n 0, []) := by decide +kernel
theorem zi_81_25 : zI 81 25 = some (.aload_n 1, []) := by decide +kernel
theorem zi_81_26 : zI 81 26 = some (.iload_n 3, []) := by decide +kernel
theorem zi_81_27 : zI 81 27 = some (.iload_n 2, []) := by decide +kernel
theorem zi_81_28 : zI 81 28 = some (.invokevirtual 78, [82, 0, 3, 3, 320, 321, 61, 319, 0, 318]) := by decide +kernel
theorem zi_81_31 : zI 81 31 = some (.ifCond .ne 9, [40]) := by decide +kernel
theorem zi_81_34 : zI 81 34 = some (.iinc 3 1, []) := by decide +kernel
theorem zi_81_37 : zI 81 37 = some (.goto (-18), [19]) := by decide +kernel
theorem zi_81_40 : zI 81 40 = some (.aload_n 0, []) := by decide +kernel
theorem zi_81_41 : zI 81 41 = some (.getfield 35, [3, 6, 99]) := by decide +kernel
theorem zi_81_44 : zI 81 44 = some (.iload_n 2, []) := by decide +kernel
theorem zi_81_45 : zI 81 45 = some (.iload_n 3, []) := by decide +kernel
theorem zi_81_46 : zI 81 46 = some (.invokevirtual 48, [1, 0, 2, 1, 234, 235, 12, 233, 0, 301]) := by decide +kernel
theorem zi_81_49 : zI 81 49 = some (.aload_n 0, []) := by decide +kernel
theorem zi_81_50 : zI 81 50 = some (.getfield 38, [3, 7, 98]) := by decide +kernel
theorem zi_81_53 : zI 81 53 = some (.iload_n 3, []) := by decide +kernel
theorem zi_81_54 : zI 81 54 = some (.invokevirtual 69, [7, 0, 1, 1, 269, 270, 12, 268, 0, 315]) := by decide +kernel
theorem zi_81_57 : zI 81 57 = some (.iinc 2 1, []) := by decide +kernel
theorem zi_81_60 : zI 81 60 = some (.goto (-51), [9]) := by decide +kernel
theorem zi_81_63 : zI 81 63 = some (.return_, []) := by decide +kernel
theorem zi_82_0 : zI 82 0 = some (.aload_n 0, []) := by decide +kernel
theorem zi_82_1 : zI 82 1 = some (.getfield 29, [3, 4, 297]) := by decide +kernel
theorem zi_82_4 : zI 82 4 = some (.iload_n 2, []) := by decide +kernel
theorem zi_82_5 : zI 82 5 = some (.invokevirtual 55, [0, 0, 1, 1, 10, 11, 12, 9, 0, 100]) := by decide +kernel
theorem zi_82_8 : zI 82 8 = some (.aload_n 0, []) := by decide +kernel
theorem zi_82_9 : zI 82 9 = some (.getfield 29, [3, 4, 297]) := by decide +kernel
theorem zi_82_12 : zI 82 12 = some (.iload_n 3, []) := by decide +kernel
theorem zi_82_13 : zI 82 13 = some (.invokevirtual 55, [0, 0, 1, 1, 10, 11, 12, 9, 0, 100]) := by decide +kernel
theorem zi_82_16 : zI 82 16 = some (.if_icmp .eq 5, [21]) := by decide +kernel
theorem zi_82_19 : zI 82 19 = some (.iconst 0, []) := by decide +kernel
theorem zi_82_20 : zI 82 20 = some (.ireturn, []) := by decide +kernel
theorem zi_82_21 : zI 82 21 = some (.aload_n 0, []) := by decide +kernel
theorem zi_82_22 : zI 82 22 = some (.getfield 23, [3, 2, 295]) := by decide +kernel
theorem zi_82_25 : zI 82 25 = some (.iload_n 2, []) := by decide +kernel
theorem zi_82_26 : zI 82 26 = some (.invokevirtual 55, [0, 0, 1, 1, 10, 11, 12, 9, 0, 100]) := by decide +kernel
theorem zi_82_29 : zI 82 29 = some (.istore 4, []) := by decide +kernel
theorem zi_82_31 : zI 82 31 = some (.aload_n 0, []) := by decide +kernel
theorem zi_82_32 : zI 82 32 = some (.getfield 23, [3, 2, 295]) := by decide +kernel
theorem zi_82_35 : zI 82 35 = some (.iload_n 3, []) := by decide +kernel
theorem zi_82_36 : zI 82 36 = some (.invokevirtual 55, [0, 0, 1, 1, 10, 11, 12, 9, 0, 100]) := by decide +kernel
theorem zi_82_39 : zI 82 39 = some (.istore 5, []) := by decide +kernel
theorem zi_82_41 : zI 82 41 = some (.iconst 0, []) := by decide +kernel
theorem zi_82_42 : zI 82 42 = some (.istore 6, []) := by decide +kernel
theorem zi_82_44 : zI 82 44 = some (.iload 6, []) := by decide +kernel
theorem zi_82_46 : zI 82 46 = some (.aload_n 0, []) := by decide +kernel
theorem zi_82_47 : zI 82 47 = some (.getfield 29, [3, 4, 297]) := by decide +kernel
theorem zi_82_50 : zI 82 50 = some (.iload_n 2, []) := by decide +kernel
theorem zi_82_51 : zI 82 51 = some (.invokevirtual 55, [0, 0, 1, 1, 10, 11, 12, 9, 0, 100]) := by decide +kernel
theorem zi_82_54 : zI 82 54 = some (.if_icmp .ge 54, [108]) := by decide +kernel
theorem zi_82_57 : zI 82 57 = some (.aload_n 1, []) := by decide +kernel
theorem zi_82_58 : zI 82 58 = some (.getfield 82, [0, 5, 322]) := by decide +kernel
theorem zi_82_61 : zI 82 61 = some (.iload 4, []) := by decide +kernel
theorem zi_82_63 : zI 82 63 = some (.invokevirtual 55, [0, 0, 1, 1, 10, 11, 12, 9, 0, 100]) := by decide +kernel
theorem zi_82_66 : zI 82 66 = some (.aload_n 1, []) := by decide +kernel
theorem zi_82_67 : zI 82 67 = some (.getfield 82, [0, 5, 322]) := by decide +kernel
theorem zi_82_70 : zI 82 70 = some (.iload 5, []) := by decide +kernel
theorem zi_82_72 : zI 82 72 = some (.invokevirtual 55, [0, 0, 1, 1, 10, 11, 12, 9, 0, 100]) := by decide +kernel
theorem zi_82_75 : zI 82 75 = some (.if_icmp .eq 5, [80]) := by decide +kernel
theorem zi_82_78 : zI 82 78 = some (.iconst 0, []) := by decide +kernel
theorem zi_82_79 : zI 82 79 = some (.ireturn, []) := by decide +kernel
theorem zi_82_80 : zI 82 80 = some (.aload_n 0, []) := by decide +kernel
theorem zi_82_81 : zI 82 81 = some (.getfield 20, [3, 1, 294]) := by decide +kernel
theorem zi_82_84 : zI 82 84 = some (.iload 4, []) := by decide +kernel
theorem zi_82_86 : zI 82 86 = some (.invokevirtual 55, [0, 0, 1, 1, 10, 11, 12, 9, 0, 100]) := by decide +kernel
theorem zi_82_89 : zI 82 89 = some (.istore 4, []) := by decide +kernel
theorem zi_82_91 : zI 82 91 = some (.aload_n 0, []) := by decide +kernel
theorem zi_82_92 : zI 82 92 = some (.getfield 20, [3, 1, 294]) := by decide +kernel
theorem zi_82_95 : zI 82 95 = some (.iload 5, []) := by decide +kernel
theorem zi_82_97 : zI 82 97 = some (.invokevirtual 55, [0, 0, 1, 1, 10, 11, 12, 9, 0, 100]) := by decide +kernel
theorem zi_82_100 : zI 82 100 = some (.istore 5, []) := by decide +kernel
theorem zi_82_102 : zI 82 102 = some (.iinc 6 1, []) := by decide +kernel
theorem zi_82_105 : zI 82 105 = some (.goto (-61), [44]) := by decide +kernel
theorem zi_82_108 : zI 82 108 = some (.iconst 1, []) := by decide +kernel
theorem zi_82_109 : zI 82 109 = some (.ireturn, []) := by decide +kernel
theorem zi_83_0 : zI 83 0 = some (.aload_n 0, []) := by decide +kernel
theorem zi_83_1 : zI 83 1 = some (.getfield 23, [3, 2, 295]) := by decide +kernel
theorem zi_83_4 : zI 83 4 = some (.iload_n 1, []) := by decide +kernel
theorem zi_83_5 : zI 83 5 = some (.invokevirtual 55, [0, 0, 1, 1, 10, 11, 12, 9, 0, 100]) := by decide +kernel
theorem zi_83_8 : zI 83 8 = some (.istore_n 3, []) := by decide +kernel
theorem zi_83_9 : zI 83 9 = some (.iconst 0, []) := by decide +kernel
theorem zi_83_10 : zI 83 10 = some (.istore 4, []) := by decide +kernel
theorem zi_83_12 : zI 83 12 = some (.iload 4, []) := by decide +kernel
theorem zi_83_14 : zI 83 14 = some (.iload_n 2, []) := by decide +kernel
theorem zi_83_15 : zI 83 15 = some (.if_icmp .ge 18, [33]) := by decide +kernel
theorem zi_83_18 : zI 83 18 = some (.aload_n 0, []) := by decide +kernel
theorem zi_83_19 : zI 83 19 = some (.getfield 20, [3, 1, 294]) := by decide +kernel
theorem zi_83_22 : zI 83 22 = some (.iload_n 3, []) := by decide +kernel
theorem zi_83_23 : zI 83 23 = some (.invokevirtual 55, [0, 0, 1, 1, 10, 11, 12, 9, 0, 100]) := by decide +kernel
theorem zi_83_26 : zI 83 26 = some (.istore_n 3, []) := by decide +kernel
theorem zi_83_27 : zI 83 27 = some (.iinc 4 1, []) := by decide +kernel
theorem zi_83_30 : zI 83 30 = some (.goto (-18), [12]) := by decide +kernel
theorem zi_83_33 : zI 83 33 = some (.iload_n 3, []) := by decide +kernel
theorem zi_83_34 : zI 83 34 = some (.ireturn, []) := by decide +kernel
theorem zi_85_0 : zI 85 0 = some (.iconst 0, []) := by decide +kernel
theorem zi_85_1 : zI 85 1 = some (.istore_n 1, []) := by decide +kernel
theorem zi_85_2 : zI 85 2 = some (.iconst 0, []) := by decide +kernel
theorem zi_85_3 : zI 85 3 = some (.istore_n 2, []) := by decide +kernel
theorem zi_85_4 : zI 85 4 = some (.iload_n 2, []) := by decide +kernel
theorem zi_85_5 : zI 85 5 = some (.aload_n 0, []) := by decide +kernel
theorem zi_85_6 : zI 85 6 = some (.getfield 41, [3, 8, 299]) := by decide +kernel
theorem zi_85_9 : zI 85 9 = some (.if_icmp .ge 23, [32]) := by decide +kernel
theorem zi_85_12 : zI 85 12 = some (.aload_n 0, []) := by decide +kernel
theorem zi_85_13 : zI 85 13 = some (.getfield 32, [3, 5, 298]) := by decide +kernel
theorem zi_85_16 : zI 85 16 = some (.iload_n 2, []) := by decide +kernel
theorem zi_85_17 : zI 85 17 = some (.invokevirtual 55, [0, 0, 1, 1, 10, 11, 12, 9, 0, 100]) := by decide +kernel
theorem zi_85_20 : zI 85 20 = some (.ifCond .le 6, [26]) := by decide +kernel
theorem zi_85_23 : zI 85 23 = some (.iinc 1 1, []) := by decide +kernel
theorem zi_85_26 : zI 85 26 = some (.iinc 2 1, []) := by decide +kernel
theorem zi_85_29 : zI 85 29 = some (.goto (-25), [4]) := by decide +kernel
theorem zi_85_32 : zI 85 32 = some (.iload_n 1, []) := by decide +kernel
theorem zi_85_33 : zI 85 33 = some (.ireturn, []) := by decide +kernel
theorem zi_86_0 : zI 86 0 = some (.iconst 0, []) := by decide +kernel
theorem zi_86_1 : zI 86 1 = some (.istore_n 1, []) := by decide +kernel
theorem zi_86_2 : zI 86 2 = some (.iconst 0, []) := by decide +kernel
theorem zi_86_3 : zI 86 3 = some (.istore_n 2, []) := by decide +kernel
theorem zi_86_4 : zI 86 4 = some (.iload_n 2, []) := by decide +kernel
theorem zi_86_5 : zI 86 5 = some (.aload_n 0, []) := by decide +kernel
theorem zi_86_6 : zI 86 6 = some (.getfield 41, [3, 8, 299]) := by decide +kernel
theorem zi_86_9 : zI 86 9 = some (.if_icmp .ge 20, [29]) := by decide +kernel
theorem zi_86_12 : zI 86 12 = some (.iload_n 1, []) := by decide +kernel
theorem zi_86_13 : zI 86 13 = some (.aload_n 0, []) := by decide +kernel
theorem zi_86_14 : zI 86 14 = some (.getfield 29, [3, 4, 297]) := by decide +kernel
theorem zi_86_17 : zI 86 17 = some (.iload_n 2, []) := by decide +kernel
theorem zi_86_18 : zI 86 18 = some (.invokevirtual 55, [0, 0, 1, 1, 10, 11, 12, 9, 0, 100]) := by decide +kernel
theorem zi_86_21 : zI 86 21 = some (.iadd, []) := by decide +kernel
theorem zi_86_22 : zI 86 22 = some (.istore_n 1, []) := by decide +kernel
theorem zi_86_23 : zI 86 23 = some (.iinc 2 1, []) := by decide +kernel
theorem zi_86_26 : zI 86 26 = some (.goto (-22), [4]) := by decide +kernel
theorem zi_86_29 : zI 86 29 = some (.iload_n 1, []) := by decide +kernel
theorem zi_86_30 : zI 86 30 = some (.ireturn, []) := by decide +kernel
theorem zi_87_0 : zI 87 0 = some (.iconst (-1), []) := by decide +kernel
theorem zi_87_1 : zI 87 1 = some (.istore_n 1, []) := by decide +kernel
theorem zi_87_2 : zI 87 2 = some (.iconst 0, []) := by decide +kernel
theorem zi_87_3 : zI 87 3 = some (.istore_n 2, []) := by decide +kernel
theorem zi_87_4 : zI 87 4 = some (.iconst 0, []) := by decide +kernel
theorem zi_87_5 : zI 87 5 = some (.istore_n 3, []) := by decide +kernel
theorem zi_87_6 : zI 87 6 = some (.iload_n 3, []) := by decide +kernel
theorem zi_87_7 : zI 87 7 = some (.aload_n 0, []) := by decide +kernel
theorem zi_87_8 : zI 87 8 = some (.getfield 41, [3, 8, 299]) := by decide +kernel
theorem zi_87_11 : zI 87 11 = some (.if_icmp .ge 26, [37]) := by decide +kernel
theorem zi_87_14 : zI 87 14 = some (.aload_n 0, []) := by decide +kernel
theorem zi_87_15 : zI 87 15 = some (.iload_n 3, []) := by decide +kernel
theorem zi_87_16 : zI 87 16 = some (.invokevirtual 90, [28, 0, 1, 3, 329, 330, 61, 328, 0, 327]) := by decide +kernel
theorem zi_87_19 : zI 87 19 = some (.iload_n 2, []) := by decide +kernel
theorem zi_87_20 : zI 87 20 = some (.if_icmp .le 11, [31]) := by decide +kernel
theorem zi_87_23 : zI 87 23 = some (.aload_n 0, []) := by decide +kernel
theorem zi_87_24 : zI 87 24 = some (.iload_n 3, []) := by decide +kernel
theorem zi_87_25 : zI 87 25 = some (.invokevirtual 90, [28, 0, 1, 3, 329, 330, 61, 328, 0, 327]) := by decide +kernel
theorem zi_87_28 : zI 87 28 = some (.istore_n 2, []) := by decide +kernel
theorem zi_87_29 : zI 87 29 = some (.iload_n 3, []) := by decide +kernel
theorem zi_87_30 : zI 87 30 = some (.istore_n 1, []) := by decide +kernel
theorem zi_87_31 : zI 87 31 = some (.iinc 3 1, []) := by decide +kernel
theorem zi_87_34 : zI 87 34 = some (.goto (-28), [6]) := by decide +kernel
theorem zi_87_37 : zI 87 37 = some (.iload_n 1, []) := by decide +kernel
theorem zi_87_38 : zI 87 38 = some (.ireturn, []) := by decide +kernel
/-! sessions: what is asked, and paths -/
section
variable {b : Nat} {F : Nat → Nat → Int32} {g : Nat → Nat} {h : zH}
theorem l_lineIn (hb : b + 71 ≤ h.length) {S : Nat} {gap : Int32} {n : Nat} {C : Nat → Nat → Nat} {Z : Nat → Nat} (q : zses F S gap n C Z) (hn : n ≤ 70) (s k : Nat) (hs : s < S) (hk : k < Z s) (i : Nat) (hi : i ≤ k) : zruns zTB 83 12 [some (.ref (b + 26)), some (.int (nI s)), some (.int (nI k)), some (.int (nI (C s i))), some (.int (nI i))] [] (nput b F g h) (some (.int (nI (C s k))), nput b F g h) := by
  have hz := (q.sz s hs).2.1
  refine zr_iload (pc' := 14) zi_83_12 rfl rfl ?_
  refine zr_iload_n (pc' := 15) zi_83_14 rfl rfl ?_
  refine zr_icmp (pc' := 18) zi_83_15 rfl (fun h15 => ?_) (fun h15 => ?_)
  · replace h15 := zc_ge_t (by omega) (by omega) h15
    refine zr_iload_n (pc' := 34) zi_83_33 rfl rfl ?_
    rw [show k = i by omega]
    exact zr_ireturn zi_83_34 rfl
  · replace h15 := zc_ge_f (by omega) (by omega) h15
    have hc := (q.el s hs i (by omega)).1
    have hx := (q.ch s hs i (by omega)).2.1
    refine zr_aload_n (pc' := 19) zi_83_18 rfl rfl ?_
    refine zr_get (pc' := 22) zi_83_19 (nput_at hb (k := 26) rfl) rfl rfl ?_
    refine zr_iload_n (pc' := 23) zi_83_22 rfl rfl ?_
    refine zr_atN (pc' := 26) (by omega) zi_83_23 hb rfl rfl (by decide) rfl rfl ?_
    rw [hx]
    refine zr_istore_n (pc' := 27) zi_83_26 (Nat.le_of_ble_eq_true rfl) rfl rfl ?_
    dsimp only [zst1, zst2, zkill, List.set, List.getElem?_cons_succ, List.getElem?_cons_zero]
    refine zr_iinc (pc' := 30) zi_83_27 rfl (by first | exact n_inc _ | rfl) rfl rfl ?_
    dsimp only [zst1, zst2, zkill, List.set, List.getElem?_cons_succ, List.getElem?_cons_zero]
    refine zr_goto zi_83_30 ?_
    exact l_lineIn hb q hn s k hs hk (i + 1) (by omega)
termination_by k - i
theorem c_lineIn (hb : b + 71 ≤ h.length) {S : Nat} {gap : Int32} {n : Nat} {C : Nat → Nat → Nat} {Z : Nat → Nat} (q : zses F S gap n C Z) (hn : n ≤ 70) (s k : Nat) (hs : s < S) (hk : k < Z s) : zcalls zTB 83 [.ref (b + 26), .int (nI s), .int (nI k)] (nput b F g h) (some (.int (nI (C s k))), nput b F g h) := by
  have hz := q.le
  refine zcalls_of (Nat.le_of_ble_eq_true rfl) ?_
  show zruns zTB 83 0 [some (.ref (b + 26)), some (.int (nI s)), some (.int (nI k)), none, none] [] _ _
  refine zr_aload_n (pc' := 1) zi_83_0 rfl rfl ?_
  refine zr_get (pc' := 4) zi_83_1 (nput_at hb (k := 26) rfl) rfl rfl ?_
  refine zr_iload_n (pc' := 5) zi_83_4 rfl rfl ?_
  refine zr_atN (pc' := 8) (by omega) zi_83_5 hb rfl rfl (by decide) rfl rfl ?_
  rw [(q.sz s hs).2.2.1]
  refine zr_istore_n (pc' := 9) zi_83_8 (Nat.le_of_ble_eq_true rfl) rfl rfl ?_
  dsimp only [zst1, zst2, zkill, List.set, List.getElem?_cons_succ, List.getElem?_cons_zero]
  refine zr_iconst (v := (nI 0)) (pc' := 10) zi_83_9 rfl rfl ?_
  refine zr_istore (pc' := 12) zi_83_10 (Nat.le_of_ble_eq_true rfl) rfl rfl ?_
  dsimp only [zst1, zst2, zkill, List.set, List.getElem?_cons_succ, List.getElem?_cons_zero]
  exact l_lineIn hb q hn s k hs hk 0 (by omega)
def zbrk (F : Nat → Nat → Int32) (s : Nat) : Bool := decide (0 < F 16 s)
theorem l_howManyBroken (hb : b + 71 ≤ h.length) (hS : g 4 ≤ 70) (s : Nat) (hs : s ≤ g 4) : zruns zTB 85 4 [some (.ref (b + 26)), some (.int (nI (zcnt (zbrk F) s))), some (.int (nI s))] [] (nput b F g h) (some (.int (nI (zcnt (zbrk F) (g 4)))), nput b F g h) := by
  refine zr_iload_n (pc' := 5) zi_85_4 rfl rfl ?_
  refine zr_aload_n (pc' := 6) zi_85_5 rfl rfl ?_
  refine zr_get (pc' := 9) zi_85_6 (nput_at hb (k := 26) rfl) rfl rfl ?_
  refine zr_icmp (pc' := 12) zi_85_9 rfl (fun h9 => ?_) (fun h9 => ?_)
  · replace h9 := zc_ge_t (by omega) (by omega) h9
    refine zr_iload_n (pc' := 33) zi_85_32 rfl rfl ?_
    rw [show g 4 = s by omega]
    exact zr_ireturn zi_85_33 rfl
  · replace h9 := zc_ge_f (by omega) (by omega) h9
    refine zr_aload_n (pc' := 13) zi_85_12 rfl rfl ?_
    refine zr_get (pc' := 16) zi_85_13 (nput_at hb (k := 26) rfl) rfl rfl ?_
    refine zr_iload_n (pc' := 17) zi_85_16 rfl rfl ?_
    refine zr_atN (pc' := 20) (by omega) zi_85_17 hb rfl rfl (by decide) rfl rfl ?_
    refine zr_if (pc' := 23) zi_85_20 rfl (fun h20 => ?_) (fun h20 => ?_)
    · replace h20 := zx_le_t h20
      refine zr_iinc (pc' := 29) zi_85_26 rfl (by first | exact n_inc _ | rfl) rfl rfl ?_
      dsimp only [zst1, zst2, zkill, List.set, List.getElem?_cons_succ, List.getElem?_cons_zero]
      refine zr_goto zi_85_29 ?_
      have ih := l_howManyBroken hb hS (s + 1) (by omega)
      rw [zcnt_f (by simp only [zbrk, decide_eq_false_iff_not]; exact Int32.not_lt.mpr h20)] at ih
      exact ih
    · replace h20 := zx_le_f h20
      refine zr_iinc (pc' := 26) zi_85_23 rfl (by first | exact n_inc _ | rfl) rfl rfl ?_
      dsimp only [zst1, zst2, zkill, List.set, List.getElem?_cons_succ, List.getElem?_cons_zero]
      refine zr_iinc (pc' := 29) zi_85_26 rfl (by first | exact n_inc _ | rfl) rfl rfl ?_
      dsimp only [zst1, zst2, zkill, List.set, List.getElem?_cons_succ, List.getElem?_cons_zero]
      refine zr_goto zi_85_29 ?_
      have ih := l_howManyBroken hb hS (s + 1) (by omega)
      rw [zcnt_t (by simp only [zbrk, decide_eq_true_eq]; exact Int32.not_le.mp h20)] at ih
      exact ih
termination_by g 4 - s
theorem c_howManyBroken (hb : b + 71 ≤ h.length) (hS : g 4 ≤ 70) : zcalls zTB 85 [.ref (b + 26)] (nput b F g h) (some (.int (nI (zcnt (zbrk F) (g 4)))), nput b F g h) := by
  refine zcalls_of (Nat.le_of_ble_eq_true rfl) ?_
  show zruns zTB 85 0 [some (.ref (b + 26)), none, none] [] _ _
  refine zr_iconst (v := (nI 0)) (pc' := 1) zi_85_0 rfl rfl ?_
  refine zr_istore_n (pc' := 2) zi_85_1 (Nat.le_of_ble_eq_true rfl) rfl rfl ?_
  dsimp only [zst1, zst2, zkill, List.set, List.getElem?_cons_succ, List.getElem?_cons_zero]
  refine zr_iconst (v := (nI 0)) (pc' := 3) zi_85_2 rfl rfl ?_
  refine zr_istore_n (pc' := 4) zi_85_3 (Nat.le_of_ble_eq_true rfl) rfl rfl ?_
  dsimp only [zst1, zst2, zkill, List.set, List.getElem?_cons_succ, List.getElem?_cons_zero]
  exact l_howManyBroken hb hS 0 (Nat.zero_le _)
theorem l_howManyLines (hb : b + 71 ≤ h.length) (hS : g 4 ≤ 70) (Z : Nat → Nat) (hz : ∀ s, s < g 4 → F 15 s = nI (Z s)) (s : Nat) (hs : s ≤ g 4) : zruns zTB 86 4 [some (.ref (b + 26)), some (.int (nI (zsum Z s))), some (.int (nI s))] [] (nput b F g h) (some (.int (nI (zsum Z (g 4)))), nput b F g h) := by
  refine zr_iload_n (pc' := 5) zi_86_4 rfl rfl ?_
  refine zr_aload_n (pc' := 6) zi_86_5 rfl rfl ?_
  refine zr_get (pc' := 9) zi_86_6 (nput_at hb (k := 26) rfl) rfl rfl ?_
  refine zr_icmp (pc' := 12) zi_86_9 rfl (fun h9 => ?_) (fun h9 => ?_)
  · replace h9 := zc_ge_t (by omega) (by omega) h9
    refine zr_iload_n (pc' := 30) zi_86_29 rfl rfl ?_
    rw [show g 4 = s by omega]
    exact zr_ireturn zi_86_30 rfl
  · replace h9 := zc_ge_f (by omega) (by omega) h9
    refine zr_iload_n (pc' := 13) zi_86_12 rfl rfl ?_
    refine zr_aload_n (pc' := 14) zi_86_13 rfl rfl ?_
    refine zr_get (pc' := 17) zi_86_14 (nput_at hb (k := 26) rfl) rfl rfl ?_
    refine zr_iload_n (pc' := 18) zi_86_17 rfl rfl ?_
    refine zr_atN (pc' := 21) (by omega) zi_86_18 hb rfl rfl (by decide) rfl rfl ?_
    rw [hz s (by omega)]
    refine zr_iadd (pc' := 22) zi_86_21 (by first | exact nI_add _ _ | rfl) rfl ?_
    refine zr_istore_n (pc' := 23) zi_86_22 (Nat.le_of_ble_eq_true rfl) rfl rfl ?_
    dsimp only [zst1, zst2, zkill, List.set, List.getElem?_cons_succ, List.getElem?_cons_zero]
    refine zr_iinc (pc' := 26) zi_86_23 rfl (by first | exact n_inc _ | rfl) rfl rfl ?_
    dsimp only [zst1, zst2, zkill, List.set, List.getElem?_cons_succ, List.getElem?_cons_zero]
    refine zr_goto zi_86_26 ?_
    exact l_howManyLines hb hS Z hz (s + 1) (by omega)
termination_by g 4 - s
theorem c_howManyLines (hb : b + 71 ≤ h.length) (hS : g 4 ≤ 70) (Z : Nat → Nat) (hz : ∀ s, s < g 4 → F 15 s = nI (Z s)) : zcalls zTB 86 [.ref (b + 26)] (nput b F g h) (some (.int (nI (zsum Z (g 4)))), nput b F g h) := by
  refine zcalls_of (Nat.le_of_ble_eq_true rfl) ?_
  show zruns zTB 86 0 [some (.ref (b + 26)), none, none] [] _ _
  refine zr_iconst (v := (nI 0)) (pc' := 1) zi_86_0 rfl rfl ?_
  refine zr_istore_n (pc' := 2) zi_86_1 (Nat.le_of_ble_eq_true rfl) rfl rfl ?_
  dsimp only [zst1, zst2, zkill, List.set, List.getElem?_cons_succ, List.getElem?_cons_zero]
  refine zr_iconst (v := (nI 0)) (pc' := 3) zi_86_2 rfl rfl ?_
  refine zr_istore_n (pc' := 4) zi_86_3 (Nat.le_of_ble_eq_true rfl) rfl rfl ?_
  dsimp only [zst1, zst2, zkill, List.set, List.getElem?_cons_succ, List.getElem?_cons_zero]
  exact l_howManyLines hb hS Z hz 0 (Nat.zero_le _)
/-- paths and how many have them -/
def zpth (F : Nat → Nat → Int32) (s : Nat) : Prop := (∀ e, e < s → ∃ p, p ≤ e ∧ F 17 e = nI p) ∧ ∀ p, p < 70 → F 18 p = nI (zcnt (fun e => decide (F 17 e = nI p)) s)
theorem c_howManyAlike (hb : b + 71 ≤ h.length) (S : Nat) (hS : S ≤ 70) (q : zpth F S) (s : Nat) (hs : s < S) : ∃ u, (0 < u ∧ u ≤ 70) ∧ zcalls zTB 28 [.ref (b + 26), .int (nI s)] (nput b F g h) (some (.int (nI u)), nput b F g h) := by
  obtain ⟨p, hp, e⟩ := q.1 s hs
  have e2 := q.2 p (by omega)
  refine ⟨zcnt (fun e => decide (F 17 e = nI p)) S, ⟨?_, Nat.le_trans (zcnt_le _ _) hS⟩, ?_⟩
  · have h1 : zcnt (fun e => decide (F 17 e = nI p)) (s + 1) = zcnt (fun e => decide (F 17 e = nI p)) s + 1 := zcnt_t (by simpa using e)
    have h2 := zcnt_mono (p := fun e => decide (F 17 e = nI p)) (m := s + 1) (n := S) (by omega)
    omega
  refine zcalls_of (Nat.le_of_ble_eq_true rfl) ?_
  show zruns zTB 28 0 [some (.ref (b + 26)), some (.int (nI s))] [] _ _
  refine zr_aload_n (pc' := 1) zi_28_0 rfl rfl ?_
  refine zr_get (pc' := 4) zi_28_1 (nput_at hb (k := 26) rfl) rfl rfl ?_
  refine zr_aload_n (pc' := 5) zi_28_4 rfl rfl ?_
  refine zr_get (pc' := 8) zi_28_5 (nput_at hb (k := 26) rfl) rfl rfl ?_
  refine zr_iload_n (pc' := 9) zi_28_8 rfl rfl ?_
  refine zr_atN (pc' := 12) (by omega) zi_28_9 hb rfl rfl (by decide) rfl rfl ?_
  rw [e]
  refine zr_atN (pc' := 15) (by omega) zi_28_12 hb rfl rfl (by decide) rfl rfl ?_
  rw [e2]
  exact zr_ireturn zi_28_15 rfl
theorem l_mostAlike (hb : b + 71 ≤ h.length) (hS : g 4 ≤ 70) (U : Nat → Nat) (hu : ∀ s, s < g 4 → (0 < U s ∧ U s ≤ 70) ∧ zcalls zTB 28 [.ref (b + 26), .int (nI s)] (nput b F g h) (some (.int (nI (U s))), nput b F g h)) (s M : Nat) (B : Int32) (hs : s ≤ g 4) (hM : ∀ e, e < s → U e ≤ M) (hM2 : M ≤ 70) (hB : (s = 0 ∧ M = 0 ∧ B = -1) ∨ ∃ e, e < s ∧ B = nI e ∧ U e = M) : zev 87 6 [some (.ref (b + 26)), some (.int B), some (.int (nI M)), some (.int (nI s))] [] (nput b F g h) (zQi (nput b F g h) fun r => (g 4 = 0 ∧ r = -1) ∨ ∃ e, e < g 4 ∧ r = nI e ∧ ∀ x, x < g 4 → U x ≤ U e) := by
  refine zev_of (fun _ kk => zr_iload_n (pc' := 7) zi_87_6 rfl rfl kk) ?_
  refine zev_of (fun _ kk => zr_aload_n (pc' := 8) zi_87_7 rfl rfl kk) ?_
  refine zev_of (fun _ kk => zr_get (pc' := 11) zi_87_8 (nput_at hb (k := 26) rfl) rfl rfl kk) ?_
  refine zv_icmp (pc' := 14) zi_87_11 rfl (fun h11 => ?_) (fun h11 => ?_)
  · replace h11 := zc_ge_t (by omega) (by omega) h11
    refine zev_of (fun _ kk => zr_iload_n (pc' := 38) zi_87_37 rfl rfl kk) ?_
    refine zev_ret (zr_ireturn zi_87_38 rfl) ?_
    have e : s = g 4 := by omega
    subst e
    refine ⟨_, ?_, rfl⟩
    rcases hB with ⟨h1, h2, h3⟩ | ⟨e, h1, h2, h3⟩
    · exact .inl ⟨h1, h3⟩
    · exact .inr ⟨e, h1, h2, fun x hx => h3 ▸ hM x hx⟩
  · replace h11 := zc_ge_f (by omega) (by omega) h11
    refine zev_of (fun _ kk => zr_aload_n (pc' := 15) zi_87_14 rfl rfl kk) ?_
    refine zev_of (fun _ kk => zr_iload_n (pc' := 16) zi_87_15 rfl rfl kk) ?_
    obtain ⟨⟨hu0, hu7⟩, hcu⟩ := hu s (by omega)
    refine zev_of (fun _ kk => zr_v1 (pc' := 19) zi_87_16 (nput_at hb (k := 26) rfl) rfl hcu rfl kk) ?_
    refine zev_of (fun _ kk => zr_iload_n (pc' := 20) zi_87_19 rfl rfl kk) ?_
    refine zv_icmp (pc' := 23) zi_87_20 rfl (fun h20 => ?_) (fun h20 => ?_)
    · replace h20 := zc_le_t (by omega) (by omega) h20
      refine zev_of (fun _ kk => zr_iinc (pc' := 34) zi_87_31 rfl (by first | exact n_inc _ | rfl) rfl rfl kk) ?_
      dsimp only [zst1, zst2, zkill, List.set, List.getElem?_cons_succ, List.getElem?_cons_zero]
      refine zev_of (fun _ kk => zr_goto zi_87_34 kk) ?_
      refine l_mostAlike hb hS U hu (s + 1) M B (by omega) (fun e he => ?_) hM2 ?_
      · rcases Nat.lt_or_ge e s with w | w
        · exact hM e w
        · rw [show e = s by omega]
          exact h20
      · rcases hB with ⟨h1, h2, h3⟩ | ⟨e, h1, h2, h3⟩
        · omega
        · exact .inr ⟨e, by omega, h2, h3⟩
    · replace h20 := zc_le_f (by omega) (by omega) h20
      refine zev_of (fun _ kk => zr_aload_n (pc' := 24) zi_87_23 rfl rfl kk) ?_
      refine zev_of (fun _ kk => zr_iload_n (pc' := 25) zi_87_24 rfl rfl kk) ?_
      refine zev_of (fun _ kk => zr_v1 (pc' := 28) zi_87_25 (nput_at hb (k := 26) rfl) rfl hcu rfl kk) ?_
      refine zev_of (fun _ kk => zr_istore_n (pc' := 29) zi_87_28 (Nat.le_of_ble_eq_true rfl) rfl rfl kk) ?_
      dsimp only [zst1, zst2, zkill, List.set, List.getElem?_cons_succ, List.getElem?_cons_zero]
      refine zev_of (fun _ kk => zr_iload_n (pc' := 30) zi_87_29 rfl rfl kk) ?_
      refine zev_of (fun _ kk => zr_istore_n (pc' := 31) zi_87_30 (Nat.le_of_ble_eq_true rfl) rfl rfl kk) ?_
      dsimp only [zst1, zst2, zkill, List.set, List.getElem?_cons_succ, List.getElem?_cons_zero]
      refine zev_of (fun _ kk => zr_iinc (pc' := 34) zi_87_31 rfl (by first | exact n_inc _ | rfl) rfl rfl kk) ?_
      dsimp only [zst1, zst2, zkill, List.set, List.getElem?_cons_succ, List.getElem?_cons_zero]
      refine zev_of (fun _ kk => zr_goto zi_87_34 kk) ?_
      refine l_mostAlike hb hS U hu (s + 1) (U s) (nI s) (by omega) (fun e he => ?_) hu7 (.inr ⟨s, by omega, rfl, rfl⟩)
      rcases Nat.lt_or_ge e s with w | w
      · have := hM e w
        omega
      · rw [show e = s by omega]
        exact Nat.le_refl _
termination_by g 4 - s
theorem c_mostAlike (hb : b + 71 ≤ h.length) (hS : g 4 ≤ 70) (U : Nat → Nat) (hu : ∀ s, s < g 4 → (0 < U s ∧ U s ≤ 70) ∧ zcalls zTB 28 [.ref (b + 26), .int (nI s)] (nput b F g h) (some (.int (nI (U s))), nput b F g h)) : ∃ r, ((g 4 = 0 ∧ r = -1) ∨ ∃ e, e < g 4 ∧ r = nI e ∧ ∀ x, x < g 4 → U x ≤ U e) ∧ zcalls zTB 87 [.ref (b + 26)] (nput b F g h) (some (.int r), nput b F g h) := by
  refine zQi_out (zev_calls (Nat.le_of_ble_eq_true rfl) ?_)
  show zev 87 0 [some (.ref (b + 26)), none, none, none] [] _ _
  refine zev_of (fun _ kk => zr_iconst (v := (-1)) (pc' := 1) zi_87_0 rfl rfl kk) ?_
  refine zev_of (fun _ kk => zr_istore_n (pc' := 2) zi_87_1 (Nat.le_of_ble_eq_true rfl) rfl rfl kk) ?_
  dsimp only [zst1, zst2, zkill, List.set, List.getElem?_cons_succ, List.getElem?_cons_zero]
  refine zev_of (fun _ kk => zr_iconst (v := (nI 0)) (pc' := 3) zi_87_2 rfl rfl kk) ?_
  refine zev_of (fun _ kk => zr_istore_n (pc' := 4) zi_87_3 (Nat.le_of_ble_eq_true rfl) rfl rfl kk) ?_
  dsimp only [zst1, zst2, zkill, List.set, List.getElem?_cons_succ, List.getElem?_cons_zero]
  refine zev_of (fun _ kk => zr_iconst (v := (nI 0)) (pc' := 5) zi_87_4 rfl rfl kk) ?_
  refine zev_of (fun _ kk => zr_istore_n (pc' := 6) zi_87_5 (Nat.le_of_ble_eq_true rfl) rfl rfl kk) ?_
  dsimp only [zst1, zst2, zkill, List.set, List.getElem?_cons_succ, List.getElem?_cons_zero]
  exact l_mostAlike hb hS U hu 0 0 (-1) (Nat.zero_le _) (fun e he => absurd he (Nat.not_lt_zero _)) (by omega) (.inl ⟨rfl, rfl, rfl⟩)
theorem l_isSamePath (hb : b + 71 ≤ h.length) (s z : Nat) (hs : s < 70) (hz : F 15 s = nI z) (hz7 : z ≤ 70) (x y T : Int32) (i : Nat) (hi : i ≤ z) : zev 82 44 [some (.ref (b + 26)), some (.ref (b + 1)), some (.int (nI s)), some (.int T), some (.int x), some (.int y), some (.int (nI i))] [] (nput b F g h) (zQi (nput b F g h) fun r => r = 0 ∨ r = 1) := by
  refine zev_of (fun _ kk => zr_iload (pc' := 46) zi_82_44 rfl rfl kk) ?_
  refine zev_of (fun _ kk => zr_aload_n (pc' := 47) zi_82_46 rfl rfl kk) ?_
  refine zev_of (fun _ kk => zr_get (pc' := 50) zi_82_47 (nput_at hb (k := 26) rfl) rfl rfl kk) ?_
  refine zev_of (fun _ kk => zr_iload_n (pc' := 51) zi_82_50 rfl rfl kk) ?_
  refine zev_of (fun _ kk => zr_atN (pc' := 54) (by omega) zi_82_51 hb rfl rfl (by decide) rfl rfl kk) ?_
  rw [hz]
  refine zv_icmp (pc' := 57) zi_82_54 rfl (fun h54 => ?_) (fun h54 => ?_)
  · replace h54 := zc_ge_t (by omega) (by omega) h54
    refine zev_of (fun _ kk => zr_iconst (v := (nI 1)) (pc' := 109) zi_82_108 rfl rfl kk) ?_
    refine zev_ret (zr_zreturn zi_82_109 rfl (by decide)) ?_
    exact ⟨_, .inr rfl, rfl⟩
  · replace h54 := zc_ge_f (by omega) (by omega) h54
    refine zev_of (fun _ kk => zr_aload_n (pc' := 58) zi_82_57 rfl rfl kk) ?_
    refine zev_of (fun _ kk => zr_get (pc' := 61) zi_82_58 (nput_at hb (k := 1) rfl) rfl rfl kk) ?_
    refine zev_of (fun _ kk => zr_iload (pc' := 63) zi_82_61 rfl rfl kk) ?_
    refine zev_of (fun _ kk => zr_at (pc' := 66) zi_82_63 hb rfl rfl (by decide) rfl rfl kk) ?_
    refine zev_of (fun _ kk => zr_aload_n (pc' := 67) zi_82_66 rfl rfl kk) ?_
    refine zev_of (fun _ kk => zr_get (pc' := 70) zi_82_67 (nput_at hb (k := 1) rfl) rfl rfl kk) ?_
    refine zev_of (fun _ kk => zr_iload (pc' := 72) zi_82_70 rfl rfl kk) ?_
    refine zev_of (fun _ kk => zr_at (pc' := 75) zi_82_72 hb rfl rfl (by decide) rfl rfl kk) ?_
    refine zv_icmp (pc' := 78) zi_82_75 rfl (fun h75 => ?_) (fun h75 => ?_)
    · replace h75 := zc_eq_t h75
      refine zev_of (fun _ kk => zr_aload_n (pc' := 81) zi_82_80 rfl rfl kk) ?_
      refine zev_of (fun _ kk => zr_get (pc' := 84) zi_82_81 (nput_at hb (k := 26) rfl) rfl rfl kk) ?_
      refine zev_of (fun _ kk => zr_iload (pc' := 86) zi_82_84 rfl rfl kk) ?_
      refine zev_of (fun _ kk => zr_at (pc' := 89) zi_82_86 hb rfl rfl (by decide) rfl rfl kk) ?_
      refine zev_of (fun _ kk => zr_istore (pc' := 91) zi_82_89 (Nat.le_of_ble_eq_true rfl) rfl rfl kk) ?_
      dsimp only [zst1, zst2, zkill, List.set, List.getElem?_cons_succ, List.getElem?_cons_zero]
      refine zev_of (fun _ kk => zr_aload_n (pc' := 92) zi_82_91 rfl rfl kk) ?_
      refine zev_of (fun _ kk => zr_get (pc' := 95) zi_82_92 (nput_at hb (k := 26) rfl) rfl rfl kk) ?_
      refine zev_of (fun _ kk => zr_iload (pc' := 97) zi_82_95 rfl rfl kk) ?_
      refine zev_of (fun _ kk => zr_at (pc' := 100) zi_82_97 hb rfl rfl (by decide) rfl rfl kk) ?_
      refine zev_of (fun _ kk => zr_istore (pc' := 102) zi_82_100 (Nat.le_of_ble_eq_true rfl) rfl rfl kk) ?_
      dsimp only [zst1, zst2, zkill, List.set, List.getElem?_cons_succ, List.getElem?_cons_zero]
      refine zev_of (fun _ kk => zr_iinc (pc' := 105) zi_82_102 rfl (by first | exact n_inc _ | rfl) rfl rfl kk) ?_
      dsimp only [zst1, zst2, zkill, List.set, List.getElem?_cons_succ, List.getElem?_cons_zero]
      refine zev_of (fun _ kk => zr_goto zi_82_105 kk) ?_
      exact l_isSamePath hb s z hs hz hz7 _ _ T (i + 1) (by omega)
    · replace h75 := zc_eq_f h75
      refine zev_of (fun _ kk => zr_iconst (v := (nI 0)) (pc' := 79) zi_82_78 rfl rfl kk) ?_
      refine zev_ret (zr_zreturn zi_82_79 rfl (by decide)) ?_
      exact ⟨_, .inl rfl, rfl⟩
termination_by z - i
theorem c_isSamePath (hb : b + 71 ≤ h.length) (s t z : Nat) (hs : s < 70) (ht : t < 70) (hz : F 15 s = nI z) (hz7 : z ≤ 70) : ∃ r, (r = 0 ∨ r = 1) ∧ zcalls zTB 82 [.ref (b + 26), .ref (b + 1), .int (nI s), .int (nI t)] (nput b F g h) (some (.int r), nput b F g h) := by
  refine zQi_out (zev_calls (Nat.le_of_ble_eq_true rfl) ?_)
  show zev 82 0 [some (.ref (b + 26)), some (.ref (b + 1)), some (.int (nI s)), some (.int (nI t)), none, none, none] [] _ _
  refine zev_of (fun _ kk => zr_aload_n (pc' := 1) zi_82_0 rfl rfl kk) ?_
  refine zev_of (fun _ kk => zr_get (pc' := 4) zi_82_1 (nput_at hb (k := 26) rfl) rfl rfl kk) ?_
  refine zev_of (fun _ kk => zr_iload_n (pc' := 5) zi_82_4 rfl rfl kk) ?_
  refine zev_of (fun _ kk => zr_atN (pc' := 8) (by omega) zi_82_5 hb rfl rfl (by decide) rfl rfl kk) ?_
  refine zev_of (fun _ kk => zr_aload_n (pc' := 9) zi_82_8 rfl rfl kk) ?_
  refine zev_of (fun _ kk => zr_get (pc' := 12) zi_82_9 (nput_at hb (k := 26) rfl) rfl rfl kk) ?_
  refine zev_of (fun _ kk => zr_iload_n (pc' := 13) zi_82_12 rfl rfl kk) ?_
  refine zev_of (fun _ kk => zr_atN (pc' := 16) (by omega) zi_82_13 hb rfl rfl (by decide) rfl rfl kk) ?_
  refine zv_icmp (pc' := 19) zi_82_16 rfl (fun h16 => ?_) (fun h16 => ?_)
  · replace h16 := zc_eq_t h16
    refine zev_of (fun _ kk => zr_aload_n (pc' := 22) zi_82_21 rfl rfl kk) ?_
    refine zev_of (fun _ kk => zr_get (pc' := 25) zi_82_22 (nput_at hb (k := 26) rfl) rfl rfl kk) ?_
    refine zev_of (fun _ kk => zr_iload_n (pc' := 26) zi_82_25 rfl rfl kk) ?_
    refine zev_of (fun _ kk => zr_atN (pc' := 29) (by omega) zi_82_26 hb rfl rfl (by decide) rfl rfl kk) ?_
    refine zev_of (fun _ kk => zr_istore (pc' := 31) zi_82_29 (Nat.le_of_ble_eq_true rfl) rfl rfl kk) ?_
    dsimp only [zst1, zst2, zkill, List.set, List.getElem?_cons_succ, List.getElem?_cons_zero]
    refine zev_of (fun _ kk => zr_aload_n (pc' := 32) zi_82_31 rfl rfl kk) ?_
    refine zev_of (fun _ kk => zr_get (pc' := 35) zi_82_32 (nput_at hb (k := 26) rfl) rfl rfl kk) ?_
    refine zev_of (fun _ kk => zr_iload_n (pc' := 36) zi_82_35 rfl rfl kk) ?_
    refine zev_of (fun _ kk => zr_atN (pc' := 39) (by omega) zi_82_36 hb rfl rfl (by decide) rfl rfl kk) ?_
    refine zev_of (fun _ kk => zr_istore (pc' := 41) zi_82_39 (Nat.le_of_ble_eq_true rfl) rfl rfl kk) ?_
    dsimp only [zst1, zst2, zkill, List.set, List.getElem?_cons_succ, List.getElem?_cons_zero]
    refine zev_of (fun _ kk => zr_iconst (v := (nI 0)) (pc' := 42) zi_82_41 rfl rfl kk) ?_
    refine zev_of (fun _ kk => zr_istore (pc' := 44) zi_82_42 (Nat.le_of_ble_eq_true rfl) rfl rfl kk) ?_
    dsimp only [zst1, zst2, zkill, List.set, List.getElem?_cons_succ, List.getElem?_cons_zero]
    exact l_isSamePath hb s z hs hz hz7 _ _ _ 0 (Nat.zero_le _)
  · replace h16 := zc_eq_f h16
    refine zev_of (fun _ kk => zr_iconst (v := (nI 0)) (pc' := 20) zi_82_19 rfl rfl kk) ?_
    refine zev_ret (zr_zreturn zi_82_20 rfl (by decide)) ?_
    exact ⟨_, .inl rfl, rfl⟩
end
section
variable {b : Nat} {h : zH}
/-- the rows of paths alone are changed -/
def zonP (F F' : Nat → Nat → Int32) : Prop := ∀ r, r ≠ 17 → r ≠ 18 → F' r = F r
theorem l_path (hb : b + 71 ≤ h.length) {Q : zR → Prop} {F : Nat → Nat → Int32} {g : Nat → Nat} (s : Nat) (hs : s < 70) (hz : ∀ e, e ≤ s → ∃ z, z ≤ 70 ∧ F 15 e = nI z) (k : ∀ p, p ≤ s → zev 81 40 [some (.ref (b + 26)), some (.ref (b + 1)), some (.int (nI s)), some (.int (nI p))] [] (nput b F g h) Q) (p : Nat) (hp : p ≤ s) : zev 81 19 [some (.ref (b + 26)), some (.ref (b + 1)), some (.int (nI s)), some (.int (nI p))] [] (nput b F g h) Q := by
  refine zev_of (fun _ kk => zr_iload_n (pc' := 20) zi_81_19 rfl rfl kk) ?_
  refine zev_of (fun _ kk => zr_iload_n (pc' := 21) zi_81_20 rfl rfl kk) ?_
  refine zv_icmp (pc' := 24) zi_81_21 rfl (fun h21 => ?_) (fun h21 => ?_)
  · replace h21 := zc_ge_t (by omega) (by omega) h21
    exact k p hp
  · replace h21 := zc_ge_f (by omega) (by omega) h21
    refine zev_of (fun _ kk => zr_aload_n (pc' := 25) zi_81_24 rfl rfl kk) ?_
    refine zev_of (fun _ kk => zr_aload_n (pc' := 26) zi_81_25 rfl rfl kk) ?_
    refine zev_of (fun _ kk => zr_iload_n (pc' := 27) zi_81_26 rfl rfl kk) ?_
    refine zev_of (fun _ kk => zr_iload_n (pc' := 28) zi_81_27 rfl rfl kk) ?_
    obtain ⟨z, hz7, hze⟩ := hz p hp
    obtain ⟨r, hr, hc⟩ := c_isSamePath hb (g := g) p s z (by omega) hs hze hz7
    refine zev_of (fun _ kk => zr_v3 (pc' := 31) zi_81_28 (nput_at hb (k := 26) rfl) rfl hc rfl kk) ?_
    refine zv_if (pc' := 34) zi_81_31 rfl (fun h31 => ?_) (fun h31 => ?_)
    · replace h31 := zc_ne_t h31
      exact k p hp
    · replace h31 := zc_ne_f h31
      refine zev_of (fun _ kk => zr_iinc (pc' := 37) zi_81_34 rfl (by first | exact n_inc _ | rfl) rfl rfl kk) ?_
      dsimp only [zst1, zst2, zkill, List.set, List.getElem?_cons_succ, List.getElem?_cons_zero]
      refine zev_of (fun _ kk => zr_goto zi_81_37 kk) ?_
      exact l_path hb s hs hz k (p + 1) (by omega)
termination_by s - p
theorem l_comparePaths (hb : b + 71 ≤ h.length) (F : Nat → Nat → Int32) (g : Nat → Nat) (hS : g 4 ≤ 70) (hz : ∀ s, s < g 4 → ∃ z, z ≤ 70 ∧ F 15 s = nI z) (s : Nat) (hs : s ≤ g 4) (q : zpth F s) (X : Option Value) : zev 81 9 [some (.ref (b + 26)), some (.ref (b + 1)), some (.int (nI s)), X] [] (nput b F g h) (zQn b h fun F' g' => (zonP F F' ∧ zpth F' (g 4)) ∧ g' = g) := by
  refine zev_of (fun _ kk => zr_iload_n (pc' := 10) zi_81_9 rfl rfl kk) ?_
  refine zev_of (fun _ kk => zr_aload_n (pc' := 11) zi_81_10 rfl rfl kk) ?_
  refine zev_of (fun _ kk => zr_get (pc' := 14) zi_81_11 (nput_at hb (k := 26) rfl) rfl rfl kk) ?_
  refine zv_icmp (pc' := 17) zi_81_14 rfl (fun h14 => ?_) (fun h14 => ?_)
  · replace h14 := zc_ge_t (by omega) (by omega) h14
    refine zev_ret (zr_return zi_81_63 rfl) ?_
    have e : s = g 4 := by omega
    exact ⟨_, _, ⟨⟨fun _ _ _ => rfl, e ▸ q⟩, rfl⟩, rfl⟩
  · replace h14 := zc_ge_f (by omega) (by omega) h14
    refine zev_of (fun _ kk => zr_iconst (v := (nI 0)) (pc' := 18) zi_81_17 rfl rfl kk) ?_
    refine zev_of (fun _ kk => zr_istore_n (pc' := 19) zi_81_18 (Nat.le_of_ble_eq_true rfl) rfl rfl kk) ?_
    dsimp only [zst1, zst2, zkill, List.set, List.getElem?_cons_succ, List.getElem?_cons_zero]
    refine l_path hb s (by omega) (fun e he => hz e (by omega)) (fun p hp => ?_) 0 (Nat.zero_le _)
    refine zev_of (fun _ kk => zr_aload_n (pc' := 41) zi_81_40 rfl rfl kk) ?_
    refine zev_of (fun _ kk => zr_get (pc' := 44) zi_81_41 (nput_at hb (k := 26) rfl) rfl rfl kk) ?_
    refine zev_of (fun _ kk => zr_iload_n (pc' := 45) zi_81_44 rfl rfl kk) ?_
    refine zev_of (fun _ kk => zr_iload_n (pc' := 46) zi_81_45 rfl rfl kk) ?_
    refine zev_of (fun _ kk => zr_rputN (pc' := 49) (rr := 17) (by omega) zi_81_46 hb rfl rfl (fun _ => rfl) (by decide) (by decide) rfl rfl kk) ?_
    refine zev_of (fun _ kk => zr_aload_n (pc' := 50) zi_81_49 rfl rfl kk) ?_
    refine zev_of (fun _ kk => zr_get (pc' := 53) zi_81_50 (nput_at hb (k := 26) rfl) rfl rfl kk) ?_
    refine zev_of (fun _ kk => zr_iload_n (pc' := 54) zi_81_53 rfl rfl kk) ?_
    refine zev_of (fun _ kk => zr_rinc (pc' := 57) (rr := 18) zi_81_54 hb rfl rfl (fun _ => rfl) (by decide) (by decide) rfl rfl kk) ?_
    refine zev_of (fun _ kk => zr_iinc (pc' := 60) zi_81_57 rfl (by first | exact n_inc _ | rfl) rfl rfl kk) ?_
    dsimp only [zst1, zst2, zkill, List.set, List.getElem?_cons_succ, List.getElem?_cons_zero]
    refine zev_of (fun _ kk => zr_goto zi_81_60 kk) ?_
    refine zev_mono (l_comparePaths hb _ g hS (by exact hz) (s + 1) (by omega) ?_ _) ?_
    · refine ⟨fun e he => ?_, fun e he => ?_⟩
      · rcases Nat.lt_or_ge e s with w | w
        · obtain ⟨p', h1, h2⟩ := q.1 e w
          exact ⟨p', h1, (pk_un (by omega)).trans h2⟩
        · refine ⟨p, by omega, ?_⟩
          rw [show e = s by omega]
          exact pk_us
      · show rput 70 (F 18) (nI p) (F 18 (nI p).toNatClampNeg + 1) e = nI (zcnt (fun k => decide (upd (F 17) s (nI p) k = nI e)) (s + 1))
        rw [rput_n (by omega) (by omega), nI_clamp (by omega)]
        have hx : zcnt (fun k => decide (upd (F 17) s (nI p) k = nI e)) s = zcnt (fun k => decide (F 17 k = nI e)) s := zcnt_ext fun j hj => by rw [pk_un (by omega)]
        by_cases w : e = p
        · subst w
          rw [pk_us, zcnt_t (by rw [pk_us]; simp), hx, q.2 e he, nI_1]
        · rw [pk_un w, zcnt_f (by rw [pk_us]; simp only [decide_eq_false_iff_not]; exact fun v => w ((nI_eq (by omega) (by omega)).mp v).symm), hx, q.2 e he]
    · rintro v ⟨F', g', ⟨⟨h1, h2⟩, h3⟩, rfl⟩
      exact ⟨F', g', ⟨⟨fun r h4 h5 => (h1 r h4 h5).trans ((updR_ne h5).trans (updR_ne h4)), h2⟩, h3⟩, rfl⟩
termination_by g 4 - s
theorem c_comparePaths (hb : b + 71 ≤ h.length) (F : Nat → Nat → Int32) (g : Nat → Nat) (hS : g 4 ≤ 70) (hz : ∀ s, s < g 4 → ∃ z, z ≤ 70 ∧ F 15 s = nI z) : ∃ F' g', ((zonP F F' ∧ zpth F' (g 4)) ∧ g' = g) ∧ zcalls zTB 81 [.ref (b + 26), .ref (b + 1)] (nput b F g h) (none, nput b F' g' h) := by
  refine zQn_out (zev_calls (Nat.le_of_ble_eq_true rfl) ?_)
  show zev 81 0 [some (.ref (b + 26)), some (.ref (b + 1)), none, none] [] _ _
  refine zev_of (fun _ kk => zr_aload_n (pc' := 1) zi_81_0 rfl rfl kk) ?_
  refine zev_of (fun _ kk => zr_get (pc' := 4) zi_81_1 (nput_at hb (k := 26) rfl) rfl rfl kk) ?_
  refine zv_rclear (pc' := 7) (rr := 18) zi_81_4 hb rfl rfl (fun _ => rfl) (by decide) (by decide) (by decide) rfl rfl (fun f18 hf18 => ?_)
  refine zev_of (fun _ kk => zr_iconst (v := (nI 0)) (pc' := 8) zi_81_7 rfl rfl kk) ?_
  refine zev_of (fun _ kk => zr_istore_n (pc' := 9) zi_81_8 (Nat.le_of_ble_eq_true rfl) rfl rfl kk) ?_
  dsimp only [zst1, zst2, zkill, List.set, List.getElem?_cons_succ, List.getElem?_cons_zero]
  refine zev_mono (l_comparePaths hb _ g hS (by exact hz) 0 (Nat.zero_le _) ⟨fun e he => absurd he (Nat.not_lt_zero _), fun p hp => hf18 p hp⟩ _) ?_
  rintro v ⟨F', g', ⟨⟨h1, h2⟩, h3⟩, rfl⟩
  exact ⟨F', g', ⟨⟨fun r h4 h5 => (h1 r h4 h5).trans (updR_ne h5), h2⟩, h3⟩, rfl⟩
end
end
section
theorem zi_84_0 : zI 84 0 = some (.iconst 0, []) := by decide +kernel
theorem zi_84_1 : zI 84 1 = some (.istore_n 3, []) := by decide +kernel
theorem zi_84_2 : zI 84 2 = some (.aload_n 0, []) := by decide +kernel
theorem zi_84_3 : zI 84 3 = some (.getfield 23, [3, 2, 295]) := by decide +kernel
theorem zi_84_6 : zI 84 6 = some (.iload_n 2, []) := by decide +kernel
theorem zi_84_7 : zI 84 7 = some (.invokevirtual 55, [0, 0, 1, 1, 10, 11, 12, 9, 0, 100]) := by decide +kernel
theorem zi_84_10 : zI 84 10 = some (.istore 4, []) := by decide +kernel
theorem zi_84_12 : zI 84 12 = some (.iconst 0, []) := by decide +kernel
theorem zi_84_13 : zI 84 13 = some (.istore 5, []) := by decide +kernel
theorem zi_84_15 : zI 84 15 = some (.iload 5, []) := by decide +kernel
theorem zi_84_17 : zI 84 17 = some (.aload_n 0, []) := by decide +kernel
theorem zi_84_18 : zI 84 18 = some (.getfield 29, [3, 4, 297]) := by decide +kernel
theorem zi_84_21 : zI 84 21 = some (.iload_n 2, []) := by decide +kernel
theorem zi_84_22 : zI 84 22 = some (.invokevirtual 55, [0, 0, 1, 1, 10, 11, 12, 9, 0, 100]) := by decide +kernel
theorem zi_84_25 : zI 84 25 = some (.if_icmp .ge 34, [59]) := by decide +kernel
theorem zi_84_28 : zI 84 28 = some (.iload_n 3, []) := by decide +kernel
theorem zi_84_29 : zI 84 29 = some (.iconst 1, []) := by decide +kernel
theorem zi_84_30 : zI 84 30 = some (.aload_n 1, []) := by decide +kernel
theorem zi_84_31 : zI 84 31 = some (.getfield 82, [0, 5, 322]) := by decide +kernel
theorem zi_84_34 : zI 84 34 = some (.iload 4, []) := by decide +kernel
theorem zi_84_36 : zI 84 36 = some (.invokevirtual 55, [0, 0, 1, 1, 10, 11, 12, 9, 0, 100]) := by decide +kernel
theorem zi_84_39 : zI 84 39 = some (.ishl, []) := by decide +kernel
theorem zi_84_40 : zI 84 40 = some (.ior, []) := by decide +kernel
theorem zi_84_41 : zI 84 41 = some (.istore_n 3, []) := by decide +kernel
theorem zi_84_42 : zI 84 42 = some (.aload_n 0, []) := by decide +kernel
theorem zi_84_43 : zI 84 43 = some (.getfield 20, [3, 1, 294]) := by decide +kernel
theorem zi_84_46 : zI 84 46 = some (.iload 4, []) := by decide +kernel
theorem zi_84_48 : zI 84 48 = some (.invokevirtual 55, [0, 0, 1, 1, 10, 11, 12, 9, 0, 100]) := by decide +kernel
theorem zi_84_51 : zI 84 51 = some (.istore 4, []) := by decide +kernel
theorem zi_84_53 : zI 84 53 = some (.iinc 5 1, []) := by decide +kernel
theorem zi_84_56 : zI 84 56 = some (.goto (-41), [15]) := by decide +kernel
theorem zi_84_59 : zI 84 59 = some (.iload_n 3, []) := by decide +kernel
theorem zi_84_60 : zI 84 60 = some (.invokestatic 85, [114, 1, 1, 0, 325, 0, 326, 324, 0, 323]) := by decide +kernel
theorem zi_84_63 : zI 84 63 = some (.ireturn, []) := by decide +kernel
theorem zi_114_0 : zI 114 0 = some (.iload_n 0, []) := by decide +kernel
theorem zi_114_1 : zI 114 1 = some (.iload_n 0, []) := by decide +kernel
theorem zi_114_2 : zI 114 2 = some (.iconst 1, []) := by decide +kernel
theorem zi_114_3 : zI 114 3 = some (.iushr, []) := by decide +kernel
theorem zi_114_4 : zI 114 4 = some (.ldc_w 265, [1431655765, 475]) := by decide +kernel
theorem zi_114_7 : zI 114 7 = some (.iand, []) := by decide +kernel
theorem zi_114_8 : zI 114 8 = some (.isub, []) := by decide +kernel
theorem zi_114_9 : zI 114 9 = some (.istore_n 0, []) := by decide +kernel
theorem zi_114_10 : zI 114 10 = some (.iload_n 0, []) := by decide +kernel
theorem zi_114_11 : zI 114 11 = some (.ldc_w 266, [858993459, 476]) := by decide +kernel
theorem zi_114_14 : zI 114 14 = some (.iand, []) := by decide +kernel
theorem zi_114_15 : zI 114 15 = some (.iload_n 0, []) := by decide +kernel
theorem zi_114_16 : zI 114 16 = some (.iconst 2, []) := by decide +kernel
theorem zi_114_17 : zI 114 17 = some (.iushr, []) := by decide +kernel
theorem zi_114_18 : zI 114 18 = some (.ldc_w 266, [858993459, 476]) := by decide +kernel
theorem zi_114_21 : zI 114 21 = some (.iand, []) := by decide +kernel
theorem zi_114_22 : zI 114 22 = some (.iadd, []) := by decide +kernel
theorem zi_114_23 : zI 114 23 = some (.istore_n 0, []) := by decide +kernel
theorem zi_114_24 : zI 114 24 = some (.iload_n 0, []) := by decide +kernel
theorem zi_114_25 : zI 114 25 = some (.iload_n 0, []) := by decide +kernel
theorem zi_114_26 : zI 114 26 = some (.iconst 4, []) := by decide +kernel
theorem zi_114_27 : zI 114 27 = some (.iushr, []) := by decide +kernel
theorem zi_114_28 : zI 114 28 = some (.iadd, []) := by decide +kernel
theorem zi_114_29 : zI 114 29 = some (.ldc_w 267, [252645135, 477]) := by decide +kernel
theorem zi_114_32 : zI 114 32 = some (.iand, []) := by decide +kernel
theorem zi_114_33 : zI 114 33 = some (.istore_n 0, []) := by decide +kernel
theorem zi_114_34 : zI 114 34 = some (.iload_n 0, []) := by decide +kernel
theorem zi_114_35 : zI 114 35 = some (.iload_n 0, []) := by decide +kernel
theorem zi_114_36 : zI 114 36 = some (.bipush 8, []) := by decide +kernel
theorem zi_114_38 : zI 114 38 = some (.iushr, []) := by decide +kernel
theorem zi_114_39 : zI 114 39 = some (.iadd, []) := by decide +kernel
theorem zi_114_40 : zI 114 40 = some (.istore_n 0, []) := by decide +kernel
theorem zi_114_41 : zI 114 41 = some (.iload_n 0, []) := by decide +kernel
theorem zi_114_42 : zI 114 42 = some (.iload_n 0, []) := by decide +kernel
theorem zi_114_43 : zI 114 43 = some (.bipush 16, []) := by decide +kernel
theorem zi_114_45 : zI 114 45 = some (.iushr, []) := by decide +kernel
theorem zi_114_46 : zI 114 46 = some (.iadd, []) := by decide +kernel
theorem zi_114_47 : zI 114 47 = some (.istore_n 0, []) := by decide +kernel
theorem zi_114_48 : zI 114 48 = some (.iload_n 0, []) := by decide +kernel
theorem zi_114_49 : zI 114 49 = some (.bipush 63, []) := by decide +kernel
theorem zi_114_51 : zI 114 51 = some (.iand, []) := by decide +kernel
theorem zi_114_52 : zI 114 52 = some (.ireturn, []) := by decide +kernel
/-! bits: how many there are in a word of 20 -/
theorem n_and (a c : Nat) : nI a &&& nI c = nI (a &&& c) := by
  apply Int32.toBitVec_inj.mp
  simp [nI, Int32.toBitVec_and, Int32.toBitVec_ofNat', BitVec.ofNat_and]
theorem n_or (a c : Nat) : nI a ||| nI c = nI (a ||| c) := by
  apply Int32.toBitVec_inj.mp
  simp [nI, Int32.toBitVec_or, Int32.toBitVec_ofNat', BitVec.ofNat_or]
theorem b_and (a m y M : Nat) (ha : a < 256) (hm : m < 256) : (a + 256 * y) &&& (m + 256 * M) = (a &&& m) + 256 * (y &&& M) := by
  have h1 := Nat.and_mod_two_pow (a := a + 256 * y) (b := m + 256 * M) (n := 8)
  have h2 := Nat.and_div_two_pow (a := a + 256 * y) (b := m + 256 * M) (n := 8)
  rw [show (2 : Nat) ^ 8 = 256 from rfl] at h1 h2
  rw [show (a + 256 * y) % 256 = a by omega, show (m + 256 * M) % 256 = m by omega] at h1
  rw [show (a + 256 * y) / 256 = y by omega, show (m + 256 * M) / 256 = M by omega] at h2
  omega
theorem b_or (a m y M : Nat) (ha : a < 256) (hm : m < 256) : (a + 256 * y) ||| (m + 256 * M) = (a ||| m) + 256 * (y ||| M) := by
  have h1 := Nat.or_mod_two_pow (a := a + 256 * y) (b := m + 256 * M) (n := 8)
  have h2 := Nat.or_div_two_pow (a := a + 256 * y) (b := m + 256 * M) (n := 8)
  rw [show (2 : Nat) ^ 8 = 256 from rfl] at h1 h2
  rw [show (a + 256 * y) % 256 = a by omega, show (m + 256 * M) % 256 = m by omega] at h1
  rw [show (a + 256 * y) / 256 = y by omega, show (m + 256 * M) / 256 = M by omega] at h2
  omega
def b_1 (a : Nat) : Nat := a - (a / 2 &&& 85)
def b_2 (a : Nat) : Nat := (b_1 a &&& 51) + (b_1 a / 4 &&& 51)
def b_3 (a : Nat) : Nat := (b_2 a + b_2 a / 16) &&& 15
theorem b_f1 : ∀ a, a < 256 → ∀ e, e < 2 → ((a / 2 + 128 * e) &&& 85) = a / 2 &&& 85 := by decide +kernel
theorem b_f2 : ∀ a, a < 256 → ∀ e, e < 4 → ((b_1 a / 4 + 64 * e) &&& 51) = b_1 a / 4 &&& 51 := by decide +kernel
theorem b_f3 : ∀ a, a < 256 → (a / 2 &&& 85) ≤ a ∧ b_1 a < 256 ∧ b_2 a ≤ 68 ∧ b_2 a % 16 ≤ 4 ∧ b_3 a ≤ 8 := by decide +kernel
theorem b_f4 : ∀ a, a < 69 → ∀ e, e < 5 → ((a + a / 16 + 16 * e) &&& 15) = (a + a / 16) &&& 15 := by decide +kernel
theorem b_f5 : ∀ a, a < 256 → ∀ u, u < 8 → b_3 (a ||| 2 ^ u) ≤ b_3 a + 1 ∧ (a ||| 2 ^ u) < 256 := by decide +kernel
def zbc (x : Nat) : Nat :=
  let x1 := x - (x / 2 &&& 1431655765)
  let x2 := (x1 &&& 858993459) + (x1 / 4 &&& 858993459)
  let x3 := (x2 + x2 / 16) &&& 252645135
  let x4 := x3 + x3 / 256
  let x5 := x4 + x4 / 65536
  x5 &&& 63
theorem zbc_eq {a c d : Nat} (ha : a < 256) (hc : c < 256) (hd : d < 256) : zbc (a + 256 * (c + 256 * d)) = b_3 a + b_3 c + b_3 d := by
  obtain ⟨a1, a2, a3, a4, a5⟩ := b_f3 a ha
  obtain ⟨c1, c2, c3, c4, c5⟩ := b_f3 c hc
  obtain ⟨d1, d2, d3, d4, d5⟩ := b_f3 d hd
  have e1 : (a + 256 * (c + 256 * d)) / 2 &&& 1431655765 = (a / 2 &&& 85) + 256 * ((c / 2 &&& 85) + 256 * (d / 2 &&& 85)) := by
    rw [show (a + 256 * (c + 256 * d)) / 2 = (a / 2 + 128 * (c % 2)) + 256 * ((c / 2 + 128 * (d % 2)) + 256 * (d / 2 + 256 * 0)) by omega]
    rw [show (1431655765 : Nat) = 85 + 256 * (85 + 256 * (85 + 256 * 85)) from rfl]
    rw [b_and _ _ _ _ (by omega) (by omega), b_and _ _ _ _ (by omega) (by omega), b_and _ _ _ _ (by omega) (by omega)]
    rw [b_f1 a ha _ (by omega), b_f1 c hc _ (by omega), Nat.zero_and, Nat.mul_zero, Nat.add_zero]
  have e2 : a + 256 * (c + 256 * d) - ((a / 2 &&& 85) + 256 * ((c / 2 &&& 85) + 256 * (d / 2 &&& 85))) = b_1 a + 256 * (b_1 c + 256 * b_1 d) := by
    unfold b_1
    omega
  have e3 : (b_1 a + 256 * (b_1 c + 256 * b_1 d)) &&& 858993459 = (b_1 a &&& 51) + 256 * ((b_1 c &&& 51) + 256 * (b_1 d &&& 51)) := by
    rw [show (858993459 : Nat) = 51 + 256 * (51 + 256 * (51 + 256 * 51)) from rfl]
    rw [show b_1 d = b_1 d + 256 * 0 by omega]
    rw [b_and _ _ _ _ (by omega) (by omega), b_and _ _ _ _ (by omega) (by omega), b_and _ _ _ _ (by omega) (by omega), Nat.zero_and]
    simp only [Nat.mul_zero, Nat.add_zero]
  have e4 : (b_1 a + 256 * (b_1 c + 256 * b_1 d)) / 4 &&& 858993459 = (b_1 a / 4 &&& 51) + 256 * ((b_1 c / 4 &&& 51) + 256 * (b_1 d / 4 &&& 51)) := by
    rw [show (b_1 a + 256 * (b_1 c + 256 * b_1 d)) / 4 = (b_1 a / 4 + 64 * (b_1 c % 4)) + 256 * ((b_1 c / 4 + 64 * (b_1 d % 4)) + 256 * (b_1 d / 4 + 256 * 0)) by omega]
    rw [show (858993459 : Nat) = 51 + 256 * (51 + 256 * (51 + 256 * 51)) from rfl]
    rw [b_and _ _ _ _ (by omega) (by omega), b_and _ _ _ _ (by omega) (by omega), b_and _ _ _ _ (by omega) (by omega)]
    rw [b_f2 a ha _ (by omega), b_f2 c hc _ (by omega), Nat.zero_and, Nat.mul_zero, Nat.add_zero]
  have e5 : (b_1 a &&& 51) + 256 * ((b_1 c &&& 51) + 256 * (b_1 d &&& 51)) + ((b_1 a / 4 &&& 51) + 256 * ((b_1 c / 4 &&& 51) + 256 * (b_1 d / 4 &&& 51))) = b_2 a + 256 * (b_2 c + 256 * b_2 d) := by
    unfold b_2
    omega
  have e6 : (b_2 a + 256 * (b_2 c + 256 * b_2 d) + (b_2 a + 256 * (b_2 c + 256 * b_2 d)) / 16) &&& 252645135 = b_3 a + 256 * (b_3 c + 256 * b_3 d) := by
    rw [show b_2 a + 256 * (b_2 c + 256 * b_2 d) + (b_2 a + 256 * (b_2 c + 256 * b_2 d)) / 16 = (b_2 a + b_2 a / 16 + 16 * (b_2 c % 16)) + 256 * ((b_2 c + b_2 c / 16 + 16 * (b_2 d % 16)) + 256 * ((b_2 d + b_2 d / 16) + 256 * 0)) by omega]
    rw [show (252645135 : Nat) = 15 + 256 * (15 + 256 * (15 + 256 * 15)) from rfl]
    rw [b_and _ _ _ _ (by omega) (by omega), b_and _ _ _ _ (by omega) (by omega), b_and _ _ _ _ (by omega) (by omega)]
    rw [b_f4 _ (by omega) _ (by omega), b_f4 _ (by omega) _ (by omega), Nat.zero_and]
    rfl
  have e7 : b_3 a + 256 * (b_3 c + 256 * b_3 d) + (b_3 a + 256 * (b_3 c + 256 * b_3 d)) / 256 = (b_3 a + b_3 c) + 256 * ((b_3 c + b_3 d) + 256 * b_3 d) := by omega
  have e8 : (b_3 a + b_3 c) + 256 * ((b_3 c + b_3 d) + 256 * b_3 d) + ((b_3 a + b_3 c) + 256 * ((b_3 c + b_3 d) + 256 * b_3 d)) / 65536 = (b_3 a + b_3 c + b_3 d) + 256 * ((b_3 c + b_3 d) + 256 * b_3 d) := by omega
  unfold zbc
  simp only [e1, e2, e3, e4, e5, e6, e7, e8]
  rw [show (63 : Nat) = 63 + 256 * 0 from rfl, b_and _ _ _ _ (by omega) (by omega), Nat.and_zero, show (63 : Nat) = 2 ^ 6 - 1 from rfl, Nat.and_two_pow_sub_one_eq_mod]
  omega
theorem zbc_0 : zbc 0 = 0 := by decide +kernel
theorem zbc_or {x t : Nat} (hx : x < 2 ^ 20) (ht : t < 20) : zbc (x ||| 2 ^ t) ≤ zbc x + 1 := by
  obtain ⟨a, c, d, ha, hc, hd, e⟩ : ∃ a c d, a < 256 ∧ c < 256 ∧ d < 256 ∧ x = a + 256 * (c + 256 * d) := ⟨x % 256, x / 256 % 256, x / 65536, by omega, by omega, by omega, by omega⟩
  subst e
  rw [zbc_eq ha hc hd]
  rcases Nat.lt_or_ge t 8 with h | h
  · have hp : 2 ^ t < 256 := Nat.pow_lt_pow_right (by omega) h
    rw [show 2 ^ t = 2 ^ t + 256 * (0 + 256 * 0) by omega, b_or _ _ _ _ ha hp, Nat.or_zero]
    obtain ⟨h1, h2⟩ := b_f5 a ha t h
    rw [zbc_eq h2 hc hd]
    omega
  rcases Nat.lt_or_ge t 16 with h3 | h3
  · have hp : 2 ^ (t - 8) < 256 := Nat.pow_lt_pow_right (m := t - 8) (n := 8) (by omega) (by omega)
    have hq : 2 ^ t = 0 + 256 * (2 ^ (t - 8) + 256 * 0) := by
      rw [show 2 ^ t = 2 ^ (t - 8 + 8) by rw [show t - 8 + 8 = t by omega], Nat.pow_add]
      omega
    rw [hq, b_or _ _ _ _ ha (by omega), b_or _ _ _ _ hc hp, Nat.or_zero, Nat.or_zero]
    obtain ⟨h1, h2⟩ := b_f5 c hc (t - 8) (by omega)
    rw [zbc_eq ha h2 hd]
    omega
  · have hp : 2 ^ (t - 16) < 256 := Nat.pow_lt_pow_right (m := t - 16) (n := 8) (by omega) (by omega)
    have hq : 2 ^ t = 0 + 256 * (0 + 256 * 2 ^ (t - 16)) := by
      rw [show 2 ^ t = 2 ^ (t - 16 + 16) by rw [show t - 16 + 16 = t by omega], Nat.pow_add]
      omega
    rw [hq, b_or _ _ _ _ ha (by omega), b_or _ _ _ _ hc (by omega), Nat.or_zero, Nat.or_zero]
    obtain ⟨h1, h2⟩ := b_f5 d hd (t - 16) (by omega)
    rw [zbc_eq ha hc h2]
    omega
theorem z_shl : ∀ t, t < 20 → nI 1 <<< (nI t &&& 31) = nI (2 ^ t) := by decide +kernel
theorem c_bitCount {H : zH} (x : Nat) (hx : x < 2 ^ 20) : zcalls zTB 114 [.int (nI x)] H (some (.int (nI (zbc x))), H) := by
  refine zcalls_of (Nat.le_of_ble_eq_true rfl) ?_
  show zruns zTB 114 0 [some (.int (nI x))] [] _ _
  have k1 : (x / 2 &&& 1431655765) ≤ x := Nat.le_trans Nat.and_le_left (Nat.div_le_self _ _)
  have k2 := Nat.and_le_left (n := x - (x / 2 &&& 1431655765)) (m := 858993459)
  have k3 := Nat.and_le_left (n := (x - (x / 2 &&& 1431655765)) / 4) (m := 858993459)
  have k4 := Nat.and_le_left (n := (x - (x / 2 &&& 1431655765) &&& 858993459) + ((x - (x / 2 &&& 1431655765)) / 4 &&& 858993459) + ((x - (x / 2 &&& 1431655765) &&& 858993459) + ((x - (x / 2 &&& 1431655765)) / 4 &&& 858993459)) / 16) (m := 252645135)
  refine zr_iload_n (pc' := 1) zi_114_0 rfl rfl ?_
  refine zr_iload_n (pc' := 2) zi_114_1 rfl rfl ?_
  refine zr_iconst (v := (nI 1)) (pc' := 3) zi_114_2 rfl rfl ?_
  refine zr_iushr (pc' := 4) zi_114_3 rfl rfl ?_
  rw [pk_ushrN (by omega) (nI 1) 1 (by decide), show 2 ^ 1 = 2 from rfl]
  refine zr_ldc_w (v := (nI 1431655765)) (pc' := 7) zi_114_4 rfl rfl ?_
  refine zr_iand (pc' := 8) zi_114_7 rfl rfl ?_
  rw [n_and]
  refine zr_isub (pc' := 9) zi_114_8 (by first | exact pk_sub (by omega) | rfl) rfl ?_
  refine zr_istore_n (pc' := 10) zi_114_9 (Nat.le_of_ble_eq_true rfl) rfl rfl ?_
  dsimp only [zst1, zst2, zkill, List.set, List.getElem?_cons_succ, List.getElem?_cons_zero]
  refine zr_iload_n (pc' := 11) zi_114_10 rfl rfl ?_
  refine zr_ldc_w (v := (nI 858993459)) (pc' := 14) zi_114_11 rfl rfl ?_
  refine zr_iand (pc' := 15) zi_114_14 rfl rfl ?_
  rw [n_and]
  refine zr_iload_n (pc' := 16) zi_114_15 rfl rfl ?_
  refine zr_iconst (v := (nI 2)) (pc' := 17) zi_114_16 rfl rfl ?_
  refine zr_iushr (pc' := 18) zi_114_17 rfl rfl ?_
  rw [pk_ushrN (by omega) (nI 2) 2 (by decide), show 2 ^ 2 = 4 from rfl]
  refine zr_ldc_w (v := (nI 858993459)) (pc' := 21) zi_114_18 rfl rfl ?_
  refine zr_iand (pc' := 22) zi_114_21 rfl rfl ?_
  rw [n_and]
  refine zr_iadd (pc' := 23) zi_114_22 (by first | exact nI_add _ _ | rfl) rfl ?_
  refine zr_istore_n (pc' := 24) zi_114_23 (Nat.le_of_ble_eq_true rfl) rfl rfl ?_
  dsimp only [zst1, zst2, zkill, List.set, List.getElem?_cons_succ, List.getElem?_cons_zero]
  refine zr_iload_n (pc' := 25) zi_114_24 rfl rfl ?_
  refine zr_iload_n (pc' := 26) zi_114_25 rfl rfl ?_
  refine zr_iconst (v := (nI 4)) (pc' := 27) zi_114_26 rfl rfl ?_
  refine zr_iushr (pc' := 28) zi_114_27 rfl rfl ?_
  rw [pk_ushrN (by omega) (nI 4) 4 (by decide), show 2 ^ 4 = 16 from rfl]
  refine zr_iadd (pc' := 29) zi_114_28 (by first | exact nI_add _ _ | rfl) rfl ?_
  refine zr_ldc_w (v := (nI 252645135)) (pc' := 32) zi_114_29 rfl rfl ?_
  refine zr_iand (pc' := 33) zi_114_32 rfl rfl ?_
  rw [n_and]
  refine zr_istore_n (pc' := 34) zi_114_33 (Nat.le_of_ble_eq_true rfl) rfl rfl ?_
  dsimp only [zst1, zst2, zkill, List.set, List.getElem?_cons_succ, List.getElem?_cons_zero]
  refine zr_iload_n (pc' := 35) zi_114_34 rfl rfl ?_
  refine zr_iload_n (pc' := 36) zi_114_35 rfl rfl ?_
  refine zr_bipush (v := (nI 8)) (pc' := 38) zi_114_36 rfl rfl ?_
  refine zr_iushr (pc' := 39) zi_114_38 rfl rfl ?_
  rw [pk_ushrN (by omega) (nI 8) 8 (by decide), show 2 ^ 8 = 256 from rfl]
  refine zr_iadd (pc' := 40) zi_114_39 (by first | exact nI_add _ _ | rfl) rfl ?_
  refine zr_istore_n (pc' := 41) zi_114_40 (Nat.le_of_ble_eq_true rfl) rfl rfl ?_
  dsimp only [zst1, zst2, zkill, List.set, List.getElem?_cons_succ, List.getElem?_cons_zero]
  refine zr_iload_n (pc' := 42) zi_114_41 rfl rfl ?_
  refine zr_iload_n (pc' := 43) zi_114_42 rfl rfl ?_
  refine zr_bipush (v := (nI 16)) (pc' := 45) zi_114_43 rfl rfl ?_
  refine zr_iushr (pc' := 46) zi_114_45 rfl rfl ?_
  rw [pk_ushrN (by omega) (nI 16) 16 (by decide), show 2 ^ 16 = 65536 from rfl]
  refine zr_iadd (pc' := 47) zi_114_46 (by first | exact nI_add _ _ | rfl) rfl ?_
  refine zr_istore_n (pc' := 48) zi_114_47 (Nat.le_of_ble_eq_true rfl) rfl rfl ?_
  dsimp only [zst1, zst2, zkill, List.set, List.getElem?_cons_succ, List.getElem?_cons_zero]
  refine zr_iload_n (pc' := 49) zi_114_48 rfl rfl ?_
  refine zr_bipush (v := (nI 63)) (pc' := 51) zi_114_49 rfl rfl ?_
  refine zr_iand (pc' := 52) zi_114_51 rfl rfl ?_
  rw [n_and]
  exact zr_ireturn zi_114_52 rfl
section
variable {b : Nat} {F : Nat → Nat → Int32} {g : Nat → Nat} {h : zH}
theorem l_howManyTemplates (hb : b + 71 ≤ h.length) {S : Nat} {gap : Int32} {n : Nat} {C : Nat → Nat → Nat} {Z : Nat → Nat} (q : zses F S gap n C Z) (hn : n ≤ 70) (s : Nat) (hs : s < S) (ht : ∀ k, k < Z s → ∃ t, t < 20 ∧ F 5 (C s k) = nI t) (x : Nat) (hx : x < 2 ^ 20) (l : Int32) (k : Nat) (hk : k ≤ Z s) (hl : k < Z s → l = nI (C s k)) (hc : zbc x ≤ k) : zev 84 15 [some (.ref (b + 26)), some (.ref (b + 1)), some (.int (nI s)), some (.int (nI x)), some (.int l), some (.int (nI k))] [] (nput b F g h) (zQi (nput b F g h) fun r => ∃ a, a ≤ Z s ∧ r = nI a) := by
  obtain ⟨hz0, hzn, hz1, hz2, hz3, _⟩ := q.sz s hs
  have hle := q.le
  refine zev_of (fun _ kk => zr_iload (pc' := 17) zi_84_15 rfl rfl kk) ?_
  refine zev_of (fun _ kk => zr_aload_n (pc' := 18) zi_84_17 rfl rfl kk) ?_
  refine zev_of (fun _ kk => zr_get (pc' := 21) zi_84_18 (nput_at hb (k := 26) rfl) rfl rfl kk) ?_
  refine zev_of (fun _ kk => zr_iload_n (pc' := 22) zi_84_21 rfl rfl kk) ?_
  refine zev_of (fun _ kk => zr_atN (pc' := 25) (by omega) zi_84_22 hb rfl rfl (by decide) rfl rfl kk) ?_
  rw [hz3]
  refine zv_icmp (pc' := 28) zi_84_25 rfl (fun h25 => ?_) (fun h25 => ?_)
  · replace h25 := zc_ge_t (by omega) (by omega) h25
    refine zev_of (fun _ kk => zr_iload_n (pc' := 60) zi_84_59 rfl rfl kk) ?_
    refine zev_of (fun _ kk => zr_s1 (pc' := 63) zi_84_60 rfl (c_bitCount x hx) rfl kk) ?_
    refine zev_ret (zr_ireturn zi_84_63 rfl) ?_
    exact ⟨_, ⟨zbc x, by omega, rfl⟩, rfl⟩
  · replace h25 := zc_ge_f (by omega) (by omega) h25
    have hl' := hl h25
    subst hl'
    have hcn := (q.el s hs k h25).1
    obtain ⟨t, ht20, hte⟩ := ht k h25
    refine zev_of (fun _ kk => zr_iload_n (pc' := 29) zi_84_28 rfl rfl kk) ?_
    refine zev_of (fun _ kk => zr_iconst (v := (nI 1)) (pc' := 30) zi_84_29 rfl rfl kk) ?_
    refine zev_of (fun _ kk => zr_aload_n (pc' := 31) zi_84_30 rfl rfl kk) ?_
    refine zev_of (fun _ kk => zr_get (pc' := 34) zi_84_31 (nput_at hb (k := 1) rfl) rfl rfl kk) ?_
    refine zev_of (fun _ kk => zr_iload (pc' := 36) zi_84_34 rfl rfl kk) ?_
    refine zev_of (fun _ kk => zr_atN (pc' := 39) (by omega) zi_84_36 hb rfl rfl (by decide) rfl rfl kk) ?_
    rw [hte]
    refine zev_of (fun _ kk => zr_ishl (pc' := 40) zi_84_39 rfl rfl kk) ?_
    rw [z_shl t ht20]
    refine zev_of (fun _ kk => zr_ior (pc' := 41) zi_84_40 rfl rfl kk) ?_
    rw [n_or]
    refine zev_of (fun _ kk => zr_istore_n (pc' := 42) zi_84_41 (Nat.le_of_ble_eq_true rfl) rfl rfl kk) ?_
    dsimp only [zst1, zst2, zkill, List.set, List.getElem?_cons_succ, List.getElem?_cons_zero]
    refine zev_of (fun _ kk => zr_aload_n (pc' := 43) zi_84_42 rfl rfl kk) ?_
    refine zev_of (fun _ kk => zr_get (pc' := 46) zi_84_43 (nput_at hb (k := 26) rfl) rfl rfl kk) ?_
    refine zev_of (fun _ kk => zr_iload (pc' := 48) zi_84_46 rfl rfl kk) ?_
    refine zev_of (fun _ kk => zr_at (pc' := 51) zi_84_48 hb rfl rfl (by decide) rfl rfl kk) ?_
    refine zev_of (fun _ kk => zr_istore (pc' := 53) zi_84_51 (Nat.le_of_ble_eq_true rfl) rfl rfl kk) ?_
    dsimp only [zst1, zst2, zkill, List.set, List.getElem?_cons_succ, List.getElem?_cons_zero]
    refine zev_of (fun _ kk => zr_iinc (pc' := 56) zi_84_53 rfl (by first | exact n_inc _ | rfl) rfl rfl kk) ?_
    dsimp only [zst1, zst2, zkill, List.set, List.getElem?_cons_succ, List.getElem?_cons_zero]
    refine zev_of (fun _ kk => zr_goto zi_84_56 kk) ?_
    have hp : 2 ^ t < 2 ^ 20 := Nat.pow_lt_pow_right (by omega) ht20
    refine l_howManyTemplates hb q hn s hs ht (x ||| 2 ^ t) (Nat.or_lt_two_pow hx hp) _ (k + 1) (by omega) (fun hk1 => ?_) (by have := zbc_or hx ht20; omega)
    rw [rat_n (by omega) (by omega)]
    exact (q.ch s hs k hk1).2.1
termination_by Z s - k
theorem c_howManyTemplates (hb : b + 71 ≤ h.length) {S : Nat} {gap : Int32} {n : Nat} {C : Nat → Nat → Nat} {Z : Nat → Nat} (q : zses F S gap n C Z) (hn : n ≤ 70) (s : Nat) (hs : s < S) (ht : ∀ k, k < Z s → ∃ t, t < 20 ∧ F 5 (C s k) = nI t) : ∃ r, (∃ a, a ≤ Z s ∧ r = nI a) ∧ zcalls zTB 84 [.ref (b + 26), .ref (b + 1), .int (nI s)] (nput b F g h) (some (.int r), nput b F g h) := by
  have hle := q.le
  refine zQi_out (zev_calls (Nat.le_of_ble_eq_true rfl) ?_)
  show zev 84 0 [some (.ref (b + 26)), some (.ref (b + 1)), some (.int (nI s)), none, none, none] [] _ _
  refine zev_of (fun _ kk => zr_iconst (v := (nI 0)) (pc' := 1) zi_84_0 rfl rfl kk) ?_
  refine zev_of (fun _ kk => zr_istore_n (pc' := 2) zi_84_1 (Nat.le_of_ble_eq_true rfl) rfl rfl kk) ?_
  dsimp only [zst1, zst2, zkill, List.set, List.getElem?_cons_succ, List.getElem?_cons_zero]
  refine zev_of (fun _ kk => zr_aload_n (pc' := 3) zi_84_2 rfl rfl kk) ?_
  refine zev_of (fun _ kk => zr_get (pc' := 6) zi_84_3 (nput_at hb (k := 26) rfl) rfl rfl kk) ?_
  refine zev_of (fun _ kk => zr_iload_n (pc' := 7) zi_84_6 rfl rfl kk) ?_
  refine zev_of (fun _ kk => zr_atN (pc' := 10) (by omega) zi_84_7 hb rfl rfl (by decide) rfl rfl kk) ?_
  refine zev_of (fun _ kk => zr_istore (pc' := 12) zi_84_10 (Nat.le_of_ble_eq_true rfl) rfl rfl kk) ?_
  dsimp only [zst1, zst2, zkill, List.set, List.getElem?_cons_succ, List.getElem?_cons_zero]
  refine zev_of (fun _ kk => zr_iconst (v := (nI 0)) (pc' := 13) zi_84_12 rfl rfl kk) ?_
  refine zev_of (fun _ kk => zr_istore (pc' := 15) zi_84_13 (Nat.le_of_ble_eq_true rfl) rfl rfl kk) ?_
  dsimp only [zst1, zst2, zkill, List.set, List.getElem?_cons_succ, List.getElem?_cons_zero]
  exact l_howManyTemplates hb q hn s hs ht 0 (by omega) _ 0 (Nat.zero_le _) (fun _ => (q.sz s hs).2.2.1) (by rw [zbc_0]; omega)
end
end
section
theorem zi_89_0 : zI 89 0 = some (.aload_n 0, []) := by decide +kernel
theorem zi_89_1 : zI 89 1 = some (.iconst 0, []) := by decide +kernel
theorem zi_89_2 : zI 89 2 = some (.putfield 29, [4, 4, 0, 338]) := by decide +kernel
theorem zi_89_5 : zI 89 5 = some (.aload_n 0, []) := by decide +kernel
theorem zi_89_6 : zI 89 6 = some (.getfield 26, [4, 3, 337]) := by decide +kernel
theorem zi_89_9 : zI 89 9 = some (.invokevirtual 33, [15, 0, 0, 1, 264, 265, 12, 263, 0, 339]) := by decide +kernel
theorem zi_89_12 : zI 89 12 = some (.iconst 0, []) := by decide +kernel
theorem zi_89_13 : zI 89 13 = some (.istore 4, []) := by decide +kernel
theorem zi_89_15 : zI 89 15 = some (.iload 4, []) := by decide +kernel
theorem zi_89_17 : zI 89 17 = some (.aload_n 1, []) := by decide +kernel
theorem zi_89_18 : zI 89 18 = some (.getfield 36, [0, 8, 340]) := by decide +kernel
theorem zi_89_21 : zI 89 21 = some (.if_icmp .ge 80, [101]) := by decide +kernel
theorem zi_89_24 : zI 89 24 = some (.aload_n 0, []) := by decide +kernel
theorem zi_89_25 : zI 89 25 = some (.getfield 26, [4, 3, 337]) := by decide +kernel
theorem zi_89_28 : zI 89 28 = some (.aload_n 1, []) := by decide +kernel
theorem zi_89_29 : zI 89 29 = some (.getfield 41, [0, 5, 341]) := by decide +kernel
theorem zi_89_32 : zI 89 32 = some (.iload 4, []) := by decide +kernel
theorem zi_89_34 : zI 89 34 = some (.invokevirtual 44, [0, 0, 1, 1, 10, 11, 12, 9, 0, 342]) := by decide +kernel
theorem zi_89_37 : zI 89 37 = some (.invokevirtual 48, [7, 0, 1, 1, 269, 270, 12, 268, 0, 343]) := by decide +kernel
theorem zi_89_40 : zI 89 40 = some (.aload_n 1, []) := by decide +kernel
theorem zi_89_41 : zI 89 41 = some (.getfield 51, [0, 0, 344]) := by decide +kernel
theorem zi_89_44 : zI 89 44 = some (.iload 4, []) := by decide +kernel
theorem zi_89_46 : zI 89 46 = some (.invokevirtual 44, [0, 0, 1, 1, 10, 11, 12, 9, 0, 342]) := by decide +kernel
theorem zi_89_49 : zI 89 49 = some (.iload_n 3, []) := by decide +kernel
theorem zi_89_50 : zI 89 50 = some (.invokestatic 54, [13, 1, 2, 0, 117, 0, 118, 116, 1, 2]) := by decide +kernel
theorem zi_89_53 : zI 89 53 = some (.istore 5, []) := by decide +kernel
theorem zi_89_55 : zI 89 55 = some (.iload 4, []) := by decide +kernel
theorem zi_89_57 : zI 89 57 = some (.iconst 1, []) := by decide +kernel
theorem zi_89_58 : zI 89 58 = some (.iadd, []) := by decide +kernel
theorem zi_89_59 : zI 89 59 = some (.aload_n 1, []) := by decide +kernel
theorem zi_89_60 : zI 89 60 = some (.getfield 36, [0, 8, 340]) := by decide +kernel
theorem zi_89_63 : zI 89 63 = some (.if_icmp .eq 23, [86]) := by decide +kernel
theorem zi_89_66 : zI 89 66 = some (.aload_n 1, []) := by decide +kernel
theorem zi_89_67 : zI 89 67 = some (.getfield 51, [0, 0, 344]) := by decide +kernel
theorem zi_89_70 : zI 89 70 = some (.iload 4, []) := by decide +kernel
theorem zi_89_72 : zI 89 72 = some (.iconst 1, []) := by decide +kernel
theorem zi_89_73 : zI 89 73 = some (.iadd, []) := by decide +kernel
theorem zi_89_74 : zI 89 74 = some (.invokevirtual 44, [0, 0, 1, 1, 10, 11, 12, 9, 0, 342]) := by decide +kernel
theorem zi_89_77 : zI 89 77 = some (.iload_n 3, []) := by decide +kernel
theorem zi_89_78 : zI 89 78 = some (.invokestatic 54, [13, 1, 2, 0, 117, 0, 118, 116, 1, 2]) := by decide +kernel
theorem zi_89_81 : zI 89 81 = some (.iload 5, []) := by decide +kernel
theorem zi_89_83 : zI 89 83 = some (.if_icmp .eq 12, [95]) := by decide +kernel
theorem zi_89_86 : zI 89 86 = some (.aload_n 0, []) := by decide +kernel
theorem zi_89_87 : zI 89 87 = some (.aload_n 1, []) := by decide +kernel
theorem zi_89_88 : zI 89 88 = some (.iload_n 2, []) := by decide +kernel
theorem zi_89_89 : zI 89 89 = some (.iload 5, []) := by decide +kernel
theorem zi_89_91 : zI 89 91 = some (.iload_n 3, []) := by decide +kernel
theorem zi_89_92 : zI 89 92 = some (.invokevirtual 58, [90, 0, 4, 4, 347, 348, 71, 346, 0, 345]) := by decide +kernel
theorem zi_89_95 : zI 89 95 = some (.iinc 4 1, []) := by decide +kernel
theorem zi_89_98 : zI 89 98 = some (.goto (-83), [15]) := by decide +kernel
theorem zi_89_101 : zI 89 101 = some (.return_, []) := by decide +kernel
theorem zi_90_0 : zI 90 0 = some (.iconst 0, []) := by decide +kernel
theorem zi_90_1 : zI 90 1 = some (.istore 5, []) := by decide +kernel
theorem zi_90_3 : zI 90 3 = some (.iload 5, []) := by decide +kernel
theorem zi_90_5 : zI 90 5 = some (.iload_n 2, []) := by decide +kernel
theorem zi_90_6 : zI 90 6 = some (.if_icmp .ge 70, [76]) := by decide +kernel
theorem zi_90_9 : zI 90 9 = some (.aload_n 0, []) := by decide +kernel
theorem zi_90_10 : zI 90 10 = some (.getfield 26, [4, 3, 337]) := by decide +kernel
theorem zi_90_13 : zI 90 13 = some (.iload 5, []) := by decide +kernel
theorem zi_90_15 : zI 90 15 = some (.invokevirtual 44, [0, 0, 1, 1, 10, 11, 12, 9, 0, 342]) := by decide +kernel
theorem zi_90_18 : zI 90 18 = some (.istore 6, []) := by decide +kernel
theorem zi_90_20 : zI 90 20 = some (.iload 6, []) := by decide +kernel
theorem zi_90_22 : zI 90 22 = some (.iconst 3, []) := by decide +kernel
theorem zi_90_23 : zI 90 23 = some (.if_icmp .lt 37, [60]) := by decide +kernel
theorem zi_90_26 : zI 90 26 = some (.aload_n 1, []) := by decide +kernel
theorem zi_90_27 : zI 90 27 = some (.iload 5, []) := by decide +kernel
theorem zi_90_29 : zI 90 29 = some (.iload_n 3, []) := by decide +kernel
theorem zi_90_30 : zI 90 30 = some (.iconst 4, []) := by decide +kernel
theorem zi_90_31 : zI 90 31 = some (.isub, []) := by decide +kernel
theorem zi_90_32 : zI 90 32 = some (.iload_n 3, []) := by decide +kernel
theorem zi_90_33 : zI 90 33 = some (.iconst 1, []) := by decide +kernel
theorem zi_90_34 : zI 90 34 = some (.isub, []) := by decide +kernel
theorem zi_90_35 : zI 90 35 = some (.iload 4, []) := by decide +kernel
theorem zi_90_37 : zI 90 37 = some (.invokevirtual 62, [33, 0, 4, 0, 351, 352, 53, 350, 0, 349]) := by decide +kernel
theorem zi_90_40 : zI 90 40 = some (.istore 7, []) := by decide +kernel
theorem zi_90_42 : zI 90 42 = some (.iconst 2, []) := by decide +kernel
theorem zi_90_43 : zI 90 43 = some (.iload 6, []) := by decide +kernel
theorem zi_90_45 : zI 90 45 = some (.imul, []) := by decide +kernel
theorem zi_90_46 : zI 90 46 = some (.iload 7, []) := by decide +kernel
theorem zi_90_48 : zI 90 48 = some (.if_icmp .le 12, [60]) := by decide +kernel
theorem zi_90_51 : zI 90 51 = some (.aload_n 0, []) := by decide +kernel
theorem zi_90_52 : zI 90 52 = some (.iload_n 3, []) := by decide +kernel
theorem zi_90_53 : zI 90 53 = some (.iload 5, []) := by decide +kernel
theorem zi_90_55 : zI 90 55 = some (.iload 6, []) := by decide +kernel
theorem zi_90_57 : zI 90 57 = some (.invokevirtual 66, [91, 0, 3, 4, 355, 356, 71, 354, 0, 353]) := by decide +kernel
theorem zi_90_60 : zI 90 60 = some (.aload_n 0, []) := by decide +kernel
theorem zi_90_61 : zI 90 61 = some (.getfield 26, [4, 3, 337]) := by decide +kernel
theorem zi_90_64 : zI 90 64 = some (.iload 5, []) := by decide +kernel
theorem zi_90_66 : zI 90 66 = some (.iconst 0, []) := by decide +kernel
theorem zi_90_67 : zI 90 67 = some (.invokevirtual 70, [1, 0, 2, 1, 234, 235, 12, 233, 0, 357]) := by decide +kernel
theorem zi_90_70 : zI 90 70 = some (.iinc 5 1, []) := by decide +kernel
theorem zi_90_73 : zI 90 73 = some (.goto (-70), [3]) := by decide +kernel
theorem zi_90_76 : zI 90 76 = some (.return_, []) := by decide +kernel
theorem zi_91_0 : zI 91 0 = some (.aload_n 0, []) := by decide +kernel
theorem zi_91_1 : zI 91 1 = some (.getfield 14, [4, 0, 334]) := by decide +kernel
theorem zi_91_4 : zI 91 4 = some (.aload_n 0, []) := by decide +kernel
theorem zi_91_5 : zI 91 5 = some (.getfield 29, [4, 4, 338]) := by decide +kernel
theorem zi_91_8 : zI 91 8 = some (.iload_n 1, []) := by decide +kernel
theorem zi_91_9 : zI 91 9 = some (.invokevirtual 70, [1, 0, 2, 1, 234, 235, 12, 233, 0, 357]) := by decide +kernel
theorem zi_91_12 : zI 91 12 = some (.aload_n 0, []) := by decide +kernel
theorem zi_91_13 : zI 91 13 = some (.getfield 20, [4, 1, 335]) := by decide +kernel
theorem zi_91_16 : zI 91 16 = some (.aload_n 0, []) := by decide +kernel
theorem zi_91_17 : zI 91 17 = some (.getfield 29, [4, 4, 338]) := by decide +kernel
theorem zi_91_20 : zI 91 20 = some (.iload_n 2, []) := by decide +kernel
theorem zi_91_21 : zI 91 21 = some (.invokevirtual 70, [1, 0, 2, 1, 234, 235, 12, 233, 0, 357]) := by decide +kernel
theorem zi_91_24 : zI 91 24 = some (.aload_n 0, []) := by decide +kernel
theorem zi_91_25 : zI 91 25 = some (.getfield 23, [4, 2, 336]) := by decide +kernel
theorem zi_91_28 : zI 91 28 = some (.aload_n 0, []) := by decide +kernel
theorem zi_91_29 : zI 91 29 = some (.getfield 29, [4, 4, 338]) := by decide +kernel
theorem zi_91_32 : zI 91 32 = some (.iload_n 3, []) := by decide +kernel
theorem zi_91_33 : zI 91 33 = some (.invokevirtual 70, [1, 0, 2, 1, 234, 235, 12, 233, 0, 357]) := by decide +kernel
theorem zi_91_36 : zI 91 36 = some (.aload_n 0, []) := by decide +kernel
theorem zi_91_37 : zI 91 37 = some (.dup, []) := by decide +kernel
theorem zi_91_38 : zI 91 38 = some (.getfield 29, [4, 4, 338]) := by decide +kernel
theorem zi_91_41 : zI 91 41 = some (.iconst 1, []) := by decide +kernel
theorem zi_91_42 : zI 91 42 = some (.iadd, []) := by decide +kernel
theorem zi_91_43 : zI 91 43 = some (.putfield 29, [4, 4, 0, 338]) := by decide +kernel
theorem zi_91_46 : zI 91 46 = some (.return_, []) := by decide +kernel
/-! spikes -/
section
variable {b : Nat} {h : zH}
theorem zsum_le {f : Nat → Nat} {m : Nat} : ∀ {n : Nat}, m ≤ n → zsum f m ≤ zsum f n
  | 0, h => by rw [show m = 0 by omega]; exact Nat.le_refl _
  | n + 1, h => by
    rcases Nat.lt_or_ge n m with q | q
    · rw [show m = n + 1 by omega]; exact Nat.le_refl _
    · exact Nat.le_trans (zsum_le (n := n) q) (Nat.le_add_right _ _)
theorem zcnt_tail {p : Nat → Bool} {n : Nat} : ∀ {m : Nat}, n ≤ m → (∀ j, n ≤ j → j < m → p j = false) → zcnt p m = zcnt p n
  | 0, h, _ => by rw [show n = 0 by omega]
  | m + 1, h, k => by
    rcases Nat.lt_or_ge m n with q | q
    · rw [show n = m + 1 by omega]
    · rw [zcnt_f (k m q (by omega)), zcnt_tail (m := m) q fun j h1 h2 => k j h1 (by omega)]
theorem c_enterS (hb : b + 71 ≤ h.length) (F : Nat → Nat → Int32) (g : Nat → Nat) (v t c : Int32) (hP : g 5 < 23) : zcalls zTB 91 [.ref (b + 43), .int v, .int t, .int c] (nput b F g h) (none, nput b (updR (updR (updR F 19 (upd (F 19) (g 5) v)) 20 (upd (F 20) (g 5) t)) 21 (upd (F 21) (g 5) c)) (updG g 5 (g 5 + 1)) h) := by
  refine zcalls_of (Nat.le_of_ble_eq_true rfl) ?_
  show zruns zTB 91 0 [some (.ref (b + 43)), some (.int v), some (.int t), some (.int c)] [] _ _
  refine zr_aload_n (pc' := 1) zi_91_0 rfl rfl ?_
  refine zr_get (pc' := 4) zi_91_1 (nput_at hb (k := 43) rfl) rfl rfl ?_
  refine zr_aload_n (pc' := 5) zi_91_4 rfl rfl ?_
  refine zr_get (pc' := 8) zi_91_5 (nput_at hb (k := 43) rfl) rfl rfl ?_
  refine zr_iload_n (pc' := 9) zi_91_8 rfl rfl ?_
  refine zr_rputN (pc' := 12) (rr := 19) (by omega) zi_91_9 hb rfl rfl (fun _ => rfl) (by decide) (by decide) rfl rfl ?_
  refine zr_aload_n (pc' := 13) zi_91_12 rfl rfl ?_
  refine zr_get (pc' := 16) zi_91_13 (nput_at hb (k := 43) rfl) rfl rfl ?_
  refine zr_aload_n (pc' := 17) zi_91_16 rfl rfl ?_
  refine zr_get (pc' := 20) zi_91_17 (nput_at hb (k := 43) rfl) rfl rfl ?_
  refine zr_iload_n (pc' := 21) zi_91_20 rfl rfl ?_
  refine zr_rputN (pc' := 24) (rr := 20) (by omega) zi_91_21 hb rfl rfl (fun _ => rfl) (by decide) (by decide) rfl rfl ?_
  refine zr_aload_n (pc' := 25) zi_91_24 rfl rfl ?_
  refine zr_get (pc' := 28) zi_91_25 (nput_at hb (k := 43) rfl) rfl rfl ?_
  refine zr_aload_n (pc' := 29) zi_91_28 rfl rfl ?_
  refine zr_get (pc' := 32) zi_91_29 (nput_at hb (k := 43) rfl) rfl rfl ?_
  refine zr_iload_n (pc' := 33) zi_91_32 rfl rfl ?_
  refine zr_rputN (pc' := 36) (rr := 21) (by omega) zi_91_33 hb rfl rfl (fun _ => rfl) (by decide) (by decide) rfl rfl ?_
  refine zr_aload_n (pc' := 37) zi_91_36 rfl rfl ?_
  refine zr_dup (pc' := 38) zi_91_37 rfl rfl ?_
  refine zr_get (pc' := 41) zi_91_38 (nput_at hb (k := 43) rfl) rfl rfl ?_
  refine zr_iconst (v := (nI 1)) (pc' := 42) zi_91_41 rfl rfl ?_
  refine zr_iadd (pc' := 43) zi_91_42 (by first | exact nI_add _ _ | rfl) rfl ?_
  refine zr_put (pc' := 46) zi_91_43 (by omega) (nput_at hb (k := 43) rfl) (Nat.le_of_ble_eq_true rfl) rfl rfl (nput_set (g' := updG _ 5 (_)) hb (by decide) rfl) ?_
  exact zr_return zi_91_46 rfl
/-- the rows of the spikes alone are changed -/
def zonK (F F' : Nat → Nat → Int32) : Prop := ∀ r, r < 19 ∨ 22 < r → F' r = F r
/-- closing a window from template t on -/
def zclo (F : Nat → Nat → Int32) (P T t : Nat) (W : Nat → Nat) (v : Int32) (F' : Nat → Nat → Int32) (P' : Nat) : Prop := zonK F F' ∧ P ≤ P' ∧ 3 * P' + zsum W t ≤ 3 * P + zsum W T ∧
  (∀ k, k < P → F' 19 k = F 19 k ∧ F' 20 k = F 20 k ∧ F' 21 k = F 21 k) ∧
  (∀ k, P ≤ k → k < P' → F' 19 k = v ∧ ∃ u, u < T ∧ F' 20 k = nI u ∧ 3 ≤ W u ∧ F' 21 k = nI (W u)) ∧
  (∀ u, t ≤ u → u < T → F' 22 u = 0) ∧ ∀ u, u < t → F' 22 u = F 22 u
theorem l_closeWindow (hb : b + 71 ≤ h.length) (F : Nat → Nat → Int32) (g : Nat → Nat) (T : Nat) (v w : Int32) (W : Nat → Nat) (hn : g 1 ≤ 70) (hT : T ≤ 20) (hW : ∀ u, u < T → W u ≤ 70) (t : Nat) (ht : t ≤ T) (hF : ∀ u, t ≤ u → u < T → F 22 u = nI (W u)) (hP : 3 * g 5 + zsum W T ≤ 70 + zsum W t) (X Y : Option Value) : zev 90 3 [some (.ref (b + 43)), some (.ref (b + 1)), some (.int (nI T)), some (.int v), some (.int w), some (.int (nI t)), X, Y] [] (nput b F g h) (zQn b h fun F' g' => ∃ P', g' = updG g 5 P' ∧ zclo F (g 5) T t W v F' P') := by
  have hskip : t < T → ∀ X Y, zev 90 3 [some (.ref (b + 43)), some (.ref (b + 1)), some (.int (nI T)), some (.int v), some (.int w), some (.int (nI (t + 1))), X, Y] [] (nput b (updR F 22 (upd (F 22) t (nI 0))) g h) (zQn b h fun F' g' => ∃ P', g' = updG g 5 P' ∧ zclo F (g 5) T t W v F' P') := by
    intro htT X Y
    have hz : zsum W (t + 1) = zsum W t + W t := rfl
    refine zev_mono (l_closeWindow hb (updR F 22 (upd (F 22) t (nI 0))) g T v w W hn hT hW (t + 1) (by omega) (fun u h1 h2 => (pk_un (by omega)).trans (hF u (by omega) h2)) (by omega) X Y) ?_
    rintro q ⟨F', g', ⟨P', h1, h2, h3, h4, h5, h6, h7, h8⟩, rfl⟩
    refine ⟨F', g', ⟨P', h1, fun r hr => (h2 r hr).trans (updR_ne (by omega)), h3, by omega, h5, h6, fun u h9 h10 => ?_, fun u hu => (h8 u (by omega)).trans (pk_un (by omega))⟩, rfl⟩
    rcases Nat.lt_or_ge t u with k | k
    · exact h7 u k h10
    · rw [show u = t by omega]
      exact (h8 t (by omega)).trans pk_us
  refine zev_of (fun _ kk => zr_iload (pc' := 5) zi_90_3 rfl rfl kk) ?_
  refine zev_of (fun _ kk => zr_iload_n (pc' := 6) zi_90_5 rfl rfl kk) ?_
  refine zv_icmp (pc' := 9) zi_90_6 rfl (fun h6 => ?_) (fun h6 => ?_)
  · replace h6 := zc_ge_t (by omega) (by omega) h6
    refine zev_ret (zr_return zi_90_76 rfl) ?_
    have e : t = T := by omega
    subst e
    refine ⟨_, _, ⟨g 5, ?_, fun _ _ => rfl, Nat.le_refl _, Nat.le_refl _, fun _ _ => ⟨rfl, rfl, rfl⟩, fun k h1 h2 => absurd h1 (by omega), fun u h1 h2 => absurd h1 (by omega), fun _ _ => rfl⟩, rfl⟩
    funext k
    unfold updG
    split
    · rename_i e
      rw [e]
    · rfl
  · replace h6 := zc_ge_f (by omega) (by omega) h6
    refine zev_of (fun _ kk => zr_aload_n (pc' := 10) zi_90_9 rfl rfl kk) ?_
    refine zev_of (fun _ kk => zr_get (pc' := 13) zi_90_10 (nput_at hb (k := 43) rfl) rfl rfl kk) ?_
    refine zev_of (fun _ kk => zr_iload (pc' := 15) zi_90_13 rfl rfl kk) ?_
    refine zev_of (fun _ kk => zr_atN (pc' := 18) (by omega) zi_90_15 hb rfl rfl (by decide) rfl rfl kk) ?_
    rw [hF t (Nat.le_refl _) (by omega)]
    refine zev_of (fun _ kk => zr_istore (pc' := 20) zi_90_18 (Nat.le_of_ble_eq_true rfl) rfl rfl kk) ?_
    dsimp only [zst1, zst2, zkill, List.set, List.getElem?_cons_succ, List.getElem?_cons_zero]
    refine zev_of (fun _ kk => zr_iload (pc' := 22) zi_90_20 rfl rfl kk) ?_
    refine zev_of (fun _ kk => zr_iconst (v := (nI 3)) (pc' := 23) zi_90_22 rfl rfl kk) ?_
    have hWt := hW t (by omega)
    refine zv_icmp (pc' := 26) zi_90_23 rfl (fun h23 => ?_) (fun h23 => ?_)
    · replace h23 := zc_lt_t (by omega) (by omega) h23
      refine zev_of (fun _ kk => zr_aload_n (pc' := 61) zi_90_60 rfl rfl kk) ?_
      refine zev_of (fun _ kk => zr_get (pc' := 64) zi_90_61 (nput_at hb (k := 43) rfl) rfl rfl kk) ?_
      refine zev_of (fun _ kk => zr_iload (pc' := 66) zi_90_64 rfl rfl kk) ?_
      refine zev_of (fun _ kk => zr_iconst (v := (nI 0)) (pc' := 67) zi_90_66 rfl rfl kk) ?_
      refine zev_of (fun _ kk => zr_rputN (pc' := 70) (rr := 22) (by omega) zi_90_67 hb rfl rfl (fun _ => rfl) (by decide) (by decide) rfl rfl kk) ?_
      refine zev_of (fun _ kk => zr_iinc (pc' := 73) zi_90_70 rfl (by first | exact n_inc _ | rfl) rfl rfl kk) ?_
      dsimp only [zst1, zst2, zkill, List.set, List.getElem?_cons_succ, List.getElem?_cons_zero]
      refine zev_of (fun _ kk => zr_goto zi_90_73 kk) ?_
      exact hskip (by omega) _ _
    · replace h23 := zc_lt_f (by omega) (by omega) h23
      refine zev_of (fun _ kk => zr_aload_n (pc' := 27) zi_90_26 rfl rfl kk) ?_
      refine zev_of (fun _ kk => zr_iload (pc' := 29) zi_90_27 rfl rfl kk) ?_
      refine zev_of (fun _ kk => zr_iload_n (pc' := 30) zi_90_29 rfl rfl kk) ?_
      refine zev_of (fun _ kk => zr_iconst (v := (nI 4)) (pc' := 31) zi_90_30 rfl rfl kk) ?_
      refine zev_of (fun _ kk => zr_isub (pc' := 32) zi_90_31 (by first | exact pk_sub (by omega) | rfl) rfl kk) ?_
      refine zev_of (fun _ kk => zr_iload_n (pc' := 33) zi_90_32 rfl rfl kk) ?_
      refine zev_of (fun _ kk => zr_iconst (v := (nI 1)) (pc' := 34) zi_90_33 rfl rfl kk) ?_
      refine zev_of (fun _ kk => zr_isub (pc' := 35) zi_90_34 (by first | exact pk_sub (by omega) | rfl) rfl kk) ?_
      refine zev_of (fun _ kk => zr_iload (pc' := 37) zi_90_35 rfl rfl kk) ?_
      refine zev_of (fun _ kk => zr_v4 (pc' := 40) zi_90_37 (nput_at hb (k := 1) rfl) rfl (c_howManyBetween hb _ _ _ _ hn) rfl kk) ?_
      refine zev_of (fun _ kk => zr_istore (pc' := 42) zi_90_40 (Nat.le_of_ble_eq_true rfl) rfl rfl kk) ?_
      dsimp only [zst1, zst2, zkill, List.set, List.getElem?_cons_succ, List.getElem?_cons_zero]
      refine zev_of (fun _ kk => zr_iconst (v := (nI 2)) (pc' := 43) zi_90_42 rfl rfl kk) ?_
      refine zev_of (fun _ kk => zr_iload (pc' := 45) zi_90_43 rfl rfl kk) ?_
      refine zev_of (fun _ kk => zr_imul (pc' := 46) zi_90_45 (by first | exact pk_mul _ _ | rfl) rfl kk) ?_
      refine zev_of (fun _ kk => zr_iload (pc' := 48) zi_90_46 rfl rfl kk) ?_
      refine zv_icmp (pc' := 51) zi_90_48 rfl (fun h48 => ?_) (fun h48 => ?_)
      · replace h48 := zx_le_t h48
        refine zev_of (fun _ kk => zr_aload_n (pc' := 61) zi_90_60 rfl rfl kk) ?_
        refine zev_of (fun _ kk => zr_get (pc' := 64) zi_90_61 (nput_at hb (k := 43) rfl) rfl rfl kk) ?_
        refine zev_of (fun _ kk => zr_iload (pc' := 66) zi_90_64 rfl rfl kk) ?_
        refine zev_of (fun _ kk => zr_iconst (v := (nI 0)) (pc' := 67) zi_90_66 rfl rfl kk) ?_
        refine zev_of (fun _ kk => zr_rputN (pc' := 70) (rr := 22) (by omega) zi_90_67 hb rfl rfl (fun _ => rfl) (by decide) (by decide) rfl rfl kk) ?_
        refine zev_of (fun _ kk => zr_iinc (pc' := 73) zi_90_70 rfl (by first | exact n_inc _ | rfl) rfl rfl kk) ?_
        dsimp only [zst1, zst2, zkill, List.set, List.getElem?_cons_succ, List.getElem?_cons_zero]
        refine zev_of (fun _ kk => zr_goto zi_90_73 kk) ?_
        exact hskip (by omega) _ _
      · replace h48 := zx_le_f h48
        refine zev_of (fun _ kk => zr_aload_n (pc' := 52) zi_90_51 rfl rfl kk) ?_
        refine zev_of (fun _ kk => zr_iload_n (pc' := 53) zi_90_52 rfl rfl kk) ?_
        refine zev_of (fun _ kk => zr_iload (pc' := 55) zi_90_53 rfl rfl kk) ?_
        refine zev_of (fun _ kk => zr_iload (pc' := 57) zi_90_55 rfl rfl kk) ?_
        have hz : zsum W (t + 1) = zsum W t + W t := rfl
        have hz2 : zsum W (t + 1) ≤ zsum W T := zsum_le (by omega)
        have hent := c_enterS hb F g v (nI t) (nI (W t)) (by omega)
        refine zev_of (fun _ kk => zr_n3 (pc' := 60) zi_90_57 (nput_at hb (k := 43) rfl) rfl hent rfl kk) ?_
        refine zev_of (fun _ kk => zr_aload_n (pc' := 61) zi_90_60 rfl rfl kk) ?_
        refine zev_of (fun _ kk => zr_get (pc' := 64) zi_90_61 (nput_at hb (k := 43) rfl) rfl rfl kk) ?_
        refine zev_of (fun _ kk => zr_iload (pc' := 66) zi_90_64 rfl rfl kk) ?_
        refine zev_of (fun _ kk => zr_iconst (v := (nI 0)) (pc' := 67) zi_90_66 rfl rfl kk) ?_
        refine zev_of (fun _ kk => zr_rputN (pc' := 70) (rr := 22) (by omega) zi_90_67 hb rfl rfl (fun _ => rfl) (by decide) (by decide) rfl rfl kk) ?_
        refine zev_of (fun _ kk => zr_iinc (pc' := 73) zi_90_70 rfl (by first | exact n_inc _ | rfl) rfl rfl kk) ?_
        dsimp only [zst1, zst2, zkill, List.set, List.getElem?_cons_succ, List.getElem?_cons_zero]
        refine zev_of (fun _ kk => zr_goto zi_90_73 kk) ?_
        refine zev_mono (l_closeWindow hb _ (updG g 5 (g 5 + 1)) T v w W hn hT hW (t + 1) (by omega) (fun u h1 h2 => ?_) ?_ _ _) ?_
        · exact (pk_un (by omega)).trans (hF u (by omega) h2)
        · show 3 * (g 5 + 1) + zsum W T ≤ 70 + zsum W (t + 1)
          omega
        · rintro q ⟨F', g', ⟨P', h1, h2, h3, h4, h5, h6, h7, h8⟩, rfl⟩
          have h3' : g 5 + 1 ≤ P' := h3
          have h4' : 3 * P' + zsum W (t + 1) ≤ 3 * (g 5 + 1) + zsum W T := h4
          refine ⟨F', g', ⟨P', ?_, fun r hr => (h2 r hr).trans ?_, by omega, by omega, fun k hk => ?_, fun k h9 h10 => ?_, fun u h9 h10 => ?_, fun u hu => (h8 u (by omega)).trans (pk_un (by omega))⟩, rfl⟩
          · rw [h1]
            funext k
            unfold updG
            split <;> rfl
          · rw [updR_ne (by omega), updR_ne (by omega), updR_ne (by omega), updR_ne (by omega)]
          · obtain ⟨k1, k2, k3⟩ := h5 k (Nat.lt_succ_of_lt hk)
            exact ⟨k1.trans (pk_un (by omega)), k2.trans (pk_un (by omega)), k3.trans (pk_un (by omega))⟩
          · rcases Nat.lt_or_ge (g 5) k with j | j
            · exact h6 k j h10
            · have e : k = g 5 := by omega
              subst e
              obtain ⟨k1, k2, k3⟩ := h5 (g 5) (Nat.lt_succ_self _)
              exact ⟨k1.trans pk_us, t, by omega, k2.trans pk_us, h23, k3.trans pk_us⟩
          · rcases Nat.lt_or_ge t u with k | k
            · exact h7 u k h10
            · rw [show u = t by omega]
              exact (h8 t (by omega)).trans pk_us
termination_by T - t
theorem c_closeWindow (hb : b + 71 ≤ h.length) (F : Nat → Nat → Int32) (g : Nat → Nat) (T : Nat) (v w : Int32) (W : Nat → Nat) (hn : g 1 ≤ 70) (hT : T ≤ 20) (hW : ∀ u, u < T → W u ≤ 70) (hF : ∀ u, u < T → F 22 u = nI (W u)) (hP : 3 * g 5 + zsum W T ≤ 70) : ∃ F' g', (∃ P', g' = updG g 5 P' ∧ zclo F (g 5) T 0 W v F' P') ∧ zcalls zTB 90 [.ref (b + 43), .ref (b + 1), .int (nI T), .int v, .int w] (nput b F g h) (none, nput b F' g' h) := by
  refine zQn_out (zev_calls (Nat.le_of_ble_eq_true rfl) ?_)
  show zev 90 0 [some (.ref (b + 43)), some (.ref (b + 1)), some (.int (nI T)), some (.int v), some (.int w), none, none, none] [] _ _
  refine zev_of (fun _ kk => zr_iconst (v := (nI 0)) (pc' := 1) zi_90_0 rfl rfl kk) ?_
  refine zev_of (fun _ kk => zr_istore (pc' := 3) zi_90_1 (Nat.le_of_ble_eq_true rfl) rfl rfl kk) ?_
  dsimp only [zst1, zst2, zkill, List.set, List.getElem?_cons_succ, List.getElem?_cons_zero]
  exact l_closeWindow hb F g T v w W hn hT hW 0 (Nat.zero_le _) (fun u _ hu => hF u hu) hP none none
/-- the spikes of the lines ahead -/
def zspk (F : Nat → Nat → Int32) (m T : Nat) (V vv : Nat → Nat) (P : Nat) : Prop := ∀ k, k < P → F 19 k = nI (vv k) ∧ (∃ j, j < m ∧ vv k = V j) ∧ ∃ t, t < T ∧ F 20 k = nI t ∧ 3 ≤ zcnt (fun j => decide (F 5 j = nI t ∧ V j = vv k)) m ∧ F 21 k = nI (zcnt (fun j => decide (F 5 j = nI t ∧ V j = vv k)) m)
def zwin (F : Nat → Nat → Int32) (a i t : Nat) : Nat := zcnt (fun j => decide (a ≤ j ∧ F 5 j = nI t)) i
theorem zwin_of {F F' : Nat → Nat → Int32} (e : F' 5 = F 5) : zwin F' = zwin F := by
  funext a i t
  unfold zwin
  rw [e]
theorem zwin_le (F : Nat → Nat → Int32) (a i t : Nat) : zwin F a i t ≤ i := zcnt_le _ _
theorem zwin_self (F : Nat → Nat → Int32) (i t : Nat) : zwin F i i t = 0 := by
  unfold zwin
  rw [zcnt_tail (n := 0) (Nat.zero_le _) fun j _ h2 => by simp only [decide_eq_false_iff_not]; exact fun q => absurd q.1 (by omega)]
  rfl
theorem zsum_zero : ∀ n, zsum (fun _ => 0) n = 0
  | 0 => rfl
  | n + 1 => zsum_zero n
theorem zwin_inc {F : Nat → Nat → Int32} {T a i : Nat} (hT : T ≤ 20) (hi : i ≤ 70) (hai : a ≤ i) (hof : F 5 i = -1 ∨ ∃ t, t < T ∧ F 5 i = nI t) (hW : ∀ t, t < T → F 22 t = nI (zwin F a i t)) (hWs : zsum (zwin F a i) T ≤ i - a) : (∀ t, t < T → rput 20 (F 22) (F 5 i) (F 22 (F 5 i).toNatClampNeg + 1) t = nI (zwin F a (i + 1) t)) ∧ zsum (zwin F a (i + 1)) T ≤ i + 1 - a := by
  rcases hof with e | ⟨u, hu, e⟩
  · have hz : ∀ t, t < T → zwin F a (i + 1) t = zwin F a i t := fun t ht => zcnt_f (by rw [e]; simp only [decide_eq_false_iff_not]; exact fun q => nI_neg (by omega) q.2.symm)
    refine ⟨fun t ht => ?_, ?_⟩
    · rw [e, hz t ht]
      unfold rput
      rw [if_pos (.inl (by decide))]
      exact hW t ht
    · rw [zsum_ext hz]
      omega
  · have hz : ∀ t, t < T → zwin F a (i + 1) t = nup (zwin F a i) u (zwin F a i u + 1) t := by
      intro t ht
      by_cases q : t = u
      · subst q
        rw [nup_eq]
        exact zcnt_t (by simp only [decide_eq_true_eq]; exact ⟨hai, e⟩)
      · rw [nup_ne q]
        exact zcnt_f (by rw [e]; simp only [decide_eq_false_iff_not]; exact fun k => q ((nI_eq (by omega) (by omega)).mp k.2).symm)
    refine ⟨fun t ht => ?_, ?_⟩
    · rw [e, hz t ht, rput_n (by omega) (by omega), nI_clamp (by omega)]
      by_cases q : t = u
      · subst q
        rw [nup_eq, pk_us, hW t ht, nI_1]
      · rw [nup_ne q, pk_un q]
        exact hW t ht
    · rw [zsum_ext hz]
      have := zsum_up (f := zwin F a i) (v := zwin F a i u + 1) hu
      omega
theorem l_findS (hb : b + 71 ≤ h.length) (F : Nat → Nat → Int32) (g : Nat → Nat) (T w : Nat) (x : Nat → Nat) (hn : g 1 ≤ 70) (hT : T ≤ 20) (hw : 0 < w ∧ w < 2 ^ 31) (hx : ∀ j, j < g 1 → F 0 j = nI (x j) ∧ x j < 2 ^ 31) (hmo : ∀ j k, j ≤ k → k < g 1 → x j ≤ x k) (hof : ∀ j, j < g 1 → F 5 j = -1 ∨ ∃ t, t < T ∧ F 5 j = nI t) (a i : Nat) (vv : Nat → Nat) (hai : a ≤ i) (hi : i ≤ g 1) (hv : ∀ k, k + 1 < g 5 → vv k ≤ vv (k + 1)) (hva : ∀ k j, k < g 5 → a ≤ j → j < g 1 → vv k ≤ x j / w) (hq : zspk F (g 1) T (fun j => x j / w) vv (g 5)) (hP : 3 * g 5 ≤ a) (hW : ∀ t, t < T → F 22 t = nI (zwin F a i t)) (hWs : zsum (zwin F a i) T ≤ i - a) (hl : ∀ j k, j < a → a ≤ k → k < g 1 → x j / w < x k / w) (hs : ∀ j, a ≤ j → j < i → i < g 1 ∧ x j / w = x i / w) (X : Option Value) : zev 89 15 [some (.ref (b + 43)), some (.ref (b + 1)), some (.int (nI T)), some (.int (nI w)), some (.int (nI i)), X] [] (nput b F g h) (zQn b h fun F' g' => zonK F F' ∧ ∃ P vv, P ≤ 23 ∧ g' = updG g 5 P ∧ (∀ k, k + 1 < P → vv k ≤ vv (k + 1)) ∧ zspk F' (g 1) T (fun j => x j / w) vv P) := by
  refine zev_of (fun _ kk => zr_iload (pc' := 17) zi_89_15 rfl rfl kk) ?_
  refine zev_of (fun _ kk => zr_aload_n (pc' := 18) zi_89_17 rfl rfl kk) ?_
  refine zev_of (fun _ kk => zr_get (pc' := 21) zi_89_18 (nput_at hb (k := 1) rfl) rfl rfl kk) ?_
  refine zv_icmp (pc' := 24) zi_89_21 rfl (fun h21 => ?_) (fun h21 => ?_)
  · replace h21 := zc_ge_t (by omega) (by omega) h21
    refine zev_ret (zr_return zi_89_101 rfl) ?_
    refine ⟨_, _, ⟨fun _ _ => rfl, g 5, vv, by omega, ?_, hv, hq⟩, rfl⟩
    funext k
    unfold updG
    split
    · rename_i e
      rw [e]
    · rfl
  · replace h21 := zc_ge_f (by omega) (by omega) h21
    have him : i < g 1 := h21
    have hqi : ∀ (H : zH) j, j < g 1 → zcalls zTB 13 [.int (F 0 j), .int (nI w)] H (some (.int (nI (x j / w))), H) := by
      intro H j hj
      have hc := c_quotient (H := H) (F 0 j) (nI w)
      rw [(hx j hj).1, if_neg (nI_ne0 hw.1 hw.2), pk_div (hx j hj).2 hw.1 hw.2] at hc
      rw [(hx j hj).1]
      exact hc
    have hdv : ∀ j, j < g 1 → x j / w < 2 ^ 31 := fun j hj => Nat.lt_of_le_of_lt (Nat.div_le_self _ _) (hx j hj).2
    have hdm : ∀ j k, j ≤ k → k < g 1 → x j / w ≤ x k / w := fun j k h1 h2 => Nat.div_le_div_right (hmo j k h1 h2)
    obtain ⟨hinc, hsum⟩ := zwin_inc hT (by omega) hai (hof i him) hW hWs
    obtain ⟨F2, g2, ⟨P2, hg2, hk1, hk2, hk3, hk4, hk5, hk6, hk7⟩, hcl⟩ := c_closeWindow hb (updR F 22 (rput 20 (F 22) (F 5 i) (F 22 (F 5 i).toNatClampNeg + 1))) g T (nI (x i / w)) (nI w) (zwin F a (i + 1)) hn hT (fun u hu => by have := zwin_le F a (i + 1) u; omega) hinc (by omega)
    subst hg2
    have hk3' : 3 * P2 ≤ 3 * g 5 + zsum (zwin F a (i + 1)) T := hk3
    have e5 : F2 5 = F 5 := hk1 _ (.inl (by decide))
    have e0 : F2 0 = F 0 := hk1 _ (.inl (by decide))
    have hcont : (∀ k, i < k → k < g 1 → x i / w < x k / w) → ∀ X, zev 89 15 [some (.ref (b + 43)), some (.ref (b + 1)), some (.int (nI T)), some (.int (nI w)), some (.int (nI (i + 1))), X] [] (nput b F2 (updG g 5 P2) h) (zQn b h fun F' g' => zonK F F' ∧ ∃ P vv, P ≤ 23 ∧ g' = updG g 5 P ∧ (∀ k, k + 1 < P → vv k ≤ vv (k + 1)) ∧ zspk F' (g 1) T (fun j => x j / w) vv P) := by
      intro hlt X
      have hfull : ∀ u, zcnt (fun j => decide (F 5 j = nI u ∧ x j / w = x i / w)) (g 1) = zwin F a (i + 1) u := by
        intro u
        rw [zcnt_tail (n := i + 1) (by omega) fun j h1 h2 => by
          simp only [decide_eq_false_iff_not]
          intro q
          have := hlt j (by omega) h2
          omega]
        refine zcnt_ext fun j hj => ?_
        refine decide_eq_decide.mpr ⟨fun q => ⟨Nat.le_of_not_lt fun k => ?_, q.1⟩, fun q => ⟨q.2, ?_⟩⟩
        · have := hl j i k hai him
          omega
        · rcases Nat.lt_or_ge j i with k | k
          · exact (hs j q.1 k).2
          · rw [show j = i by omega]
      obtain ⟨v2, hvv, hvw⟩ : ∃ v2 : Nat → Nat, (∀ k, k < g 5 → v2 k = vv k) ∧ ∀ k, g 5 ≤ k → v2 k = x i / w := ⟨fun k => if k < g 5 then vv k else x i / w, fun k hk => if_pos hk, fun k hk => if_neg (by omega)⟩
      refine zev_mono (l_findS hb F2 (updG g 5 P2) T w x hn hT hw (fun j hj => by rw [e0]; exact hx j hj) hmo (fun j hj => by rw [e5]; exact hof j hj) (i + 1) (i + 1) v2 (Nat.le_refl _) (by exact him) ?_ ?_ ?_ ?_ ?_ ?_ ?_ ?_ X) ?_
      · intro k hk
        have hk' : k + 1 < P2 := hk
        rcases Nat.lt_or_ge (k + 1) (g 5) with j | j
        · rw [hvv _ j, hvv _ (by omega)]
          exact hv k j
        · rw [hvw _ j]
          rcases Nat.lt_or_ge k (g 5) with l | l
          · rw [hvv _ l]
            exact hva k i l hai him
          · rw [hvw _ l]
            exact Nat.le_refl _
      · intro k j hk h1 h2
        rcases Nat.lt_or_ge k (g 5) with l | l
        · rw [hvv _ l]
          exact hva k j l (by omega) h2
        · rw [hvw _ l]
          exact hdm i j (by omega) h2
      · intro k hk
        have hk' : k < P2 := hk
        rcases Nat.lt_or_ge k (g 5) with l | l
        · obtain ⟨a1, a2, a3⟩ := hk4 k l
          obtain ⟨b1, b2, u, b3, b4, b5, b6⟩ := hq k l
          rw [hvv _ l, a1, a2, a3, e5]
          exact ⟨b1, b2, u, b3, b4, b5, b6⟩
        · obtain ⟨a1, u, a2, a3, a4, a5⟩ := hk5 k l hk'
          rw [hvw _ l, a1, a3, a5, e5]
          refine ⟨rfl, ⟨i, him, rfl⟩, u, a2, rfl, ?_, ?_⟩
          · exact (hfull u).symm ▸ a4
          · exact congrArg nI (hfull u).symm
      · show 3 * P2 ≤ i + 1
        omega
      · intro t ht
        rw [zwin_self]
        exact hk6 t (Nat.zero_le _) ht
      · rw [zsum_ext (f' := fun _ => 0) fun j _ => zwin_self F2 (i + 1) j, zsum_zero]
        exact Nat.zero_le _
      · intro j k h1 h2 h3
        exact Nat.lt_of_le_of_lt (hdm j i (by omega) him) (hlt k h2 h3)
      · intro j h1 h2
        exact absurd h1 (by omega)
      · rintro q ⟨F', g', ⟨h1, P3, vv3, h2, h3, h4, h5⟩, rfl⟩
        refine ⟨F', g', ⟨fun r hr => (h1 r hr).trans ((hk1 r hr).trans (updR_ne (by omega))), P3, vv3, h2, ?_, h4, h5⟩, rfl⟩
        rw [h3]
        funext k
        unfold updG
        split <;> rfl
    refine zev_of (fun _ kk => zr_aload_n (pc' := 25) zi_89_24 rfl rfl kk) ?_
    refine zev_of (fun _ kk => zr_get (pc' := 28) zi_89_25 (nput_at hb (k := 43) rfl) rfl rfl kk) ?_
    refine zev_of (fun _ kk => zr_aload_n (pc' := 29) zi_89_28 rfl rfl kk) ?_
    refine zev_of (fun _ kk => zr_get (pc' := 32) zi_89_29 (nput_at hb (k := 1) rfl) rfl rfl kk) ?_
    refine zev_of (fun _ kk => zr_iload (pc' := 34) zi_89_32 rfl rfl kk) ?_
    refine zev_of (fun _ kk => zr_atN (pc' := 37) (by omega) zi_89_34 hb rfl rfl (by decide) rfl rfl kk) ?_
    refine zev_of (fun _ kk => zr_rinc (pc' := 40) (rr := 22) zi_89_37 hb rfl rfl (fun _ => rfl) (by decide) (by decide) rfl rfl kk) ?_
    refine zev_of (fun _ kk => zr_aload_n (pc' := 41) zi_89_40 rfl rfl kk) ?_
    refine zev_of (fun _ kk => zr_get (pc' := 44) zi_89_41 (nput_at hb (k := 1) rfl) rfl rfl kk) ?_
    refine zev_of (fun _ kk => zr_iload (pc' := 46) zi_89_44 rfl rfl kk) ?_
    refine zev_of (fun _ kk => zr_atN (pc' := 49) (by omega) zi_89_46 hb rfl rfl (by decide) rfl rfl kk) ?_
    refine zev_of (fun _ kk => zr_iload_n (pc' := 50) zi_89_49 rfl rfl kk) ?_
    refine zev_of (fun _ kk => zr_s2 (pc' := 53) zi_89_50 rfl (hqi _ i him) rfl kk) ?_
    refine zev_of (fun _ kk => zr_istore (pc' := 55) zi_89_53 (Nat.le_of_ble_eq_true rfl) rfl rfl kk) ?_
    dsimp only [zst1, zst2, zkill, List.set, List.getElem?_cons_succ, List.getElem?_cons_zero]
    refine zev_of (fun _ kk => zr_iload (pc' := 57) zi_89_55 rfl rfl kk) ?_
    refine zev_of (fun _ kk => zr_iconst (v := (nI 1)) (pc' := 58) zi_89_57 rfl rfl kk) ?_
    refine zev_of (fun _ kk => zr_iadd (pc' := 59) zi_89_58 (by first | exact nI_add _ _ | rfl) rfl kk) ?_
    refine zev_of (fun _ kk => zr_aload_n (pc' := 60) zi_89_59 rfl rfl kk) ?_
    refine zev_of (fun _ kk => zr_get (pc' := 63) zi_89_60 (nput_at hb (k := 1) rfl) rfl rfl kk) ?_
    refine zv_icmp (pc' := 66) zi_89_63 rfl (fun h63 => ?_) (fun h63 => ?_)
    · replace h63 := zc_eq_t h63
      refine zev_of (fun _ kk => zr_aload_n (pc' := 87) zi_89_86 rfl rfl kk) ?_
      refine zev_of (fun _ kk => zr_aload_n (pc' := 88) zi_89_87 rfl rfl kk) ?_
      refine zev_of (fun _ kk => zr_iload_n (pc' := 89) zi_89_88 rfl rfl kk) ?_
      refine zev_of (fun _ kk => zr_iload (pc' := 91) zi_89_89 rfl rfl kk) ?_
      refine zev_of (fun _ kk => zr_iload_n (pc' := 92) zi_89_91 rfl rfl kk) ?_
      refine zev_of (fun _ kk => zr_n4 (pc' := 95) zi_89_92 (nput_at hb (k := 43) rfl) rfl hcl rfl kk) ?_
      refine zev_of (fun _ kk => zr_iinc (pc' := 98) zi_89_95 rfl (by first | exact n_inc _ | rfl) rfl rfl kk) ?_
      dsimp only [zst1, zst2, zkill, List.set, List.getElem?_cons_succ, List.getElem?_cons_zero]
      refine zev_of (fun _ kk => zr_goto zi_89_98 kk) ?_
      have e := (nI_eq (by omega) (by omega)).mp h63
      exact hcont (fun k h1 h2 => absurd h1 (by omega)) _
    · replace h63 := zc_eq_f h63
      have hi1 : i + 1 < g 1 := by
        refine Nat.lt_of_le_of_ne (by omega) fun e => h63 ?_
        rw [e]
      refine zev_of (fun _ kk => zr_aload_n (pc' := 67) zi_89_66 rfl rfl kk) ?_
      refine zev_of (fun _ kk => zr_get (pc' := 70) zi_89_67 (nput_at hb (k := 1) rfl) rfl rfl kk) ?_
      refine zev_of (fun _ kk => zr_iload (pc' := 72) zi_89_70 rfl rfl kk) ?_
      refine zev_of (fun _ kk => zr_iconst (v := (nI 1)) (pc' := 73) zi_89_72 rfl rfl kk) ?_
      refine zev_of (fun _ kk => zr_iadd (pc' := 74) zi_89_73 (by first | exact nI_add _ _ | rfl) rfl kk) ?_
      refine zev_of (fun _ kk => zr_atN (pc' := 77) (by omega) zi_89_74 hb rfl rfl (by decide) rfl rfl kk) ?_
      refine zev_of (fun _ kk => zr_iload_n (pc' := 78) zi_89_77 rfl rfl kk) ?_
      refine zev_of (fun _ kk => zr_s2 (pc' := 81) zi_89_78 rfl (hqi _ (i + 1) hi1) rfl kk) ?_
      refine zev_of (fun _ kk => zr_iload (pc' := 83) zi_89_81 rfl rfl kk) ?_
      refine zv_icmp (pc' := 86) zi_89_83 rfl (fun h83 => ?_) (fun h83 => ?_)
      · replace h83 := zc_eq_t h83
        refine zev_of (fun _ kk => zr_iinc (pc' := 98) zi_89_95 rfl (by first | exact n_inc _ | rfl) rfl rfl kk) ?_
        dsimp only [zst1, zst2, zkill, List.set, List.getElem?_cons_succ, List.getElem?_cons_zero]
        refine zev_of (fun _ kk => zr_goto zi_89_98 kk) ?_
        have e := (nI_eq (hdv _ hi1) (hdv _ him)).mp h83
        refine zev_mono (l_findS hb (updR F 22 (rput 20 (F 22) (F 5 i) (F 22 (F 5 i).toNatClampNeg + 1))) g T w x hn hT hw hx hmo hof a (i + 1) vv (by omega) (by omega) hv hva hq hP hinc hsum hl ?_ _) ?_
        · intro j h1 h2
          refine ⟨hi1, ?_⟩
          rcases Nat.lt_or_ge j i with k | k
          · rw [(hs j h1 k).2, e]
          · rw [show j = i by omega, e]
        · rintro q ⟨F', g', ⟨h1, h2⟩, rfl⟩
          exact ⟨F', g', ⟨fun r hr => (h1 r hr).trans (updR_ne (by omega)), h2⟩, rfl⟩
      · replace h83 := zc_eq_f h83
        refine zev_of (fun _ kk => zr_aload_n (pc' := 87) zi_89_86 rfl rfl kk) ?_
        refine zev_of (fun _ kk => zr_aload_n (pc' := 88) zi_89_87 rfl rfl kk) ?_
        refine zev_of (fun _ kk => zr_iload_n (pc' := 89) zi_89_88 rfl rfl kk) ?_
        refine zev_of (fun _ kk => zr_iload (pc' := 91) zi_89_89 rfl rfl kk) ?_
        refine zev_of (fun _ kk => zr_iload_n (pc' := 92) zi_89_91 rfl rfl kk) ?_
        refine zev_of (fun _ kk => zr_n4 (pc' := 95) zi_89_92 (nput_at hb (k := 43) rfl) rfl hcl rfl kk) ?_
        refine zev_of (fun _ kk => zr_iinc (pc' := 98) zi_89_95 rfl (by first | exact n_inc _ | rfl) rfl rfl kk) ?_
        dsimp only [zst1, zst2, zkill, List.set, List.getElem?_cons_succ, List.getElem?_cons_zero]
        refine zev_of (fun _ kk => zr_goto zi_89_98 kk) ?_
        refine hcont (fun k h1 h2 => ?_) _
        have h3 := hdm (i + 1) k (by omega) h2
        have h4 := hdm i (i + 1) (by omega) hi1
        have h5 : x (i + 1) / w ≠ x i / w := fun e => h83 (by rw [e])
        omega
termination_by g 1 - i
decreasing_by all_goals (show g 1 - (i + 1) < g 1 - i; omega)
theorem c_findS (hb : b + 71 ≤ h.length) (F : Nat → Nat → Int32) (g : Nat → Nat) (T w : Nat) (x : Nat → Nat) (hn : g 1 ≤ 70) (hT : T ≤ 20) (hw : 0 < w ∧ w < 2 ^ 31) (hx : ∀ j, j < g 1 → F 0 j = nI (x j) ∧ x j < 2 ^ 31) (hmo : ∀ j k, j ≤ k → k < g 1 → x j ≤ x k) (hof : ∀ j, j < g 1 → F 5 j = -1 ∨ ∃ t, t < T ∧ F 5 j = nI t) : ∃ F' g', (zonK F F' ∧ ∃ P vv, P ≤ 23 ∧ g' = updG g 5 P ∧ (∀ k, k + 1 < P → vv k ≤ vv (k + 1)) ∧ zspk F' (g 1) T (fun j => x j / w) vv P) ∧ zcalls zTB 89 [.ref (b + 43), .ref (b + 1), .int (nI T), .int (nI w)] (nput b F g h) (none, nput b F' g' h) := by
  refine zQn_out (zev_calls (Nat.le_of_ble_eq_true rfl) ?_)
  show zev 89 0 [some (.ref (b + 43)), some (.ref (b + 1)), some (.int (nI T)), some (.int (nI w)), none, none] [] _ _
  refine zev_of (fun _ kk => zr_aload_n (pc' := 1) zi_89_0 rfl rfl kk) ?_
  refine zev_of (fun _ kk => zr_iconst (v := (nI 0)) (pc' := 2) zi_89_1 rfl rfl kk) ?_
  refine zev_of (fun _ kk => zr_put (pc' := 5) zi_89_2 (by omega) (nput_at hb (k := 43) rfl) (Nat.le_of_ble_eq_true rfl) rfl rfl (nput_set (g' := updG _ 5 (0)) hb (by decide) rfl) kk) ?_
  refine zev_of (fun _ kk => zr_aload_n (pc' := 6) zi_89_5 rfl rfl kk) ?_
  refine zev_of (fun _ kk => zr_get (pc' := 9) zi_89_6 (nput_at hb (k := 43) rfl) rfl rfl kk) ?_
  refine zv_rclear (pc' := 12) (rr := 22) zi_89_9 hb rfl rfl (fun _ => rfl) (by decide) (by decide) (by decide) rfl rfl (fun f22 hf22 => ?_)
  refine zev_of (fun _ kk => zr_iconst (v := (nI 0)) (pc' := 13) zi_89_12 rfl rfl kk) ?_
  refine zev_of (fun _ kk => zr_istore (pc' := 15) zi_89_13 (Nat.le_of_ble_eq_true rfl) rfl rfl kk) ?_
  dsimp only [zst1, zst2, zkill, List.set, List.getElem?_cons_succ, List.getElem?_cons_zero]
  refine zev_mono (l_findS hb _ (updG g 5 0) T w x hn hT hw (by exact hx) hmo (by exact hof) 0 0 (fun _ => 0) (Nat.le_refl _) (Nat.zero_le _) ?_ ?_ ?_ ?_ ?_ ?_ ?_ ?_ none) ?_
  · intro k hk
    exact absurd hk (Nat.not_lt_zero _)
  · intro k j hk
    exact absurd hk (Nat.not_lt_zero _)
  · intro k hk
    exact absurd hk (Nat.not_lt_zero _)
  · exact Nat.le_refl _
  · intro t ht
    rw [zwin_self]
    exact hf22 t (by omega)
  · rw [zsum_ext (f' := fun _ => 0) fun j _ => zwin_self _ 0 j, zsum_zero]
    exact Nat.zero_le _
  · intro j k hj
    exact absurd hj (Nat.not_lt_zero _)
  · intro j _ hj
    exact absurd hj (Nat.not_lt_zero _)
  · rintro q ⟨F', g', ⟨h1, P3, vv3, h2, h3, h4, h5⟩, rfl⟩
    refine ⟨F', g', ⟨fun r hr => (h1 r hr).trans (updR_ne (by omega)), P3, vv3, h2, ?_, h4, h5⟩, rfl⟩
    rw [h3]
    funext k
    unfold updG
    split <;> rfl
end
end
section
theorem zi_9_0 : zI 9 0 = some (.iload_n 0, []) := by decide +kernel
theorem zi_9_1 : zI 9 1 = some (.bipush 20, []) := by decide +kernel
theorem zi_9_3 : zI 9 3 = some (.imul, []) := by decide +kernel
theorem zi_9_4 : zI 9 4 = some (.iload_n 1, []) := by decide +kernel
theorem zi_9_5 : zI 9 5 = some (.iadd, []) := by decide +kernel
theorem zi_9_6 : zI 9 6 = some (.ireturn, []) := by decide +kernel
theorem zi_20_0 : zI 20 0 = some (.aload_n 0, []) := by decide +kernel
theorem zi_20_1 : zI 20 1 = some (.getfield 35, [2, 6, 43]) := by decide +kernel
theorem zi_20_4 : zI 20 4 = some (.iload_n 1, []) := by decide +kernel
theorem zi_20_5 : zI 20 5 = some (.iload_n 2, []) := by decide +kernel
theorem zi_20_6 : zI 20 6 = some (.invokestatic 74, [9, 1, 2, 0, 46, 0, 47, 45, 0, 44]) := by decide +kernel
theorem zi_20_9 : zI 20 9 = some (.invokevirtual 54, [0, 0, 1, 1, 10, 11, 12, 9, 0, 48]) := by decide +kernel
theorem zi_20_12 : zI 20 12 = some (.ireturn, []) := by decide +kernel
theorem zi_26_0 : zI 26 0 = some (.iload_n 0, []) := by decide +kernel
theorem zi_26_1 : zI 26 1 = some (.ifCond .ge 7, [8]) := by decide +kernel
theorem zi_26_4 : zI 26 4 = some (.iconst 0, []) := by decide +kernel
theorem zi_26_5 : zI 26 5 = some (.goto 6, [11]) := by decide +kernel
theorem zi_26_8 : zI 26 8 = some (.iconst 1, []) := by decide +kernel
theorem zi_26_9 : zI 26 9 = some (.iload_n 0, []) := by decide +kernel
theorem zi_26_10 : zI 26 10 = some (.ishl, []) := by decide +kernel
theorem zi_26_11 : zI 26 11 = some (.ireturn, []) := by decide +kernel
theorem zi_27_0 : zI 27 0 = some (.aload_n 0, []) := by decide +kernel
theorem zi_27_1 : zI 27 1 = some (.getfield 23, [2, 2, 97]) := by decide +kernel
theorem zi_27_4 : zI 27 4 = some (.iload_n 1, []) := by decide +kernel
theorem zi_27_5 : zI 27 5 = some (.iload_n 2, []) := by decide +kernel
theorem zi_27_6 : zI 27 6 = some (.invokestatic 74, [9, 1, 2, 0, 46, 0, 47, 45, 0, 44]) := by decide +kernel
theorem zi_27_9 : zI 27 9 = some (.invokevirtual 54, [0, 0, 1, 1, 10, 11, 12, 9, 0, 48]) := by decide +kernel
theorem zi_27_12 : zI 27 12 = some (.ireturn, []) := by decide +kernel
theorem zi_36_0 : zI 36 0 = some (.aload_n 0, []) := by decide +kernel
theorem zi_36_1 : zI 36 1 = some (.getfield 26, [2, 3, 122]) := by decide +kernel
theorem zi_36_4 : zI 36 4 = some (.iload_n 2, []) := by decide +kernel
theorem zi_36_5 : zI 36 5 = some (.invokevirtual 54, [0, 0, 1, 1, 10, 11, 12, 9, 0, 48]) := by decide +kernel
theorem zi_36_8 : zI 36 8 = some (.aload_n 0, []) := by decide +kernel
theorem zi_36_9 : zI 36 9 = some (.iload_n 1, []) := by decide +kernel
theorem zi_36_10 : zI 36 10 = some (.iload_n 2, []) := by decide +kernel
theorem zi_36_11 : zI 36 11 = some (.invokevirtual 78, [27, 0, 2, 2, 125, 126, 47, 124, 0, 123]) := by decide +kernel
theorem zi_36_14 : zI 36 14 = some (.isub, []) := by decide +kernel
theorem zi_36_15 : zI 36 15 = some (.ireturn, []) := by decide +kernel
theorem zi_37_0 : zI 37 0 = some (.aload_n 0, []) := by decide +kernel
theorem zi_37_1 : zI 37 1 = some (.getfield 32, [2, 5, 127]) := by decide +kernel
theorem zi_37_4 : zI 37 4 = some (.iload_n 1, []) := by decide +kernel
theorem zi_37_5 : zI 37 5 = some (.iload_n 2, []) := by decide +kernel
theorem zi_37_6 : zI 37 6 = some (.invokestatic 74, [9, 1, 2, 0, 46, 0, 47, 45, 0, 44]) := by decide +kernel
theorem zi_37_9 : zI 37 9 = some (.invokevirtual 54, [0, 0, 1, 1, 10, 11, 12, 9, 0, 48]) := by decide +kernel
theorem zi_37_12 : zI 37 12 = some (.ireturn, []) := by decide +kernel
theorem zi_71_0 : zI 71 0 = some (.iconst 0, []) := by decide +kernel
theorem zi_71_1 : zI 71 1 = some (.istore_n 3, []) := by decide +kernel
theorem zi_71_2 : zI 71 2 = some (.iload_n 3, []) := by decide +kernel
theorem zi_71_3 : zI 71 3 = some (.aload_n 1, []) := by decide +kernel
theorem zi_71_4 : zI 71 4 = some (.getfield 41, [0, 7, 252]) := by decide +kernel
theorem zi_71_7 : zI 71 7 = some (.if_icmp .ge 81, [88]) := by decide +kernel
theorem zi_71_10 : zI 71 10 = some (.iconst 0, []) := by decide +kernel
theorem zi_71_11 : zI 71 11 = some (.istore 4, []) := by decide +kernel
theorem zi_71_13 : zI 71 13 = some (.iconst 0, []) := by decide +kernel
theorem zi_71_14 : zI 71 14 = some (.istore 5, []) := by decide +kernel
theorem zi_71_16 : zI 71 16 = some (.iconst 0, []) := by decide +kernel
theorem zi_71_17 : zI 71 17 = some (.istore 6, []) := by decide +kernel
theorem zi_71_19 : zI 71 19 = some (.iload 6, []) := by decide +kernel
theorem zi_71_21 : zI 71 21 = some (.iload_n 3, []) := by decide +kernel
theorem zi_71_22 : zI 71 22 = some (.if_icmp .ge 40, [62]) := by decide +kernel
theorem zi_71_25 : zI 71 25 = some (.aload_n 1, []) := by decide +kernel
theorem zi_71_26 : zI 71 26 = some (.iload 6, []) := by decide +kernel
theorem zi_71_28 : zI 71 28 = some (.iload_n 3, []) := by decide +kernel
theorem zi_71_29 : zI 71 29 = some (.iload_n 2, []) := by decide +kernel
theorem zi_71_30 : zI 71 30 = some (.invokevirtual 47, [35, 0, 3, 0, 255, 256, 53, 254, 0, 253]) := by decide +kernel
theorem zi_71_33 : zI 71 33 = some (.ifCond .eq 23, [56]) := by decide +kernel
theorem zi_71_36 : zI 71 36 = some (.iinc 4 1, []) := by decide +kernel
theorem zi_71_39 : zI 71 39 = some (.iload 5, []) := by decide +kernel
theorem zi_71_41 : zI 71 41 = some (.aload_n 1, []) := by decide +kernel
theorem zi_71_42 : zI 71 42 = some (.getfield 51, [0, 5, 257]) := by decide +kernel
theorem zi_71_45 : zI 71 45 = some (.iload 6, []) := by decide +kernel
theorem zi_71_47 : zI 71 47 = some (.invokevirtual 54, [0, 0, 1, 1, 10, 11, 12, 9, 0, 48]) := by decide +kernel
theorem zi_71_50 : zI 71 50 = some (.invokestatic 58, [26, 1, 1, 0, 260, 0, 47, 259, 0, 258]) := by decide +kernel
theorem zi_71_53 : zI 71 53 = some (.ior, []) := by decide +kernel
theorem zi_71_54 : zI 71 54 = some (.istore 5, []) := by decide +kernel
theorem zi_71_56 : zI 71 56 = some (.iinc 6 1, []) := by decide +kernel
theorem zi_71_59 : zI 71 59 = some (.goto (-40), [19]) := by decide +kernel
theorem zi_71_62 : zI 71 62 = some (.aload_n 0, []) := by decide +kernel
theorem zi_71_63 : zI 71 63 = some (.getfield 14, [2, 0, 248]) := by decide +kernel
theorem zi_71_66 : zI 71 66 = some (.iload_n 3, []) := by decide +kernel
theorem zi_71_67 : zI 71 67 = some (.iload 4, []) := by decide +kernel
theorem zi_71_69 : zI 71 69 = some (.invokevirtual 61, [1, 0, 2, 1, 234, 235, 12, 233, 0, 261]) := by decide +kernel
theorem zi_71_72 : zI 71 72 = some (.aload_n 0, []) := by decide +kernel
theorem zi_71_73 : zI 71 73 = some (.getfield 20, [2, 1, 249]) := by decide +kernel
theorem zi_71_76 : zI 71 76 = some (.iload_n 3, []) := by decide +kernel
theorem zi_71_77 : zI 71 77 = some (.iload 5, []) := by decide +kernel
theorem zi_71_79 : zI 71 79 = some (.invokevirtual 61, [1, 0, 2, 1, 234, 235, 12, 233, 0, 261]) := by decide +kernel
theorem zi_71_82 : zI 71 82 = some (.iinc 3 1, []) := by decide +kernel
theorem zi_71_85 : zI 71 85 = some (.goto (-83), [2]) := by decide +kernel
theorem zi_71_88 : zI 71 88 = some (.return_, []) := by decide +kernel
theorem zi_75_0 : zI 75 0 = some (.aload_n 1, []) := by decide +kernel
theorem zi_75_1 : zI 75 1 = some (.getfield 51, [0, 5, 257]) := by decide +kernel
theorem zi_75_4 : zI 75 4 = some (.iload_n 2, []) := by decide +kernel
theorem zi_75_5 : zI 75 5 = some (.invokevirtual 54, [0, 0, 1, 1, 10, 11, 12, 9, 0, 48]) := by decide +kernel
theorem zi_75_8 : zI 75 8 = some (.istore 4, []) := by decide +kernel
theorem zi_75_10 : zI 75 10 = some (.iconst 0, []) := by decide +kernel
theorem zi_75_11 : zI 75 11 = some (.istore 5, []) := by decide +kernel
theorem zi_75_13 : zI 75 13 = some (.iload 5, []) := by decide +kernel
theorem zi_75_15 : zI 75 15 = some (.aload_n 0, []) := by decide +kernel
theorem zi_75_16 : zI 75 16 = some (.getfield 38, [2, 7, 251]) := by decide +kernel
theorem zi_75_19 : zI 75 19 = some (.iload 4, []) := by decide +kernel
theorem zi_75_21 : zI 75 21 = some (.invokevirtual 54, [0, 0, 1, 1, 10, 11, 12, 9, 0, 48]) := by decide +kernel
theorem zi_75_24 : zI 75 24 = some (.if_icmp .ge 45, [69]) := by decide +kernel
theorem zi_75_27 : zI 75 27 = some (.aload_n 0, []) := by decide +kernel
theorem zi_75_28 : zI 75 28 = some (.iload 4, []) := by decide +kernel
theorem zi_75_30 : zI 75 30 = some (.iload 5, []) := by decide +kernel
theorem zi_75_32 : zI 75 32 = some (.invokevirtual 91, [20, 0, 2, 2, 281, 282, 47, 280, 0, 279]) := by decide +kernel
theorem zi_75_35 : zI 75 35 = some (.istore 6, []) := by decide +kernel
theorem zi_75_37 : zI 75 37 = some (.aload_n 0, []) := by decide +kernel
theorem zi_75_38 : zI 75 38 = some (.getfield 20, [2, 1, 249]) := by decide +kernel
theorem zi_75_41 : zI 75 41 = some (.iload_n 2, []) := by decide +kernel
theorem zi_75_42 : zI 75 42 = some (.invokevirtual 54, [0, 0, 1, 1, 10, 11, 12, 9, 0, 48]) := by decide +kernel
theorem zi_75_45 : zI 75 45 = some (.iload 6, []) := by decide +kernel
theorem zi_75_47 : zI 75 47 = some (.invokestatic 58, [26, 1, 1, 0, 260, 0, 47, 259, 0, 258]) := by decide +kernel
theorem zi_75_50 : zI 75 50 = some (.iand, []) := by decide +kernel
theorem zi_75_51 : zI 75 51 = some (.ifCond .eq 12, [63]) := by decide +kernel
theorem zi_75_54 : zI 75 54 = some (.aload_n 1, []) := by decide +kernel
theorem zi_75_55 : zI 75 55 = some (.iload_n 2, []) := by decide +kernel
theorem zi_75_56 : zI 75 56 = some (.iload 6, []) := by decide +kernel
theorem zi_75_58 : zI 75 58 = some (.iload_n 3, []) := by decide +kernel
theorem zi_75_59 : zI 75 59 = some (.invokestatic 97, [76, 1, 4, 0, 289, 0, 47, 288, 0, 287]) := by decide +kernel
theorem zi_75_62 : zI 75 62 = some (.ireturn, []) := by decide +kernel
theorem zi_75_63 : zI 75 63 = some (.iinc 5 1, []) := by decide +kernel
theorem zi_75_66 : zI 75 66 = some (.goto (-53), [13]) := by decide +kernel
theorem zi_75_69 : zI 75 69 = some (.iconst (-1), []) := by decide +kernel
theorem zi_75_70 : zI 75 70 = some (.ireturn, []) := by decide +kernel
theorem zi_76_0 : zI 76 0 = some (.iload_n 1, []) := by decide +kernel
theorem zi_76_1 : zI 76 1 = some (.iconst 1, []) := by decide +kernel
theorem zi_76_2 : zI 76 2 = some (.isub, []) := by decide +kernel
theorem zi_76_3 : zI 76 3 = some (.istore 4, []) := by decide +kernel
theorem zi_76_5 : zI 76 5 = some (.iload 4, []) := by decide +kernel
theorem zi_76_7 : zI 76 7 = some (.ifCond .lt 36, [43]) := by decide +kernel
theorem zi_76_10 : zI 76 10 = some (.aload_n 0, []) := by decide +kernel
theorem zi_76_11 : zI 76 11 = some (.getfield 51, [0, 5, 257]) := by decide +kernel
theorem zi_76_14 : zI 76 14 = some (.iload 4, []) := by decide +kernel
theorem zi_76_16 : zI 76 16 = some (.invokevirtual 54, [0, 0, 1, 1, 10, 11, 12, 9, 0, 48]) := by decide +kernel
theorem zi_76_19 : zI 76 19 = some (.iload_n 2, []) := by decide +kernel
theorem zi_76_20 : zI 76 20 = some (.if_icmp .ne 17, [37]) := by decide +kernel
theorem zi_76_23 : zI 76 23 = some (.aload_n 0, []) := by decide +kernel
theorem zi_76_24 : zI 76 24 = some (.iload 4, []) := by decide +kernel
theorem zi_76_26 : zI 76 26 = some (.iload_n 1, []) := by decide +kernel
theorem zi_76_27 : zI 76 27 = some (.iload_n 3, []) := by decide +kernel
theorem zi_76_28 : zI 76 28 = some (.invokevirtual 47, [35, 0, 3, 0, 255, 256, 53, 254, 0, 253]) := by decide +kernel
theorem zi_76_31 : zI 76 31 = some (.ifCond .eq 6, [37]) := by decide +kernel
theorem zi_76_34 : zI 76 34 = some (.iload 4, []) := by decide +kernel
theorem zi_76_36 : zI 76 36 = some (.ireturn, []) := by decide +kernel
theorem zi_76_37 : zI 76 37 = some (.iinc 4 (-1), []) := by decide +kernel
theorem zi_76_40 : zI 76 40 = some (.goto (-35), [5]) := by decide +kernel
theorem zi_76_43 : zI 76 43 = some (.iconst (-1), []) := by decide +kernel
theorem zi_76_44 : zI 76 44 = some (.ireturn, []) := by decide +kernel
/-! scenes: what is in them, and what is asked -/
def zbit (x : Int32) : Int32 := if x < 0 then 0 else nI 1 <<< (x &&& 31)
theorem c_bitOf {H : zH} (x : Int32) : zcalls zTB 26 [.int x] H (some (.int (zbit x)), H) := by
  refine zcalls_of (Nat.le_of_ble_eq_true rfl) ?_
  show zruns zTB 26 0 [some (.int x)] [] _ _
  refine zr_iload_n (pc' := 1) zi_26_0 rfl rfl ?_
  refine zr_if (pc' := 4) zi_26_1 rfl (fun h1 => ?_) (fun h1 => ?_)
  · replace h1 := zx_ge_t h1
    refine zr_iconst (v := (nI 1)) (pc' := 9) zi_26_8 rfl rfl ?_
    refine zr_iload_n (pc' := 10) zi_26_9 rfl rfl ?_
    refine zr_ishl (pc' := 11) zi_26_10 rfl rfl ?_
    rw [zbit, if_neg (Int32.not_lt.mpr h1)]
    exact zr_ireturn zi_26_11 rfl
  · replace h1 := zx_ge_f h1
    refine zr_iconst (v := (nI 0)) (pc' := 5) zi_26_4 rfl rfl ?_
    refine zr_goto zi_26_5 ?_
    rw [zbit, if_pos (Int32.not_le.mp h1)]
    exact zr_ireturn zi_26_11 rfl
theorem c_pair {H : zH} (x y : Int32) : zcalls zTB 9 [.int x, .int y] H (some (.int (x * nI 20 + y)), H) := by
  refine zcalls_of (Nat.le_of_ble_eq_true rfl) ?_
  show zruns zTB 9 0 [some (.int x), some (.int y)] [] _ _
  refine zr_iload_n (pc' := 1) zi_9_0 rfl rfl ?_
  refine zr_bipush (v := (nI 20)) (pc' := 3) zi_9_1 rfl rfl ?_
  refine zr_imul (pc' := 4) zi_9_3 rfl rfl ?_
  refine zr_iload_n (pc' := 5) zi_9_4 rfl rfl ?_
  refine zr_iadd (pc' := 6) zi_9_5 rfl rfl ?_
  exact zr_ireturn zi_9_6 rfl
theorem c_pairN {H : zH} (t c : Nat) : zcalls zTB 9 [.int (nI t), .int (nI c)] H (some (.int (nI (t * 20 + c))), H) := by
  have h := c_pair (H := H) (nI t) (nI c)
  rw [pk_mul, nI_add] at h
  exact h
section
variable {b : Nat} {F : Nat → Nat → Int32} {g : Nat → Nat} {h : zH}
theorem c_causeOf (hb : b + 71 ≤ h.length) (t p : Nat) (ht : t * 20 + p < 400) : zcalls zTB 20 [.ref (b + 52), .int (nI t), .int (nI p)] (nput b F g h) (some (.int (F 29 (t * 20 + p))), nput b F g h) := by
  refine zcalls_of (Nat.le_of_ble_eq_true rfl) ?_
  show zruns zTB 20 0 [some (.ref (b + 52)), some (.int (nI t)), some (.int (nI p))] [] _ _
  refine zr_aload_n (pc' := 1) zi_20_0 rfl rfl ?_
  refine zr_get (pc' := 4) zi_20_1 (nput_at hb (k := 52) rfl) rfl rfl ?_
  refine zr_iload_n (pc' := 5) zi_20_4 rfl rfl ?_
  refine zr_iload_n (pc' := 6) zi_20_5 rfl rfl ?_
  refine zr_s2 (pc' := 9) zi_20_6 rfl (c_pairN _ _) rfl ?_
  refine zr_atN (pc' := 12) (by omega) zi_20_9 hb rfl rfl (by decide) rfl rfl ?_
  exact zr_ireturn zi_20_12 rfl
theorem c_hits (hb : b + 71 ≤ h.length) (t p : Nat) (ht : t * 20 + p < 400) : zcalls zTB 27 [.ref (b + 52), .int (nI t), .int (nI p)] (nput b F g h) (some (.int (F 25 (t * 20 + p))), nput b F g h) := by
  refine zcalls_of (Nat.le_of_ble_eq_true rfl) ?_
  show zruns zTB 27 0 [some (.ref (b + 52)), some (.int (nI t)), some (.int (nI p))] [] _ _
  refine zr_aload_n (pc' := 1) zi_27_0 rfl rfl ?_
  refine zr_get (pc' := 4) zi_27_1 (nput_at hb (k := 52) rfl) rfl rfl ?_
  refine zr_iload_n (pc' := 5) zi_27_4 rfl rfl ?_
  refine zr_iload_n (pc' := 6) zi_27_5 rfl rfl ?_
  refine zr_s2 (pc' := 9) zi_27_6 rfl (c_pairN _ _) rfl ?_
  refine zr_atN (pc' := 12) (by omega) zi_27_9 hb rfl rfl (by decide) rfl rfl ?_
  exact zr_ireturn zi_27_12 rfl
theorem c_score (hb : b + 71 ≤ h.length) (t p : Nat) (ht : t * 20 + p < 400) : zcalls zTB 37 [.ref (b + 52), .int (nI t), .int (nI p)] (nput b F g h) (some (.int (F 28 (t * 20 + p))), nput b F g h) := by
  refine zcalls_of (Nat.le_of_ble_eq_true rfl) ?_
  show zruns zTB 37 0 [some (.ref (b + 52)), some (.int (nI t)), some (.int (nI p))] [] _ _
  refine zr_aload_n (pc' := 1) zi_37_0 rfl rfl ?_
  refine zr_get (pc' := 4) zi_37_1 (nput_at hb (k := 52) rfl) rfl rfl ?_
  refine zr_iload_n (pc' := 5) zi_37_4 rfl rfl ?_
  refine zr_iload_n (pc' := 6) zi_37_5 rfl rfl ?_
  refine zr_s2 (pc' := 9) zi_37_6 rfl (c_pairN _ _) rfl ?_
  refine zr_atN (pc' := 12) (by omega) zi_37_9 hb rfl rfl (by decide) rfl rfl ?_
  exact zr_ireturn zi_37_12 rfl
theorem c_rest (hb : b + 71 ≤ h.length) (t p : Nat) (hp : p < 20) (ht : t * 20 + p < 400) : zcalls zTB 36 [.ref (b + 52), .int (nI t), .int (nI p)] (nput b F g h) (some (.int (F 26 p - F 25 (t * 20 + p))), nput b F g h) := by
  refine zcalls_of (Nat.le_of_ble_eq_true rfl) ?_
  show zruns zTB 36 0 [some (.ref (b + 52)), some (.int (nI t)), some (.int (nI p))] [] _ _
  refine zr_aload_n (pc' := 1) zi_36_0 rfl rfl ?_
  refine zr_get (pc' := 4) zi_36_1 (nput_at hb (k := 52) rfl) rfl rfl ?_
  refine zr_iload_n (pc' := 5) zi_36_4 rfl rfl ?_
  refine zr_atN (pc' := 8) (by omega) zi_36_5 hb rfl rfl (by decide) rfl rfl ?_
  refine zr_aload_n (pc' := 9) zi_36_8 rfl rfl ?_
  refine zr_iload_n (pc' := 10) zi_36_9 rfl rfl ?_
  refine zr_iload_n (pc' := 11) zi_36_10 rfl rfl ?_
  refine zr_v2 (pc' := 14) zi_36_11 (nput_at hb (k := 52) rfl) rfl (c_hits hb _ _ ht) rfl ?_
  refine zr_isub (pc' := 15) zi_36_14 (by first | exact pk_sub (by omega) | rfl) rfl ?_
  exact zr_ireturn zi_36_15 rfl
theorem l_lastInScene (hb : b + 71 ≤ h.length) (l : Nat) (t back : Int32) (hl : l < 70) (hn : g 1 ≤ 70) : ∀ j, j ≤ l → zev 76 5 [some (.ref (b + 1)), some (.int (nI l)), some (.int t), some (.int back), some (.int (nI j - 1))] [] (nput b F g h) (zQi (nput b F g h) fun r => r = -1 ∨ ∃ k, k < l ∧ r = nI k ∧ k < g 1 ∧ F 5 k = t ∧ F 0 l - back ≤ F 0 k)
  | 0, hj => by
    refine zev_of (fun _ kk => zr_iload (pc' := 7) zi_76_5 rfl rfl kk) ?_
    refine zv_if (pc' := 10) zi_76_7 rfl (fun h7 => ?_) (fun h7 => ?_)
    · replace h7 := zx_lt_t h7
      refine zev_of (fun _ kk => zr_iconst (v := (-1)) (pc' := 44) zi_76_43 rfl rfl kk) ?_
      refine zev_ret (zr_ireturn zi_76_44 rfl) ?_
      exact ⟨_, .inl rfl, rfl⟩
    · replace h7 := zx_lt_f h7
      exact absurd (by decide : nI 0 - 1 < 0) h7
  | j + 1, hj => by
    rw [nI_pred]
    refine zev_of (fun _ kk => zr_iload (pc' := 7) zi_76_5 rfl rfl kk) ?_
    refine zv_if (pc' := 10) zi_76_7 rfl (fun h7 => ?_) (fun h7 => ?_)
    · replace h7 := zx_lt_t h7
      exact absurd h7 (nI_pos (by omega))
    · replace h7 := zx_lt_f h7
      refine zev_of (fun _ kk => zr_aload_n (pc' := 11) zi_76_10 rfl rfl kk) ?_
      refine zev_of (fun _ kk => zr_get (pc' := 14) zi_76_11 (nput_at hb (k := 1) rfl) rfl rfl kk) ?_
      refine zev_of (fun _ kk => zr_iload (pc' := 16) zi_76_14 rfl rfl kk) ?_
      refine zev_of (fun _ kk => zr_atN (pc' := 19) (by omega) zi_76_16 hb rfl rfl (by decide) rfl rfl kk) ?_
      refine zev_of (fun _ kk => zr_iload_n (pc' := 20) zi_76_19 rfl rfl kk) ?_
      refine zv_icmp (pc' := 23) zi_76_20 rfl (fun h20 => ?_) (fun h20 => ?_)
      · replace h20 := zc_ne_t h20
        refine zev_of (fun _ kk => zr_iinc (pc' := 40) zi_76_37 rfl (n_dec _) rfl rfl kk) ?_
        dsimp only [zst1, zst2, zkill, List.set, List.getElem?_cons_succ, List.getElem?_cons_zero]
        refine zev_of (fun _ kk => zr_goto zi_76_40 kk) ?_
        exact l_lastInScene hb l t back hl hn j (by omega)
      · replace h20 := zc_ne_f h20
        refine zev_of (fun _ kk => zr_aload_n (pc' := 24) zi_76_23 rfl rfl kk) ?_
        refine zev_of (fun _ kk => zr_iload (pc' := 26) zi_76_24 rfl rfl kk) ?_
        refine zev_of (fun _ kk => zr_iload_n (pc' := 27) zi_76_26 rfl rfl kk) ?_
        refine zev_of (fun _ kk => zr_iload_n (pc' := 28) zi_76_27 rfl rfl kk) ?_
        obtain ⟨r, ⟨hr, hin⟩, hc⟩ := c_isInScene hb (F := F) (g := g) j l back (by omega) hl hn
        refine zev_of (fun _ kk => zr_v3 (pc' := 31) zi_76_28 (nput_at hb (k := 1) rfl) rfl hc rfl kk) ?_
        refine zv_if (pc' := 34) zi_76_31 rfl (fun h31 => ?_) (fun h31 => ?_)
        · replace h31 := zc_eq_t h31
          refine zev_of (fun _ kk => zr_iinc (pc' := 40) zi_76_37 rfl (n_dec _) rfl rfl kk) ?_
          dsimp only [zst1, zst2, zkill, List.set, List.getElem?_cons_succ, List.getElem?_cons_zero]
          refine zev_of (fun _ kk => zr_goto zi_76_40 kk) ?_
          exact l_lastInScene hb l t back hl hn j (by omega)
        · replace h31 := zc_eq_f h31
          refine zev_of (fun _ kk => zr_iload (pc' := 36) zi_76_34 rfl rfl kk) ?_
          refine zev_ret (zr_ireturn zi_76_36 rfl) ?_
          obtain ⟨k1, k2, k3⟩ := hin h31
          exact ⟨_, .inr ⟨j, k1, rfl, k2, h20, k3⟩, rfl⟩
theorem c_lastInScene (hb : b + 71 ≤ h.length) (l : Nat) (t back : Int32) (hl : l < 70) (hn : g 1 ≤ 70) : ∃ r, (r = -1 ∨ ∃ k, k < l ∧ r = nI k ∧ k < g 1 ∧ F 5 k = t ∧ F 0 l - back ≤ F 0 k) ∧ zcalls zTB 76 [.ref (b + 1), .int (nI l), .int t, .int back] (nput b F g h) (some (.int r), nput b F g h) := by
  refine zQi_out (zev_calls (Nat.le_of_ble_eq_true rfl) ?_)
  show zev 76 0 [some (.ref (b + 1)), some (.int (nI l)), some (.int t), some (.int back), none] [] _ _
  refine zev_of (fun _ kk => zr_iload_n (pc' := 1) zi_76_0 rfl rfl kk) ?_
  refine zev_of (fun _ kk => zr_iconst (v := (nI 1)) (pc' := 2) zi_76_1 rfl rfl kk) ?_
  refine zev_of (fun _ kk => zr_isub (pc' := 3) zi_76_2 rfl rfl kk) ?_
  refine zev_of (fun _ kk => zr_istore (pc' := 5) zi_76_3 (Nat.le_of_ble_eq_true rfl) rfl rfl kk) ?_
  dsimp only [zst1, zst2, zkill, List.set, List.getElem?_cons_succ, List.getElem?_cons_zero]
  exact l_lastInScene hb l t back hl hn l (Nat.le_refl _)
/-- the line behind a line -/
def zbeh (F : Nat → Nat → Int32) (g : Nat → Nat) (l : Nat) (back r : Int32) : Prop := r = -1 ∨ ∃ j t N, j < l ∧ r = nI j ∧ j < g 1 ∧ F 5 l = nI t ∧ t < 20 ∧ F 5 j ≠ nI t ∧ F 0 l - back ≤ F 0 j ∧ 0 < N ∧ N ≤ 20 ∧ F 30 t = nI N
theorem l_lineBehind (hb : b + 71 ≤ h.length) (l t N : Nat) (back : Int32) (hl : l < 70) (hn : g 1 ≤ 70) (ht : t < 20) (hlt : F 5 l = nI t) (hN : N ≤ 20) (hc : F 30 t = nI N) (hr : ∀ p, p < N → ∃ c, c < 20 ∧ c ≠ t ∧ F 29 (t * 20 + p) = nI c) (p : Nat) (hp : p ≤ N) (X : Option Value) : zev 75 13 [some (.ref (b + 52)), some (.ref (b + 1)), some (.int (nI l)), some (.int back), some (.int (nI t)), some (.int (nI p)), X] [] (nput b F g h) (zQi (nput b F g h) (zbeh F g l back)) := by
  refine zev_of (fun _ kk => zr_iload (pc' := 15) zi_75_13 rfl rfl kk) ?_
  refine zev_of (fun _ kk => zr_aload_n (pc' := 16) zi_75_15 rfl rfl kk) ?_
  refine zev_of (fun _ kk => zr_get (pc' := 19) zi_75_16 (nput_at hb (k := 52) rfl) rfl rfl kk) ?_
  refine zev_of (fun _ kk => zr_iload (pc' := 21) zi_75_19 rfl rfl kk) ?_
  refine zev_of (fun _ kk => zr_atN (pc' := 24) (by omega) zi_75_21 hb rfl rfl (by decide) rfl rfl kk) ?_
  rw [hc]
  refine zv_icmp (pc' := 27) zi_75_24 rfl (fun h24 => ?_) (fun h24 => ?_)
  · replace h24 := zc_ge_t (by omega) (by omega) h24
    refine zev_of (fun _ kk => zr_iconst (v := (-1)) (pc' := 70) zi_75_69 rfl rfl kk) ?_
    refine zev_ret (zr_ireturn zi_75_70 rfl) ?_
    exact ⟨_, .inl rfl, rfl⟩
  · replace h24 := zc_ge_f (by omega) (by omega) h24
    obtain ⟨c, hc20, hct, hce⟩ := hr p (by omega)
    refine zev_of (fun _ kk => zr_aload_n (pc' := 28) zi_75_27 rfl rfl kk) ?_
    refine zev_of (fun _ kk => zr_iload (pc' := 30) zi_75_28 rfl rfl kk) ?_
    refine zev_of (fun _ kk => zr_iload (pc' := 32) zi_75_30 rfl rfl kk) ?_
    refine zev_of (fun _ kk => zr_v2 (pc' := 35) zi_75_32 (nput_at hb (k := 52) rfl) rfl (c_causeOf hb _ _ (by omega)) rfl kk) ?_
    refine zev_of (fun _ kk => zr_istore (pc' := 37) zi_75_35 (Nat.le_of_ble_eq_true rfl) rfl rfl kk) ?_
    dsimp only [zst1, zst2, zkill, List.set, List.getElem?_cons_succ, List.getElem?_cons_zero]
    refine zev_of (fun _ kk => zr_aload_n (pc' := 38) zi_75_37 rfl rfl kk) ?_
    refine zev_of (fun _ kk => zr_get (pc' := 41) zi_75_38 (nput_at hb (k := 52) rfl) rfl rfl kk) ?_
    refine zev_of (fun _ kk => zr_iload_n (pc' := 42) zi_75_41 rfl rfl kk) ?_
    refine zev_of (fun _ kk => zr_atN (pc' := 45) (by omega) zi_75_42 hb rfl rfl (by decide) rfl rfl kk) ?_
    refine zev_of (fun _ kk => zr_iload (pc' := 47) zi_75_45 rfl rfl kk) ?_
    refine zev_of (fun _ kk => zr_s1 (pc' := 50) zi_75_47 rfl (c_bitOf _) rfl kk) ?_
    refine zev_of (fun _ kk => zr_iand (pc' := 51) zi_75_50 rfl rfl kk) ?_
    refine zv_if (pc' := 54) zi_75_51 rfl (fun h51 => ?_) (fun h51 => ?_)
    · replace h51 := zc_eq_t h51
      refine zev_of (fun _ kk => zr_iinc (pc' := 66) zi_75_63 rfl (by first | exact n_inc _ | rfl) rfl rfl kk) ?_
      dsimp only [zst1, zst2, zkill, List.set, List.getElem?_cons_succ, List.getElem?_cons_zero]
      refine zev_of (fun _ kk => zr_goto zi_75_66 kk) ?_
      exact l_lineBehind hb l t N back hl hn ht hlt hN hc hr (p + 1) (by omega) _
    · replace h51 := zc_eq_f h51
      refine zev_of (fun _ kk => zr_aload_n (pc' := 55) zi_75_54 rfl rfl kk) ?_
      refine zev_of (fun _ kk => zr_iload_n (pc' := 56) zi_75_55 rfl rfl kk) ?_
      refine zev_of (fun _ kk => zr_iload (pc' := 58) zi_75_56 rfl rfl kk) ?_
      refine zev_of (fun _ kk => zr_iload_n (pc' := 59) zi_75_58 rfl rfl kk) ?_
      obtain ⟨r, hr2, hcl⟩ := c_lastInScene hb (F := F) (g := g) l (F 29 (t * 20 + p)) back hl hn
      refine zev_of (fun _ kk => zr_s4 (pc' := 62) zi_75_59 rfl hcl rfl kk) ?_
      refine zev_ret (zr_ireturn zi_75_62 rfl) ?_
      refine ⟨_, ?_, rfl⟩
      rcases hr2 with e | ⟨k, k1, k2, k3, k4, k5⟩
      · exact .inl e
      · refine .inr ⟨k, t, N, k1, k2, k3, hlt, ht, ?_, k5, by omega, hN, hc⟩
        rw [k4, hce]
        exact fun e => hct ((nI_eq (by omega) (by omega)).mp e)
termination_by N - p
theorem c_lineBehind (hb : b + 71 ≤ h.length) (l : Nat) (back : Int32) (hl : l < 70) (hn : g 1 ≤ 70) (ho : F 5 l = -1 ∨ ∃ t N, t < 20 ∧ F 5 l = nI t ∧ N ≤ 20 ∧ F 30 t = nI N ∧ ∀ p, p < N → ∃ c, c < 20 ∧ c ≠ t ∧ F 29 (t * 20 + p) = nI c) : ∃ r, zbeh F g l back r ∧ zcalls zTB 75 [.ref (b + 52), .ref (b + 1), .int (nI l), .int back] (nput b F g h) (some (.int r), nput b F g h) := by
  refine zQi_out (zev_calls (Nat.le_of_ble_eq_true rfl) ?_)
  show zev 75 0 [some (.ref (b + 52)), some (.ref (b + 1)), some (.int (nI l)), some (.int back), none, none, none] [] _ _
  refine zev_of (fun _ kk => zr_aload_n (pc' := 1) zi_75_0 rfl rfl kk) ?_
  refine zev_of (fun _ kk => zr_get (pc' := 4) zi_75_1 (nput_at hb (k := 1) rfl) rfl rfl kk) ?_
  refine zev_of (fun _ kk => zr_iload_n (pc' := 5) zi_75_4 rfl rfl kk) ?_
  refine zev_of (fun _ kk => zr_atN (pc' := 8) (by omega) zi_75_5 hb rfl rfl (by decide) rfl rfl kk) ?_
  refine zev_of (fun _ kk => zr_istore (pc' := 10) zi_75_8 (Nat.le_of_ble_eq_true rfl) rfl rfl kk) ?_
  dsimp only [zst1, zst2, zkill, List.set, List.getElem?_cons_succ, List.getElem?_cons_zero]
  refine zev_of (fun _ kk => zr_iconst (v := (nI 0)) (pc' := 11) zi_75_10 rfl rfl kk) ?_
  refine zev_of (fun _ kk => zr_istore (pc' := 13) zi_75_11 (Nat.le_of_ble_eq_true rfl) rfl rfl kk) ?_
  dsimp only [zst1, zst2, zkill, List.set, List.getElem?_cons_succ, List.getElem?_cons_zero]
  rcases ho with e | ⟨t, N, h1, h2, h3, h4, h5⟩
  · rw [e]
    refine zev_of (fun _ kk => zr_iload (pc' := 15) zi_75_13 rfl rfl kk) ?_
    refine zev_of (fun _ kk => zr_aload_n (pc' := 16) zi_75_15 rfl rfl kk) ?_
    refine zev_of (fun _ kk => zr_get (pc' := 19) zi_75_16 (nput_at hb (k := 52) rfl) rfl rfl kk) ?_
    refine zev_of (fun _ kk => zr_iload (pc' := 21) zi_75_19 rfl rfl kk) ?_
    refine zev_of (fun _ kk => zr_at (pc' := 24) zi_75_21 hb rfl rfl (by decide) rfl rfl kk) ?_
    rw [rat_neg]
    refine zv_icmp (pc' := 27) zi_75_24 rfl (fun h24 => ?_) (fun h24 => ?_)
    · replace h24 := zx_ge_t h24
      refine zev_of (fun _ kk => zr_iconst (v := (-1)) (pc' := 70) zi_75_69 rfl rfl kk) ?_
      refine zev_ret (zr_ireturn zi_75_70 rfl) ?_
      exact ⟨_, .inl rfl, rfl⟩
    · replace h24 := zx_ge_f h24
      exact absurd h24 (by decide)
  · rw [h2]
    exact l_lineBehind hb l t N back hl hn h1 h2 h3 h4 h5 0 (Nat.zero_le _) none
end
section
variable {b : Nat} {h : zH}
theorem l_lookIn (hb : b + 71 ≤ h.length) {F : Nat → Nat → Int32} {g : Nat → Nat} {Q : zR → Prop} (back : Int32) (hn : g 0 ≤ 70) (hm : g 1 ≤ 70) (i : Nat) (hi : i < g 0) (k : ∀ c (M : Int32) X, c ≤ i → zev 71 62 [some (.ref (b + 52)), some (.ref (b + 1)), some (.int back), some (.int (nI i)), some (.int (nI c)), some (.int M), X] [] (nput b F g h) Q) (j c : Nat) (M : Int32) (hj : j ≤ i) (hc : c ≤ j) : zev 71 19 [some (.ref (b + 52)), some (.ref (b + 1)), some (.int back), some (.int (nI i)), some (.int (nI c)), some (.int M), some (.int (nI j))] [] (nput b F g h) Q := by
  refine zev_of (fun _ kk => zr_iload (pc' := 21) zi_71_19 rfl rfl kk) ?_
  refine zev_of (fun _ kk => zr_iload_n (pc' := 22) zi_71_21 rfl rfl kk) ?_
  refine zv_icmp (pc' := 25) zi_71_22 rfl (fun h22 => ?_) (fun h22 => ?_)
  · replace h22 := zc_ge_t (by omega) (by omega) h22
    exact k c M _ (by omega)
  · replace h22 := zc_ge_f (by omega) (by omega) h22
    refine zev_of (fun _ kk => zr_aload_n (pc' := 26) zi_71_25 rfl rfl kk) ?_
    refine zev_of (fun _ kk => zr_iload (pc' := 28) zi_71_26 rfl rfl kk) ?_
    refine zev_of (fun _ kk => zr_iload_n (pc' := 29) zi_71_28 rfl rfl kk) ?_
    refine zev_of (fun _ kk => zr_iload_n (pc' := 30) zi_71_29 rfl rfl kk) ?_
    obtain ⟨r, ⟨hr, hin⟩, hcl⟩ := c_isInScene hb (F := F) (g := g) j i back (by omega) (by omega) hm
    refine zev_of (fun _ kk => zr_v3 (pc' := 33) zi_71_30 (nput_at hb (k := 1) rfl) rfl hcl rfl kk) ?_
    refine zv_if (pc' := 36) zi_71_33 rfl (fun h33 => ?_) (fun h33 => ?_)
    · replace h33 := zc_eq_t h33
      refine zev_of (fun _ kk => zr_iinc (pc' := 59) zi_71_56 rfl (by first | exact n_inc _ | rfl) rfl rfl kk) ?_
      dsimp only [zst1, zst2, zkill, List.set, List.getElem?_cons_succ, List.getElem?_cons_zero]
      refine zev_of (fun _ kk => zr_goto zi_71_59 kk) ?_
      exact l_lookIn hb back hn hm i hi k (j + 1) c M (by omega) (by omega)
    · replace h33 := zc_eq_f h33
      refine zev_of (fun _ kk => zr_iinc (pc' := 39) zi_71_36 rfl (by first | exact n_inc _ | rfl) rfl rfl kk) ?_
      dsimp only [zst1, zst2, zkill, List.set, List.getElem?_cons_succ, List.getElem?_cons_zero]
      refine zev_of (fun _ kk => zr_iload (pc' := 41) zi_71_39 rfl rfl kk) ?_
      refine zev_of (fun _ kk => zr_aload_n (pc' := 42) zi_71_41 rfl rfl kk) ?_
      refine zev_of (fun _ kk => zr_get (pc' := 45) zi_71_42 (nput_at hb (k := 1) rfl) rfl rfl kk) ?_
      refine zev_of (fun _ kk => zr_iload (pc' := 47) zi_71_45 rfl rfl kk) ?_
      refine zev_of (fun _ kk => zr_atN (pc' := 50) (by omega) zi_71_47 hb rfl rfl (by decide) rfl rfl kk) ?_
      refine zev_of (fun _ kk => zr_s1 (pc' := 53) zi_71_50 rfl (c_bitOf _) rfl kk) ?_
      refine zev_of (fun _ kk => zr_ior (pc' := 54) zi_71_53 rfl rfl kk) ?_
      refine zev_of (fun _ kk => zr_istore (pc' := 56) zi_71_54 (Nat.le_of_ble_eq_true rfl) rfl rfl kk) ?_
      dsimp only [zst1, zst2, zkill, List.set, List.getElem?_cons_succ, List.getElem?_cons_zero]
      refine zev_of (fun _ kk => zr_iinc (pc' := 59) zi_71_56 rfl (by first | exact n_inc _ | rfl) rfl rfl kk) ?_
      dsimp only [zst1, zst2, zkill, List.set, List.getElem?_cons_succ, List.getElem?_cons_zero]
      refine zev_of (fun _ kk => zr_goto zi_71_59 kk) ?_
      exact l_lookIn hb back hn hm i hi k (j + 1) (c + 1) _ (by omega) (by omega)
termination_by i - j
def zonL (F F' : Nat → Nat → Int32) : Prop := ∀ r, r ≠ 23 → r ≠ 24 → F' r = F r
theorem l_look (hb : b + 71 ≤ h.length) (F : Nat → Nat → Int32) (g : Nat → Nat) (back : Int32) (hn : g 0 ≤ 70) (hm : g 1 ≤ 70) (i : Nat) (hi : i ≤ g 0) (hz : ∀ l, l < i → ∃ c, c ≤ l ∧ F 23 l = nI c) (X Y Z : Option Value) : zev 71 2 [some (.ref (b + 52)), some (.ref (b + 1)), some (.int back), some (.int (nI i)), X, Y, Z] [] (nput b F g h) (zQn b h fun F' g' => (zonL F F' ∧ ∀ l, l < g 0 → ∃ c, c ≤ l ∧ F' 23 l = nI c) ∧ g' = g) := by
  refine zev_of (fun _ kk => zr_iload_n (pc' := 3) zi_71_2 rfl rfl kk) ?_
  refine zev_of (fun _ kk => zr_aload_n (pc' := 4) zi_71_3 rfl rfl kk) ?_
  refine zev_of (fun _ kk => zr_get (pc' := 7) zi_71_4 (nput_at hb (k := 1) rfl) rfl rfl kk) ?_
  refine zv_icmp (pc' := 10) zi_71_7 rfl (fun h7 => ?_) (fun h7 => ?_)
  · replace h7 := zc_ge_t (by omega) (by omega) h7
    refine zev_ret (zr_return zi_71_88 rfl) ?_
    have e : i = g 0 := by omega
    exact ⟨_, _, ⟨⟨fun _ _ _ => rfl, e ▸ hz⟩, rfl⟩, rfl⟩
  · replace h7 := zc_ge_f (by omega) (by omega) h7
    refine zev_of (fun _ kk => zr_iconst (v := (nI 0)) (pc' := 11) zi_71_10 rfl rfl kk) ?_
    refine zev_of (fun _ kk => zr_istore (pc' := 13) zi_71_11 (Nat.le_of_ble_eq_true rfl) rfl rfl kk) ?_
    dsimp only [zst1, zst2, zkill, List.set, List.getElem?_cons_succ, List.getElem?_cons_zero]
    refine zev_of (fun _ kk => zr_iconst (v := (nI 0)) (pc' := 14) zi_71_13 rfl rfl kk) ?_
    refine zev_of (fun _ kk => zr_istore (pc' := 16) zi_71_14 (Nat.le_of_ble_eq_true rfl) rfl rfl kk) ?_
    dsimp only [zst1, zst2, zkill, List.set, List.getElem?_cons_succ, List.getElem?_cons_zero]
    refine zev_of (fun _ kk => zr_iconst (v := (nI 0)) (pc' := 17) zi_71_16 rfl rfl kk) ?_
    refine zev_of (fun _ kk => zr_istore (pc' := 19) zi_71_17 (Nat.le_of_ble_eq_true rfl) rfl rfl kk) ?_
    dsimp only [zst1, zst2, zkill, List.set, List.getElem?_cons_succ, List.getElem?_cons_zero]
    refine l_lookIn hb back hn hm i (by omega) (fun c M X hc => ?_) 0 0 _ (Nat.zero_le _) (Nat.zero_le _)
    refine zev_of (fun _ kk => zr_aload_n (pc' := 63) zi_71_62 rfl rfl kk) ?_
    refine zev_of (fun _ kk => zr_get (pc' := 66) zi_71_63 (nput_at hb (k := 52) rfl) rfl rfl kk) ?_
    refine zev_of (fun _ kk => zr_iload_n (pc' := 67) zi_71_66 rfl rfl kk) ?_
    refine zev_of (fun _ kk => zr_iload (pc' := 69) zi_71_67 rfl rfl kk) ?_
    refine zev_of (fun _ kk => zr_rputN (pc' := 72) (rr := 23) (by omega) zi_71_69 hb rfl rfl (fun _ => rfl) (by decide) (by decide) rfl rfl kk) ?_
    refine zev_of (fun _ kk => zr_aload_n (pc' := 73) zi_71_72 rfl rfl kk) ?_
    refine zev_of (fun _ kk => zr_get (pc' := 76) zi_71_73 (nput_at hb (k := 52) rfl) rfl rfl kk) ?_
    refine zev_of (fun _ kk => zr_iload_n (pc' := 77) zi_71_76 rfl rfl kk) ?_
    refine zev_of (fun _ kk => zr_iload (pc' := 79) zi_71_77 rfl rfl kk) ?_
    refine zev_of (fun _ kk => zr_rputN (pc' := 82) (rr := 24) (by omega) zi_71_79 hb rfl rfl (fun _ => rfl) (by decide) (by decide) rfl rfl kk) ?_
    refine zev_of (fun _ kk => zr_iinc (pc' := 85) zi_71_82 rfl (by first | exact n_inc _ | rfl) rfl rfl kk) ?_
    dsimp only [zst1, zst2, zkill, List.set, List.getElem?_cons_succ, List.getElem?_cons_zero]
    refine zev_of (fun _ kk => zr_goto zi_71_85 kk) ?_
    refine zev_mono (l_look hb (updR (updR F 23 (upd (F 23) i (nI c))) 24 (upd (F 24) i M)) g back hn hm (i + 1) (by omega) (fun l hl => ?_) _ _ _) ?_
    · show ∃ d, d ≤ l ∧ upd (F 23) i (nI c) l = nI d
      rcases Nat.lt_or_ge l i with w | w
      · rw [pk_un (by omega)]
        exact hz l w
      · rw [show l = i by omega, pk_us]
        exact ⟨c, hc, rfl⟩
    · rintro q ⟨F', g', ⟨⟨h1, h2⟩, h3⟩, rfl⟩
      exact ⟨F', g', ⟨⟨fun r h4 h5 => (h1 r h4 h5).trans ((updR_ne h5).trans (updR_ne h4)), h2⟩, h3⟩, rfl⟩
termination_by g 0 - i
theorem c_look (hb : b + 71 ≤ h.length) (F : Nat → Nat → Int32) (g : Nat → Nat) (back : Int32) (hn : g 0 ≤ 70) (hm : g 1 ≤ 70) : ∃ F' g', ((zonL F F' ∧ ∀ l, l < g 0 → ∃ c, c ≤ l ∧ F' 23 l = nI c) ∧ g' = g) ∧ zcalls zTB 71 [.ref (b + 52), .ref (b + 1), .int back] (nput b F g h) (none, nput b F' g' h) := by
  refine zQn_out (zev_calls (Nat.le_of_ble_eq_true rfl) ?_)
  show zev 71 0 [some (.ref (b + 52)), some (.ref (b + 1)), some (.int back), none, none, none, none] [] _ _
  refine zev_of (fun _ kk => zr_iconst (v := (nI 0)) (pc' := 1) zi_71_0 rfl rfl kk) ?_
  refine zev_of (fun _ kk => zr_istore_n (pc' := 2) zi_71_1 (Nat.le_of_ble_eq_true rfl) rfl rfl kk) ?_
  dsimp only [zst1, zst2, zkill, List.set, List.getElem?_cons_succ, List.getElem?_cons_zero]
  exact l_look hb F g back hn hm 0 (Nat.zero_le _) (fun l hl => absurd hl (Nat.not_lt_zero _)) none none none
end
end
section
theorem zi_72_0 : zI 72 0 = some (.aload_n 0, []) := by decide +kernel
theorem zi_72_1 : zI 72 1 = some (.getfield 23, [2, 2, 97]) := by decide +kernel
theorem zi_72_4 : zI 72 4 = some (.invokevirtual 65, [15, 0, 0, 1, 264, 265, 12, 263, 0, 262]) := by decide +kernel
theorem zi_72_7 : zI 72 7 = some (.aload_n 0, []) := by decide +kernel
theorem zi_72_8 : zI 72 8 = some (.getfield 26, [2, 3, 122]) := by decide +kernel
theorem zi_72_11 : zI 72 11 = some (.invokevirtual 65, [15, 0, 0, 1, 264, 265, 12, 263, 0, 262]) := by decide +kernel
theorem zi_72_14 : zI 72 14 = some (.aload_n 0, []) := by decide +kernel
theorem zi_72_15 : zI 72 15 = some (.getfield 29, [2, 4, 250]) := by decide +kernel
theorem zi_72_18 : zI 72 18 = some (.invokevirtual 65, [15, 0, 0, 1, 264, 265, 12, 263, 0, 262]) := by decide +kernel
theorem zi_72_21 : zI 72 21 = some (.iconst 0, []) := by decide +kernel
theorem zi_72_22 : zI 72 22 = some (.istore_n 3, []) := by decide +kernel
theorem zi_72_23 : zI 72 23 = some (.iload_n 3, []) := by decide +kernel
theorem zi_72_24 : zI 72 24 = some (.aload_n 1, []) := by decide +kernel
theorem zi_72_25 : zI 72 25 = some (.getfield 68, [0, 8, 266]) := by decide +kernel
theorem zi_72_28 : zI 72 28 = some (.if_icmp .ge 83, [111]) := by decide +kernel
theorem zi_72_31 : zI 72 31 = some (.aload_n 1, []) := by decide +kernel
theorem zi_72_32 : zI 72 32 = some (.getfield 51, [0, 5, 257]) := by decide +kernel
theorem zi_72_35 : zI 72 35 = some (.iload_n 3, []) := by decide +kernel
theorem zi_72_36 : zI 72 36 = some (.invokevirtual 54, [0, 0, 1, 1, 10, 11, 12, 9, 0, 48]) := by decide +kernel
theorem zi_72_39 : zI 72 39 = some (.istore 4, []) := by decide +kernel
theorem zi_72_41 : zI 72 41 = some (.aload_n 0, []) := by decide +kernel
theorem zi_72_42 : zI 72 42 = some (.getfield 29, [2, 4, 250]) := by decide +kernel
theorem zi_72_45 : zI 72 45 = some (.iload 4, []) := by decide +kernel
theorem zi_72_47 : zI 72 47 = some (.invokevirtual 71, [7, 0, 1, 1, 269, 270, 12, 268, 0, 267]) := by decide +kernel
theorem zi_72_50 : zI 72 50 = some (.iconst 0, []) := by decide +kernel
theorem zi_72_51 : zI 72 51 = some (.istore 5, []) := by decide +kernel
theorem zi_72_53 : zI 72 53 = some (.iload 5, []) := by decide +kernel
theorem zi_72_55 : zI 72 55 = some (.iload_n 2, []) := by decide +kernel
theorem zi_72_56 : zI 72 56 = some (.if_icmp .ge 49, [105]) := by decide +kernel
theorem zi_72_59 : zI 72 59 = some (.aload_n 0, []) := by decide +kernel
theorem zi_72_60 : zI 72 60 = some (.getfield 20, [2, 1, 249]) := by decide +kernel
theorem zi_72_63 : zI 72 63 = some (.iload_n 3, []) := by decide +kernel
theorem zi_72_64 : zI 72 64 = some (.invokevirtual 54, [0, 0, 1, 1, 10, 11, 12, 9, 0, 48]) := by decide +kernel
theorem zi_72_67 : zI 72 67 = some (.iload 5, []) := by decide +kernel
theorem zi_72_69 : zI 72 69 = some (.invokestatic 58, [26, 1, 1, 0, 260, 0, 47, 259, 0, 258]) := by decide +kernel
theorem zi_72_72 : zI 72 72 = some (.iand, []) := by decide +kernel
theorem zi_72_73 : zI 72 73 = some (.ifCond .eq 26, [99]) := by decide +kernel
theorem zi_72_76 : zI 72 76 = some (.aload_n 0, []) := by decide +kernel
theorem zi_72_77 : zI 72 77 = some (.getfield 26, [2, 3, 122]) := by decide +kernel
theorem zi_72_80 : zI 72 80 = some (.iload 5, []) := by decide +kernel
theorem zi_72_82 : zI 72 82 = some (.invokevirtual 71, [7, 0, 1, 1, 269, 270, 12, 268, 0, 267]) := by decide +kernel
theorem zi_72_85 : zI 72 85 = some (.aload_n 0, []) := by decide +kernel
theorem zi_72_86 : zI 72 86 = some (.getfield 23, [2, 2, 97]) := by decide +kernel
theorem zi_72_89 : zI 72 89 = some (.iload 4, []) := by decide +kernel
theorem zi_72_91 : zI 72 91 = some (.iload 5, []) := by decide +kernel
theorem zi_72_93 : zI 72 93 = some (.invokestatic 74, [9, 1, 2, 0, 46, 0, 47, 45, 0, 44]) := by decide +kernel
theorem zi_72_96 : zI 72 96 = some (.invokevirtual 71, [7, 0, 1, 1, 269, 270, 12, 268, 0, 267]) := by decide +kernel
theorem zi_72_99 : zI 72 99 = some (.iinc 5 1, []) := by decide +kernel
theorem zi_72_102 : zI 72 102 = some (.goto (-49), [53]) := by decide +kernel
theorem zi_72_105 : zI 72 105 = some (.iinc 3 1, []) := by decide +kernel
theorem zi_72_108 : zI 72 108 = some (.goto (-85), [23]) := by decide +kernel
theorem zi_72_111 : zI 72 111 = some (.return_, []) := by decide +kernel
/-! scenes: tally -/
def zB (M : Nat → Int32) (c : Nat) : Nat → Bool := fun j => decide (M j &&& zbit (nI c) ≠ 0)
def zD (M K : Nat → Int32) (e c : Nat) : Nat → Bool := fun j => decide (K j = nI e ∧ M j &&& zbit (nI c) ≠ 0)
def zTm (K : Nat → Int32) (e : Nat) : Nat → Bool := fun j => decide (K j = nI e)
/-- line i is counted for the templates below c -/
def zta (F : Nat → Nat → Int32) (M K : Nat → Int32) (T i c : Nat) : Prop := (∀ d, d < T → F 26 d = nI (zcnt (zB M d) (if d < c then i + 1 else i))) ∧ ∀ e d, e < 20 → d < T → F 25 (e * 20 + d) = nI (zcnt (zD M K e d) (if d < c then i + 1 else i))
theorem zta_skip {F : Nat → Nat → Int32} {M K : Nat → Int32} {T i c : Nat} (q : zta F M K T i c) (h : M i &&& zbit (nI c) = 0) : zta F M K T i (c + 1) := by
  refine ⟨fun d hd => ?_, fun e d he hd => ?_⟩
  · rw [q.1 d hd]
    by_cases w : d = c
    · subst w
      rw [if_neg (by omega), if_pos (by omega), zcnt_f (by simp only [zB, decide_eq_false_iff_not]; exact fun k => k h)]
    · by_cases v : d < c
      · rw [if_pos v, if_pos (by omega)]
      · rw [if_neg v, if_neg (by omega)]
  · rw [q.2 e d he hd]
    by_cases w : d = c
    · subst w
      rw [if_neg (by omega), if_pos (by omega), zcnt_f (by simp only [zD, decide_eq_false_iff_not]; exact fun k => k.2 h)]
    · by_cases v : d < c
      · rw [if_pos v, if_pos (by omega)]
      · rw [if_neg v, if_neg (by omega)]
theorem z_pneg : ∀ c, c < 20 → (-1 : Int32) * nI 20 + nI c < 0 := by decide +kernel
theorem zta_bit {F F' : Nat → Nat → Int32} {M K : Nat → Int32} {T i c : Nat} (q : zta F M K T i c) (hT : T ≤ 20) (hc : c < T) (h : M i &&& zbit (nI c) ≠ 0) (hK : K i = -1 ∨ ∃ t, t < 20 ∧ K i = nI t) (e1 : F' 26 = rput 20 (F 26) (nI c) (F 26 (nI c).toNatClampNeg + 1)) (e2 : F' 25 = rput 400 (F 25) (K i * nI 20 + nI c) (F 25 (K i * nI 20 + nI c).toNatClampNeg + 1)) : zta F' M K T i (c + 1) := by
  refine ⟨fun d hd => ?_, fun e d he hd => ?_⟩
  · rw [e1, rput_n (by omega) (by omega), nI_clamp (by omega)]
    by_cases w : d = c
    · subst w
      rw [pk_us, q.1 d hd, nI_1, if_neg (by omega), if_pos (by omega), zcnt_t (by simp only [zB, decide_eq_true_eq]; exact h)]
    · rw [pk_un w, q.1 d hd]
      by_cases v : d < c
      · rw [if_pos v, if_pos (by omega)]
      · rw [if_neg v, if_neg (by omega)]
  · rw [e2]
    rcases hK with k | ⟨u, hu, k⟩
    · rw [k]
      unfold rput
      rw [if_pos (.inl (z_pneg c (by omega))), q.2 e d he hd]
      by_cases w : d = c
      · subst w
        rw [if_neg (by omega), if_pos (by omega), zcnt_f (by simp only [zD, decide_eq_false_iff_not]; rw [k]; exact fun v => nI_neg (by omega) v.1.symm)]
      · by_cases v : d < c
        · rw [if_pos v, if_pos (by omega)]
        · rw [if_neg v, if_neg (by omega)]
    · rw [k, pk_mul, nI_add, rput_n (by omega) (by omega), nI_clamp (by omega)]
      by_cases w : d = c
      · subst w
        by_cases v : e = u
        · subst v
          rw [pk_us, q.2 e d he hd, nI_1, if_neg (by omega), if_pos (by omega), zcnt_t (by simp only [zD, decide_eq_true_eq]; exact ⟨k, h⟩)]
        · rw [pk_un (by omega), q.2 e d he hd, if_neg (by omega), if_pos (by omega), zcnt_f (by simp only [zD, decide_eq_false_iff_not]; rw [k]; exact fun x => v ((nI_eq (by omega) (by omega)).mp x.1).symm)]
      · rw [pk_un (by omega), q.2 e d he hd]
        by_cases v : d < c
        · rw [if_pos v, if_pos (by omega)]
        · rw [if_neg v, if_neg (by omega)]
section
variable {b : Nat} {h : zH}
theorem l_tallyC (hb : b + 71 ≤ h.length) {g : Nat → Nat} {Q : zR → Prop} {M K : Nat → Int32} (T i : Nat) (hT : T ≤ 20) (hi : i < 70) (hK : K i = -1 ∨ ∃ t, t < 20 ∧ K i = nI t) (F0 : Nat → Nat → Int32) (eM : F0 24 = M) (k : ∀ F1 X, (∀ r, r ≠ 25 → r ≠ 26 → F1 r = F0 r) → zta F1 M K T i T → zev 72 105 [some (.ref (b + 52)), some (.ref (b + 1)), some (.int (nI T)), some (.int (nI i)), some (.int (K i)), X] [] (nput b F1 g h) Q) (c : Nat) (hc : c ≤ T) (F : Nat → Nat → Int32) (hF : ∀ r, r ≠ 25 → r ≠ 26 → F r = F0 r) (q : zta F M K T i c) : zev 72 53 [some (.ref (b + 52)), some (.ref (b + 1)), some (.int (nI T)), some (.int (nI i)), some (.int (K i)), some (.int (nI c))] [] (nput b F g h) Q := by
  have eM' : F 24 = M := (hF _ (by decide) (by decide)).trans eM
  refine zev_of (fun _ kk => zr_iload (pc' := 55) zi_72_53 rfl rfl kk) ?_
  refine zev_of (fun _ kk => zr_iload_n (pc' := 56) zi_72_55 rfl rfl kk) ?_
  refine zv_icmp (pc' := 59) zi_72_56 rfl (fun h56 => ?_) (fun h56 => ?_)
  · replace h56 := zc_ge_t (by omega) (by omega) h56
    have e : c = T := by omega
    subst e
    exact k F _ hF q
  · replace h56 := zc_ge_f (by omega) (by omega) h56
    refine zev_of (fun _ kk => zr_aload_n (pc' := 60) zi_72_59 rfl rfl kk) ?_
    refine zev_of (fun _ kk => zr_get (pc' := 63) zi_72_60 (nput_at hb (k := 52) rfl) rfl rfl kk) ?_
    refine zev_of (fun _ kk => zr_iload_n (pc' := 64) zi_72_63 rfl rfl kk) ?_
    refine zev_of (fun _ kk => zr_atN (pc' := 67) (by omega) zi_72_64 hb rfl rfl (by decide) rfl rfl kk) ?_
    refine zev_of (fun _ kk => zr_iload (pc' := 69) zi_72_67 rfl rfl kk) ?_
    refine zev_of (fun _ kk => zr_s1 (pc' := 72) zi_72_69 rfl (c_bitOf _) rfl kk) ?_
    rw [eM']
    refine zev_of (fun _ kk => zr_iand (pc' := 73) zi_72_72 rfl rfl kk) ?_
    refine zv_if (pc' := 76) zi_72_73 rfl (fun h73 => ?_) (fun h73 => ?_)
    · replace h73 := zc_eq_t h73
      refine zev_of (fun _ kk => zr_iinc (pc' := 102) zi_72_99 rfl (by first | exact n_inc _ | rfl) rfl rfl kk) ?_
      dsimp only [zst1, zst2, zkill, List.set, List.getElem?_cons_succ, List.getElem?_cons_zero]
      refine zev_of (fun _ kk => zr_goto zi_72_102 kk) ?_
      exact l_tallyC hb T i hT hi hK F0 eM k (c + 1) (by omega) F hF (zta_skip q h73)
    · replace h73 := zc_eq_f h73
      refine zev_of (fun _ kk => zr_aload_n (pc' := 77) zi_72_76 rfl rfl kk) ?_
      refine zev_of (fun _ kk => zr_get (pc' := 80) zi_72_77 (nput_at hb (k := 52) rfl) rfl rfl kk) ?_
      refine zev_of (fun _ kk => zr_iload (pc' := 82) zi_72_80 rfl rfl kk) ?_
      refine zev_of (fun _ kk => zr_rinc (pc' := 85) (rr := 26) zi_72_82 hb rfl rfl (fun _ => rfl) (by decide) (by decide) rfl rfl kk) ?_
      refine zev_of (fun _ kk => zr_aload_n (pc' := 86) zi_72_85 rfl rfl kk) ?_
      refine zev_of (fun _ kk => zr_get (pc' := 89) zi_72_86 (nput_at hb (k := 52) rfl) rfl rfl kk) ?_
      refine zev_of (fun _ kk => zr_iload (pc' := 91) zi_72_89 rfl rfl kk) ?_
      refine zev_of (fun _ kk => zr_iload (pc' := 93) zi_72_91 rfl rfl kk) ?_
      refine zev_of (fun _ kk => zr_s2 (pc' := 96) zi_72_93 rfl (c_pair _ _) rfl kk) ?_
      refine zev_of (fun _ kk => zr_rinc (pc' := 99) (rr := 25) zi_72_96 hb rfl rfl (fun _ => rfl) (by decide) (by decide) rfl rfl kk) ?_
      refine zev_of (fun _ kk => zr_iinc (pc' := 102) zi_72_99 rfl (by first | exact n_inc _ | rfl) rfl rfl kk) ?_
      dsimp only [zst1, zst2, zkill, List.set, List.getElem?_cons_succ, List.getElem?_cons_zero]
      refine zev_of (fun _ kk => zr_goto zi_72_102 kk) ?_
      refine l_tallyC hb T i hT hi hK F0 eM k (c + 1) (by omega) _ (fun r h1 h2 => ?_) (zta_bit q hT (by omega) h73 hK rfl rfl)
      exact (updR_ne h1).trans ((updR_ne h2).trans (hF r h1 h2))
termination_by T - c
/-- the lines ahead are counted -/
def ztl (F : Nat → Nat → Int32) (M K : Nat → Int32) (T i : Nat) : Prop := (∀ d, d < T → F 26 d = nI (zcnt (zB M d) i)) ∧ (∀ e d, e < 20 → d < T → F 25 (e * 20 + d) = nI (zcnt (zD M K e d) i)) ∧ ∀ e, e < 20 → F 27 e = nI (zcnt (zTm K e) i)
def zonT (F F' : Nat → Nat → Int32) : Prop := ∀ r, r ≠ 25 → r ≠ 26 → r ≠ 27 → F' r = F r
theorem l_tally (hb : b + 71 ≤ h.length) (g : Nat → Nat) (T : Nat) (hT : T ≤ 20) (hn : g 1 ≤ 70) (M K : Nat → Int32) (hK : ∀ i, i < g 1 → K i = -1 ∨ ∃ t, t < 20 ∧ K i = nI t) (i : Nat) (hi : i ≤ g 1) (F : Nat → Nat → Int32) (eM : F 24 = M) (eK : F 5 = K) (q : ztl F M K T i) (X Y : Option Value) : zev 72 23 [some (.ref (b + 52)), some (.ref (b + 1)), some (.int (nI T)), some (.int (nI i)), X, Y] [] (nput b F g h) (zQn b h fun F' g' => (zonT F F' ∧ ztl F' M K T (g 1)) ∧ g' = g) := by
  refine zev_of (fun _ kk => zr_iload_n (pc' := 24) zi_72_23 rfl rfl kk) ?_
  refine zev_of (fun _ kk => zr_aload_n (pc' := 25) zi_72_24 rfl rfl kk) ?_
  refine zev_of (fun _ kk => zr_get (pc' := 28) zi_72_25 (nput_at hb (k := 1) rfl) rfl rfl kk) ?_
  refine zv_icmp (pc' := 31) zi_72_28 rfl (fun h28 => ?_) (fun h28 => ?_)
  · replace h28 := zc_ge_t (by omega) (by omega) h28
    refine zev_ret (zr_return zi_72_111 rfl) ?_
    have e : i = g 1 := by omega
    exact ⟨_, _, ⟨⟨fun _ _ _ _ => rfl, e ▸ q⟩, rfl⟩, rfl⟩
  · replace h28 := zc_ge_f (by omega) (by omega) h28
    refine zev_of (fun _ kk => zr_aload_n (pc' := 32) zi_72_31 rfl rfl kk) ?_
    refine zev_of (fun _ kk => zr_get (pc' := 35) zi_72_32 (nput_at hb (k := 1) rfl) rfl rfl kk) ?_
    refine zev_of (fun _ kk => zr_iload_n (pc' := 36) zi_72_35 rfl rfl kk) ?_
    refine zev_of (fun _ kk => zr_atN (pc' := 39) (by omega) zi_72_36 hb rfl rfl (by decide) rfl rfl kk) ?_
    rw [eK]
    refine zev_of (fun _ kk => zr_istore (pc' := 41) zi_72_39 (Nat.le_of_ble_eq_true rfl) rfl rfl kk) ?_
    dsimp only [zst1, zst2, zkill, List.set, List.getElem?_cons_succ, List.getElem?_cons_zero]
    refine zev_of (fun _ kk => zr_aload_n (pc' := 42) zi_72_41 rfl rfl kk) ?_
    refine zev_of (fun _ kk => zr_get (pc' := 45) zi_72_42 (nput_at hb (k := 52) rfl) rfl rfl kk) ?_
    refine zev_of (fun _ kk => zr_iload (pc' := 47) zi_72_45 rfl rfl kk) ?_
    refine zev_of (fun _ kk => zr_rinc (pc' := 50) (rr := 27) zi_72_47 hb rfl rfl (fun _ => rfl) (by decide) (by decide) rfl rfl kk) ?_
    refine zev_of (fun _ kk => zr_iconst (v := (nI 0)) (pc' := 51) zi_72_50 rfl rfl kk) ?_
    refine zev_of (fun _ kk => zr_istore (pc' := 53) zi_72_51 (Nat.le_of_ble_eq_true rfl) rfl rfl kk) ?_
    dsimp only [zst1, zst2, zkill, List.set, List.getElem?_cons_succ, List.getElem?_cons_zero]
    have hKi := hK i (by omega)
    refine l_tallyC hb T i hT (by omega) hKi (updR F 27 (rput 20 (F 27) (K i) (F 27 (K i).toNatClampNeg + 1))) eM (fun F1 X h1 h2 => ?_) 0 (Nat.zero_le _) _ (fun _ _ _ => rfl) ⟨fun d hd => ?_, fun e d he hd => ?_⟩
    · skip
      refine zev_of (fun _ kk => zr_iinc (pc' := 108) zi_72_105 rfl (by first | exact n_inc _ | rfl) rfl rfl kk) ?_
      dsimp only [zst1, zst2, zkill, List.set, List.getElem?_cons_succ, List.getElem?_cons_zero]
      refine zev_of (fun _ kk => zr_goto zi_72_108 kk) ?_
      refine zev_mono (l_tally hb g T hT hn M K hK (i + 1) (by omega) F1 ((h1 _ (by decide) (by decide)).trans eM) ((h1 _ (by decide) (by decide)).trans eK) ⟨fun d hd => ?_, fun e d he hd => ?_, fun e he => ?_⟩ _ _) ?_
      · rw [h2.1 d hd, if_pos hd]
      · rw [h2.2 e d he hd, if_pos hd]
      · rw [h1 _ (by decide) (by decide), updR_eq]
        rcases hKi with k | ⟨u, hu, k⟩
        · rw [k]
          unfold rput
          rw [if_pos (.inl (by decide)), q.2.2 e he, zcnt_f (by simp only [zTm, decide_eq_false_iff_not]; rw [k]; exact fun v => nI_neg (by omega) v.symm)]
        · rw [k, rput_n (by omega) (by omega), nI_clamp (by omega)]
          by_cases v : e = u
          · subst v
            rw [pk_us, q.2.2 e he, nI_1, zcnt_t (by simp only [zTm, decide_eq_true_eq]; exact k)]
          · rw [pk_un v, q.2.2 e he, zcnt_f (by simp only [zTm, decide_eq_false_iff_not]; rw [k]; exact fun x => v ((nI_eq (by omega) (by omega)).mp x).symm)]
      · rintro p ⟨F', g', ⟨⟨k1, k2⟩, k3⟩, rfl⟩
        exact ⟨F', g', ⟨⟨fun r h3 h4 h5 => (k1 r h3 h4 h5).trans ((h1 r h3 h4).trans (updR_ne h5)), k2⟩, k3⟩, rfl⟩
    · rw [if_neg (by omega)]
      exact q.1 d hd
    · rw [if_neg (by omega)]
      exact q.2.1 e d he hd
termination_by g 1 - i
theorem c_tally (hb : b + 71 ≤ h.length) (F : Nat → Nat → Int32) (g : Nat → Nat) (T : Nat) (hT : T ≤ 20) (hn : g 1 ≤ 70) (hK : ∀ i, i < g 1 → F 5 i = -1 ∨ ∃ t, t < 20 ∧ F 5 i = nI t) : ∃ F' g', ((zonT F F' ∧ ztl F' (F 24) (F 5) T (g 1)) ∧ g' = g) ∧ zcalls zTB 72 [.ref (b + 52), .ref (b + 1), .int (nI T)] (nput b F g h) (none, nput b F' g' h) := by
  refine zQn_out (zev_calls (Nat.le_of_ble_eq_true rfl) ?_)
  show zev 72 0 [some (.ref (b + 52)), some (.ref (b + 1)), some (.int (nI T)), none, none, none] [] _ _
  refine zev_of (fun _ kk => zr_aload_n (pc' := 1) zi_72_0 rfl rfl kk) ?_
  refine zev_of (fun _ kk => zr_get (pc' := 4) zi_72_1 (nput_at hb (k := 52) rfl) rfl rfl kk) ?_
  refine zv_rclear (pc' := 7) (rr := 25) zi_72_4 hb rfl rfl (fun _ => rfl) (by decide) (by decide) (by decide) rfl rfl (fun f25 hf25 => ?_)
  refine zev_of (fun _ kk => zr_aload_n (pc' := 8) zi_72_7 rfl rfl kk) ?_
  refine zev_of (fun _ kk => zr_get (pc' := 11) zi_72_8 (nput_at hb (k := 52) rfl) rfl rfl kk) ?_
  refine zv_rclear (pc' := 14) (rr := 26) zi_72_11 hb rfl rfl (fun _ => rfl) (by decide) (by decide) (by decide) rfl rfl (fun f26 hf26 => ?_)
  refine zev_of (fun _ kk => zr_aload_n (pc' := 15) zi_72_14 rfl rfl kk) ?_
  refine zev_of (fun _ kk => zr_get (pc' := 18) zi_72_15 (nput_at hb (k := 52) rfl) rfl rfl kk) ?_
  refine zv_rclear (pc' := 21) (rr := 27) zi_72_18 hb rfl rfl (fun _ => rfl) (by decide) (by decide) (by decide) rfl rfl (fun f27 hf27 => ?_)
  refine zev_of (fun _ kk => zr_iconst (v := (nI 0)) (pc' := 22) zi_72_21 rfl rfl kk) ?_
  refine zev_of (fun _ kk => zr_istore_n (pc' := 23) zi_72_22 (Nat.le_of_ble_eq_true rfl) rfl rfl kk) ?_
  dsimp only [zst1, zst2, zkill, List.set, List.getElem?_cons_succ, List.getElem?_cons_zero]
  refine zev_mono (l_tally hb g T hT hn (F 24) (F 5) hK 0 (Nat.zero_le _) _ (by rfl) (by rfl) ⟨fun d hd => ?_, fun e d he hd => ?_, fun e he => ?_⟩ none none) ?_
  · exact hf26 d (by omega)
  · exact hf25 (e * 20 + d) (by omega)
  · exact hf27 e he
  · rintro p ⟨F', g', ⟨⟨k1, k2⟩, k3⟩, rfl⟩
    exact ⟨F', g', ⟨⟨fun r h3 h4 h5 => (k1 r h3 h4 h5).trans ((updR_ne h5).trans ((updR_ne h4).trans (updR_ne h3))), k2⟩, k3⟩, rfl⟩
end
end
section
theorem zi_73_0 : zI 73 0 = some (.iconst 0, []) := by decide +kernel
theorem zi_73_1 : zI 73 1 = some (.istore_n 3, []) := by decide +kernel
theorem zi_73_2 : zI 73 2 = some (.iload_n 3, []) := by decide +kernel
theorem zi_73_3 : zI 73 3 = some (.iload_n 1, []) := by decide +kernel
theorem zi_73_4 : zI 73 4 = some (.if_icmp .ge 115, [119]) := by decide +kernel
theorem zi_73_7 : zI 73 7 = some (.aload_n 0, []) := by decide +kernel
theorem zi_73_8 : zI 73 8 = some (.getfield 29, [2, 4, 250]) := by decide +kernel
theorem zi_73_11 : zI 73 11 = some (.iload_n 3, []) := by decide +kernel
theorem zi_73_12 : zI 73 12 = some (.invokevirtual 54, [0, 0, 1, 1, 10, 11, 12, 9, 0, 48]) := by decide +kernel
theorem zi_73_15 : zI 73 15 = some (.istore 4, []) := by decide +kernel
theorem zi_73_17 : zI 73 17 = some (.aload_n 0, []) := by decide +kernel
theorem zi_73_18 : zI 73 18 = some (.getfield 38, [2, 7, 251]) := by decide +kernel
theorem zi_73_21 : zI 73 21 = some (.iload_n 3, []) := by decide +kernel
theorem zi_73_22 : zI 73 22 = some (.iconst 0, []) := by decide +kernel
theorem zi_73_23 : zI 73 23 = some (.invokevirtual 61, [1, 0, 2, 1, 234, 235, 12, 233, 0, 261]) := by decide +kernel
theorem zi_73_26 : zI 73 26 = some (.iconst 0, []) := by decide +kernel
theorem zi_73_27 : zI 73 27 = some (.istore 5, []) := by decide +kernel
theorem zi_73_29 : zI 73 29 = some (.iload 5, []) := by decide +kernel
theorem zi_73_31 : zI 73 31 = some (.iload_n 1, []) := by decide +kernel
theorem zi_73_32 : zI 73 32 = some (.if_icmp .ge 81, [113]) := by decide +kernel
theorem zi_73_35 : zI 73 35 = some (.sipush 1000, []) := by decide +kernel
theorem zi_73_38 : zI 73 38 = some (.aload_n 0, []) := by decide +kernel
theorem zi_73_39 : zI 73 39 = some (.iload_n 3, []) := by decide +kernel
theorem zi_73_40 : zI 73 40 = some (.iload 5, []) := by decide +kernel
theorem zi_73_42 : zI 73 42 = some (.invokevirtual 78, [27, 0, 2, 2, 125, 126, 47, 124, 0, 123]) := by decide +kernel
theorem zi_73_45 : zI 73 45 = some (.imul, []) := by decide +kernel
theorem zi_73_46 : zI 73 46 = some (.iload 4, []) := by decide +kernel
theorem zi_73_48 : zI 73 48 = some (.invokestatic 81, [13, 1, 2, 0, 117, 0, 118, 116, 1, 1]) := by decide +kernel
theorem zi_73_51 : zI 73 51 = some (.sipush 1000, []) := by decide +kernel
theorem zi_73_54 : zI 73 54 = some (.aload_n 0, []) := by decide +kernel
theorem zi_73_55 : zI 73 55 = some (.iload_n 3, []) := by decide +kernel
theorem zi_73_56 : zI 73 56 = some (.iload 5, []) := by decide +kernel
theorem zi_73_58 : zI 73 58 = some (.invokevirtual 84, [36, 0, 2, 2, 273, 274, 47, 272, 0, 271]) := by decide +kernel
theorem zi_73_61 : zI 73 61 = some (.imul, []) := by decide +kernel
theorem zi_73_62 : zI 73 62 = some (.iload_n 2, []) := by decide +kernel
theorem zi_73_63 : zI 73 63 = some (.iload 4, []) := by decide +kernel
theorem zi_73_65 : zI 73 65 = some (.isub, []) := by decide +kernel
theorem zi_73_66 : zI 73 66 = some (.invokestatic 81, [13, 1, 2, 0, 117, 0, 118, 116, 1, 1]) := by decide +kernel
theorem zi_73_69 : zI 73 69 = some (.isub, []) := by decide +kernel
theorem zi_73_70 : zI 73 70 = some (.istore 6, []) := by decide +kernel
theorem zi_73_72 : zI 73 72 = some (.aload_n 0, []) := by decide +kernel
theorem zi_73_73 : zI 73 73 = some (.getfield 32, [2, 5, 127]) := by decide +kernel
theorem zi_73_76 : zI 73 76 = some (.iload_n 3, []) := by decide +kernel
theorem zi_73_77 : zI 73 77 = some (.iload 5, []) := by decide +kernel
theorem zi_73_79 : zI 73 79 = some (.invokestatic 74, [9, 1, 2, 0, 46, 0, 47, 45, 0, 44]) := by decide +kernel
theorem zi_73_82 : zI 73 82 = some (.iload 6, []) := by decide +kernel
theorem zi_73_84 : zI 73 84 = some (.invokevirtual 61, [1, 0, 2, 1, 234, 235, 12, 233, 0, 261]) := by decide +kernel
theorem zi_73_87 : zI 73 87 = some (.iload 5, []) := by decide +kernel
theorem zi_73_89 : zI 73 89 = some (.iload_n 3, []) := by decide +kernel
theorem zi_73_90 : zI 73 90 = some (.if_icmp .eq 17, [107]) := by decide +kernel
theorem zi_73_93 : zI 73 93 = some (.iload 6, []) := by decide +kernel
theorem zi_73_95 : zI 73 95 = some (.ifCond .le 12, [107]) := by decide +kernel
theorem zi_73_98 : zI 73 98 = some (.aload_n 0, []) := by decide +kernel
theorem zi_73_99 : zI 73 99 = some (.iload_n 3, []) := by decide +kernel
theorem zi_73_100 : zI 73 100 = some (.iload 5, []) := by decide +kernel
theorem zi_73_102 : zI 73 102 = some (.iload 6, []) := by decide +kernel
theorem zi_73_104 : zI 73 104 = some (.invokevirtual 87, [74, 0, 3, 2, 277, 278, 47, 276, 0, 275]) := by decide +kernel
theorem zi_73_107 : zI 73 107 = some (.iinc 5 1, []) := by decide +kernel
theorem zi_73_110 : zI 73 110 = some (.goto (-81), [29]) := by decide +kernel
theorem zi_73_113 : zI 73 113 = some (.iinc 3 1, []) := by decide +kernel
theorem zi_73_116 : zI 73 116 = some (.goto (-114), [2]) := by decide +kernel
theorem zi_73_119 : zI 73 119 = some (.return_, []) := by decide +kernel
theorem zi_74_0 : zI 74 0 = some (.aload_n 0, []) := by decide +kernel
theorem zi_74_1 : zI 74 1 = some (.getfield 38, [2, 7, 251]) := by decide +kernel
theorem zi_74_4 : zI 74 4 = some (.iload_n 1, []) := by decide +kernel
theorem zi_74_5 : zI 74 5 = some (.invokevirtual 54, [0, 0, 1, 1, 10, 11, 12, 9, 0, 48]) := by decide +kernel
theorem zi_74_8 : zI 74 8 = some (.istore 4, []) := by decide +kernel
theorem zi_74_10 : zI 74 10 = some (.iload 4, []) := by decide +kernel
theorem zi_74_12 : zI 74 12 = some (.ifCond .le 49, [61]) := by decide +kernel
theorem zi_74_15 : zI 74 15 = some (.aload_n 0, []) := by decide +kernel
theorem zi_74_16 : zI 74 16 = some (.iload_n 1, []) := by decide +kernel
theorem zi_74_17 : zI 74 17 = some (.aload_n 0, []) := by decide +kernel
theorem zi_74_18 : zI 74 18 = some (.iload_n 1, []) := by decide +kernel
theorem zi_74_19 : zI 74 19 = some (.iload 4, []) := by decide +kernel
theorem zi_74_21 : zI 74 21 = some (.iconst 1, []) := by decide +kernel
theorem zi_74_22 : zI 74 22 = some (.isub, []) := by decide +kernel
theorem zi_74_23 : zI 74 23 = some (.invokevirtual 91, [20, 0, 2, 2, 281, 282, 47, 280, 0, 279]) := by decide +kernel
theorem zi_74_26 : zI 74 26 = some (.invokevirtual 94, [37, 0, 2, 2, 285, 286, 47, 284, 0, 283]) := by decide +kernel
theorem zi_74_29 : zI 74 29 = some (.iload_n 3, []) := by decide +kernel
theorem zi_74_30 : zI 74 30 = some (.if_icmp .ge 31, [61]) := by decide +kernel
theorem zi_74_33 : zI 74 33 = some (.aload_n 0, []) := by decide +kernel
theorem zi_74_34 : zI 74 34 = some (.getfield 35, [2, 6, 43]) := by decide +kernel
theorem zi_74_37 : zI 74 37 = some (.iload_n 1, []) := by decide +kernel
theorem zi_74_38 : zI 74 38 = some (.iload 4, []) := by decide +kernel
theorem zi_74_40 : zI 74 40 = some (.invokestatic 74, [9, 1, 2, 0, 46, 0, 47, 45, 0, 44]) := by decide +kernel
theorem zi_74_43 : zI 74 43 = some (.aload_n 0, []) := by decide +kernel
theorem zi_74_44 : zI 74 44 = some (.iload_n 1, []) := by decide +kernel
theorem zi_74_45 : zI 74 45 = some (.iload 4, []) := by decide +kernel
theorem zi_74_47 : zI 74 47 = some (.iconst 1, []) := by decide +kernel
theorem zi_74_48 : zI 74 48 = some (.isub, []) := by decide +kernel
theorem zi_74_49 : zI 74 49 = some (.invokevirtual 91, [20, 0, 2, 2, 281, 282, 47, 280, 0, 279]) := by decide +kernel
theorem zi_74_52 : zI 74 52 = some (.invokevirtual 61, [1, 0, 2, 1, 234, 235, 12, 233, 0, 261]) := by decide +kernel
theorem zi_74_55 : zI 74 55 = some (.iinc 4 (-1), []) := by decide +kernel
theorem zi_74_58 : zI 74 58 = some (.goto (-48), [10]) := by decide +kernel
theorem zi_74_61 : zI 74 61 = some (.aload_n 0, []) := by decide +kernel
theorem zi_74_62 : zI 74 62 = some (.getfield 35, [2, 6, 43]) := by decide +kernel
theorem zi_74_65 : zI 74 65 = some (.iload_n 1, []) := by decide +kernel
theorem zi_74_66 : zI 74 66 = some (.iload 4, []) := by decide +kernel
theorem zi_74_68 : zI 74 68 = some (.invokestatic 74, [9, 1, 2, 0, 46, 0, 47, 45, 0, 44]) := by decide +kernel
theorem zi_74_71 : zI 74 71 = some (.iload_n 2, []) := by decide +kernel
theorem zi_74_72 : zI 74 72 = some (.invokevirtual 61, [1, 0, 2, 1, 234, 235, 12, 233, 0, 261]) := by decide +kernel
theorem zi_74_75 : zI 74 75 = some (.aload_n 0, []) := by decide +kernel
theorem zi_74_76 : zI 74 76 = some (.getfield 38, [2, 7, 251]) := by decide +kernel
theorem zi_74_79 : zI 74 79 = some (.iload_n 1, []) := by decide +kernel
theorem zi_74_80 : zI 74 80 = some (.invokevirtual 71, [7, 0, 1, 1, 269, 270, 12, 268, 0, 267]) := by decide +kernel
theorem zi_74_83 : zI 74 83 = some (.return_, []) := by decide +kernel
/-! scenes: causes by their scores -/
section
variable {b : Nat} {h : zH}
/-- cause c of score k stands at place q of template e -/
def zent2 (F F' : Nat → Nat → Int32) (e c N k : Nat) (R sv : Nat → Nat) (q : Nat) : Prop := (∀ r, r ≠ 29 → r ≠ 30 → F' r = F r) ∧ (∀ x, x < e * 20 ∨ e * 20 + 20 ≤ x → F' 29 x = F 29 x) ∧ (∀ x, x ≠ e → F' 30 x = F 30 x) ∧ F' 30 e = nI (N + 1) ∧ q ≤ N ∧ (∀ p, p < q → F' 29 (e * 20 + p) = nI (R p)) ∧ F' 29 (e * 20 + q) = nI c ∧ (∀ p, q < p → p ≤ N → F' 29 (e * 20 + p) = nI (R (p - 1))) ∧ (0 < q → k ≤ sv (R (q - 1))) ∧ ∀ p, q ≤ p → p < N → sv (R p) < k
theorem l_enterC (hb : b + 71 ≤ h.length) (g : Nat → Nat) (e c N k : Nat) (R sv : Nat → Nat) (he : e < 20) (hN : N < 20) (hk : k ≤ 1000) (q : Nat) (hq : q ≤ N) (F : Nat → Nat → Int32) (hc : F 30 e = nI N) (h1 : ∀ p, p < q → F 29 (e * 20 + p) = nI (R p)) (hR : ∀ p, p < N → R p < 20 ∧ F 28 (e * 20 + R p) = nI (sv (R p)) ∧ sv (R p) ≤ 1000) (h2 : ∀ p, q < p → p ≤ N → F 29 (e * 20 + p) = nI (R (p - 1))) (h3 : ∀ p, q ≤ p → p < N → sv (R p) < k) : zev 74 10 [some (.ref (b + 52)), some (.int (nI e)), some (.int (nI c)), some (.int (nI k)), some (.int (nI q))] [] (nput b F g h) (zQn b h fun F' g' => (∃ q, zent2 F F' e c N k R sv q) ∧ g' = g) := by
  have hexit : (0 < q → k ≤ sv (R (q - 1))) → zev 74 61 [some (.ref (b + 52)), some (.int (nI e)), some (.int (nI c)), some (.int (nI k)), some (.int (nI q))] [] (nput b F g h) (zQn b h fun F' g' => (∃ q, zent2 F F' e c N k R sv q) ∧ g' = g) := by
    intro hlast
    refine zev_of (fun _ kk => zr_aload_n (pc' := 62) zi_74_61 rfl rfl kk) ?_
    refine zev_of (fun _ kk => zr_get (pc' := 65) zi_74_62 (nput_at hb (k := 52) rfl) rfl rfl kk) ?_
    refine zev_of (fun _ kk => zr_iload_n (pc' := 66) zi_74_65 rfl rfl kk) ?_
    refine zev_of (fun _ kk => zr_iload (pc' := 68) zi_74_66 rfl rfl kk) ?_
    refine zev_of (fun _ kk => zr_s2 (pc' := 71) zi_74_68 rfl (c_pairN _ _) rfl kk) ?_
    refine zev_of (fun _ kk => zr_iload_n (pc' := 72) zi_74_71 rfl rfl kk) ?_
    refine zev_of (fun _ kk => zr_rputN (pc' := 75) (rr := 29) (by omega) zi_74_72 hb rfl rfl (fun _ => rfl) (by decide) (by decide) rfl rfl kk) ?_
    refine zev_of (fun _ kk => zr_aload_n (pc' := 76) zi_74_75 rfl rfl kk) ?_
    refine zev_of (fun _ kk => zr_get (pc' := 79) zi_74_76 (nput_at hb (k := 52) rfl) rfl rfl kk) ?_
    refine zev_of (fun _ kk => zr_iload_n (pc' := 80) zi_74_79 rfl rfl kk) ?_
    refine zev_of (fun _ kk => zr_rinc (pc' := 83) (rr := 30) zi_74_80 hb rfl rfl (fun _ => rfl) (by decide) (by decide) rfl rfl kk) ?_
    refine zev_ret (zr_return zi_74_83 rfl) ?_
    refine ⟨_, _, ⟨⟨q, ?_⟩, rfl⟩, rfl⟩
    refine ⟨fun r h4 h5 => (updR_ne h5).trans (updR_ne h4), fun x hx => pk_un (by omega), fun x hx => ?_, ?_, hq, fun p hp => (pk_un (by omega)).trans (h1 p hp), pk_us, fun p h4 h5 => (pk_un (by omega)).trans (h2 p h4 h5), hlast, h3⟩
    · show rput 20 (F 30) (nI e) (F 30 (nI e).toNatClampNeg + 1) x = F 30 x
      rw [rput_n he (by omega), pk_un hx]
    · show rput 20 (F 30) (nI e) (F 30 (nI e).toNatClampNeg + 1) e = nI (N + 1)
      rw [rput_n he (by omega), pk_us, nI_clamp (by omega), hc, nI_1]
  refine zev_of (fun _ kk => zr_iload (pc' := 12) zi_74_10 rfl rfl kk) ?_
  refine zv_if (pc' := 15) zi_74_12 rfl (fun h12 => ?_) (fun h12 => ?_)
  · replace h12 := zx_le_t h12
    refine hexit fun hq0 => ?_
    exact absurd h12 (nI_nle hq0 (by omega))
  · replace h12 := zx_le_f h12
    obtain ⟨q', rfl⟩ : ∃ q', q = q' + 1 := by
      cases q with
      | zero => exact absurd (by decide : nI 0 ≤ 0) h12
      | succ q' => exact ⟨q', rfl⟩
    obtain ⟨hr1, hr2, hr3⟩ := hR q' (by omega)
    have hr0 := h1 q' (by omega)
    refine zev_of (fun _ kk => zr_aload_n (pc' := 16) zi_74_15 rfl rfl kk) ?_
    refine zev_of (fun _ kk => zr_iload_n (pc' := 17) zi_74_16 rfl rfl kk) ?_
    refine zev_of (fun _ kk => zr_aload_n (pc' := 18) zi_74_17 rfl rfl kk) ?_
    refine zev_of (fun _ kk => zr_iload_n (pc' := 19) zi_74_18 rfl rfl kk) ?_
    refine zev_of (fun _ kk => zr_iload (pc' := 21) zi_74_19 rfl rfl kk) ?_
    refine zev_of (fun _ kk => zr_iconst (v := (nI 1)) (pc' := 22) zi_74_21 rfl rfl kk) ?_
    refine zev_of (fun _ kk => zr_isub (pc' := 23) zi_74_22 (by first | exact pk_sub (by omega) | rfl) rfl kk) ?_
    rw [Nat.add_sub_cancel]
    refine zev_of (fun _ kk => zr_v2 (pc' := 26) zi_74_23 (nput_at hb (k := 52) rfl) rfl (c_causeOf hb _ _ (by omega)) rfl kk) ?_
    rw [hr0]
    refine zev_of (fun _ kk => zr_v2 (pc' := 29) zi_74_26 (nput_at hb (k := 52) rfl) rfl (c_score hb _ _ (by omega)) rfl kk) ?_
    rw [hr2]
    refine zev_of (fun _ kk => zr_iload_n (pc' := 30) zi_74_29 rfl rfl kk) ?_
    refine zv_icmp (pc' := 33) zi_74_30 rfl (fun h30 => ?_) (fun h30 => ?_)
    · replace h30 := zc_ge_t (by omega) (by omega) h30
      refine hexit fun _ => ?_
      rw [Nat.add_sub_cancel]
      exact h30
    · replace h30 := zc_ge_f (by omega) (by omega) h30
      refine zev_of (fun _ kk => zr_aload_n (pc' := 34) zi_74_33 rfl rfl kk) ?_
      refine zev_of (fun _ kk => zr_get (pc' := 37) zi_74_34 (nput_at hb (k := 52) rfl) rfl rfl kk) ?_
      refine zev_of (fun _ kk => zr_iload_n (pc' := 38) zi_74_37 rfl rfl kk) ?_
      refine zev_of (fun _ kk => zr_iload (pc' := 40) zi_74_38 rfl rfl kk) ?_
      refine zev_of (fun _ kk => zr_s2 (pc' := 43) zi_74_40 rfl (c_pairN _ _) rfl kk) ?_
      refine zev_of (fun _ kk => zr_aload_n (pc' := 44) zi_74_43 rfl rfl kk) ?_
      refine zev_of (fun _ kk => zr_iload_n (pc' := 45) zi_74_44 rfl rfl kk) ?_
      refine zev_of (fun _ kk => zr_iload (pc' := 47) zi_74_45 rfl rfl kk) ?_
      refine zev_of (fun _ kk => zr_iconst (v := (nI 1)) (pc' := 48) zi_74_47 rfl rfl kk) ?_
      refine zev_of (fun _ kk => zr_isub (pc' := 49) zi_74_48 (by first | exact pk_sub (by omega) | rfl) rfl kk) ?_
      rw [Nat.add_sub_cancel]
      refine zev_of (fun _ kk => zr_v2 (pc' := 52) zi_74_49 (nput_at hb (k := 52) rfl) rfl (c_causeOf hb _ _ (by omega)) rfl kk) ?_
      refine zev_of (fun _ kk => zr_rputN (pc' := 55) (rr := 29) (by omega) zi_74_52 hb rfl rfl (fun _ => rfl) (by decide) (by decide) rfl rfl kk) ?_
      refine zev_of (fun _ kk => zr_iinc (pc' := 58) zi_74_55 rfl (n_dec _) rfl rfl kk) ?_
      dsimp only [zst1, zst2, zkill, List.set, List.getElem?_cons_succ, List.getElem?_cons_zero]
      refine zev_of (fun _ kk => zr_goto zi_74_58 kk) ?_
      rw [nI_pred]
      refine zev_mono (l_enterC hb g e c N k R sv he hN hk q' (by omega) (updR F 29 (upd (F 29) (e * 20 + (q' + 1)) (F 29 (e * 20 + q')))) hc (fun p hp => (pk_un (by omega)).trans (h1 p (by omega))) hR (fun p h4 h5 => ?_) (fun p h4 h5 => ?_)) ?_
      · show upd (F 29) (e * 20 + (q' + 1)) (F 29 (e * 20 + q')) (e * 20 + p) = nI (R (p - 1))
        rcases Nat.lt_or_ge (q' + 1) p with w | w
        · rw [pk_un (by omega)]
          exact h2 p w h5
        · rw [show p = q' + 1 by omega, pk_us, Nat.add_sub_cancel]
          exact hr0
      · rcases Nat.lt_or_ge q' p with w | w
        · exact h3 p w h5
        · rw [show p = q' by omega]
          exact h30
      · rintro w ⟨F', g', ⟨⟨q2, k1, k2, k3⟩, k4⟩, rfl⟩
        exact ⟨F', g', ⟨⟨q2, fun r h4 h5 => (k1 r h4 h5).trans (updR_ne h4), fun x hx => (k2 x hx).trans (pk_un (by omega)), k3⟩, k4⟩, rfl⟩
termination_by q
theorem c_enterC (hb : b + 71 ≤ h.length) (F : Nat → Nat → Int32) (g : Nat → Nat) (e c N k : Nat) (R sv : Nat → Nat) (he : e < 20) (hN : N < 20) (hk : k ≤ 1000) (hc : F 30 e = nI N) (h1 : ∀ p, p < N → F 29 (e * 20 + p) = nI (R p)) (hR : ∀ p, p < N → R p < 20 ∧ F 28 (e * 20 + R p) = nI (sv (R p)) ∧ sv (R p) ≤ 1000) : ∃ F' g', ((∃ q, zent2 F F' e c N k R sv q) ∧ g' = g) ∧ zcalls zTB 74 [.ref (b + 52), .int (nI e), .int (nI c), .int (nI k)] (nput b F g h) (none, nput b F' g' h) := by
  refine zQn_out (zev_calls (Nat.le_of_ble_eq_true rfl) ?_)
  show zev 74 0 [some (.ref (b + 52)), some (.int (nI e)), some (.int (nI c)), some (.int (nI k)), none] [] _ _
  refine zev_of (fun _ kk => zr_aload_n (pc' := 1) zi_74_0 rfl rfl kk) ?_
  refine zev_of (fun _ kk => zr_get (pc' := 4) zi_74_1 (nput_at hb (k := 52) rfl) rfl rfl kk) ?_
  refine zev_of (fun _ kk => zr_iload_n (pc' := 5) zi_74_4 rfl rfl kk) ?_
  refine zev_of (fun _ kk => zr_atN (pc' := 8) (by omega) zi_74_5 hb rfl rfl (by decide) rfl rfl kk) ?_
  rw [hc]
  refine zev_of (fun _ kk => zr_istore (pc' := 10) zi_74_8 (Nat.le_of_ble_eq_true rfl) rfl rfl kk) ?_
  dsimp only [zst1, zst2, zkill, List.set, List.getElem?_cons_succ, List.getElem?_cons_zero]
  exact l_enterC hb g e c N k R sv he hN hk N (Nat.le_refl _) F hc h1 hR (fun p h4 h5 => absurd h4 (by omega)) (fun p h4 h5 => absurd h4 (by omega))
/-- the causes of template e among those below c -/
def zrk (F : Nat → Nat → Int32) (hh : Nat → Nat) (e c N : Nat) (R sv : Nat → Nat) : Prop := F 30 e = nI N ∧ N ≤ c ∧ (∀ p, p < N → F 29 (e * 20 + p) = nI (R p) ∧ R p < c ∧ R p ≠ e ∧ F 28 (e * 20 + R p) = nI (sv (R p)) ∧ 1 ≤ sv (R p) ∧ sv (R p) ≤ 1000 ∧ 1 ≤ hh (R p)) ∧ ∀ p, p + 1 < N → sv (R (p + 1)) ≤ sv (R p)
theorem zrk_skip {F : Nat → Nat → Int32} {hh : Nat → Nat} {e c N : Nat} {R sv : Nat → Nat} (q : zrk F hh e c N R sv) (v : Int32) : zrk (updR F 28 (upd (F 28) (e * 20 + c) v)) hh e (c + 1) N R sv := by
  obtain ⟨h1, h2, h3, h4⟩ := q
  refine ⟨h1, by omega, fun p hp => ?_, h4⟩
  obtain ⟨k1, k2, k3, k4, k5⟩ := h3 p hp
  exact ⟨k1, by omega, k3, (pk_un (by omega)).trans k4, k5⟩
theorem zrk_enter {F F' : Nat → Nat → Int32} {hh : Nat → Nat} {e c N k q : Nat} {R sv : Nat → Nat} (z : zrk F hh e c N R sv) (w : zent2 (updR F 28 (upd (F 28) (e * 20 + c) (nI k))) F' e c N k R sv q) (hce : c ≠ e) (hk1 : 1 ≤ k) (hk : k ≤ 1000) (hhc : 1 ≤ hh c) : ∃ R' sv', zrk F' hh e (c + 1) (N + 1) R' sv' := by
  obtain ⟨h1, h2, h3, h4⟩ := z
  obtain ⟨w1, w2, w3, w4, w5, w6, w7, w8, w9, w10⟩ := w
  obtain ⟨R', r1, r2, r3⟩ : ∃ R' : Nat → Nat, (∀ p, p < q → R' p = R p) ∧ R' q = c ∧ ∀ p, q < p → R' p = R (p - 1) := ⟨fun p => if p < q then R p else if p = q then c else R (p - 1), fun p hp => if_pos hp, (if_neg (Nat.lt_irrefl q)).trans (if_pos rfl), fun p hp => (if_neg (show ¬ p < q by omega)).trans (if_neg (show ¬ p = q by omega))⟩
  have es : F' 28 = upd (F 28) (e * 20 + c) (nI k) := w1 _ (by decide) (by decide)
  have hsv : ∀ p, p < N → nup sv c k (R p) = sv (R p) := fun p hp => nup_ne (by have := (h3 p hp).2.1; omega)
  refine ⟨R', nup sv c k, w4, by omega, fun p hp => ?_, fun p hp => ?_⟩
  · rw [es]
    have hold : ∀ p, p < N → R p < c + 1 ∧ R p ≠ e ∧ upd (F 28) (e * 20 + c) (nI k) (e * 20 + R p) = nI (nup sv c k (R p)) ∧ 1 ≤ nup sv c k (R p) ∧ nup sv c k (R p) ≤ 1000 ∧ 1 ≤ hh (R p) := by
      intro p hp
      obtain ⟨k1, k2, k3, k4, k5⟩ := h3 p hp
      rw [hsv p hp, pk_un (by omega)]
      exact ⟨by omega, k3, k4, k5⟩
    rcases Nat.lt_trichotomy p q with u | u | u
    · rw [r1 p u]
      exact ⟨w6 p u, hold p (by omega)⟩
    · subst u
      rw [r2, nup_eq, pk_us]
      exact ⟨w7, by omega, hce, rfl, hk1, hk, hhc⟩
    · rw [r3 p u]
      exact ⟨w8 p u (by omega), hold (p - 1) (by omega)⟩
  · rcases Nat.lt_trichotomy (p + 1) q with u | u | u
    · rw [r1 p (by omega), r1 (p + 1) u, hsv _ (by omega), hsv _ (by omega)]
      exact h4 p (by omega)
    · rw [u, r2, nup_eq, r1 p (by omega), hsv _ (by omega)]
      have := w9 (by omega)
      rw [show q - 1 = p by omega] at this
      exact this
    · rw [r3 (p + 1) u, Nat.add_sub_cancel, hsv _ (by omega)]
      rcases Nat.lt_or_ge q p with v | v
      · rw [r3 p v, hsv _ (by omega)]
        have := h4 (p - 1) (by omega)
        rw [show p - 1 + 1 = p by omega] at this
        exact this
      · rw [show p = q by omega, r2, nup_eq]
        exact Nat.le_of_lt (w10 q (Nat.le_refl _) (by omega))
def zonE (F F' : Nat → Nat → Int32) (e : Nat) : Prop := (∀ r, r ≠ 28 → r ≠ 29 → r ≠ 30 → F' r = F r) ∧ (∀ x, x < e * 20 ∨ e * 20 + 20 ≤ x → F' 29 x = F 29 x ∧ F' 28 x = F 28 x) ∧ ∀ x, x ≠ e → F' 30 x = F 30 x
theorem zrk_of {F F' : Nat → Nat → Int32} {hh : Nat → Nat} {e u T N : Nat} {R sv : Nat → Nat} (q : zrk F hh u T N R sv) (hT : T ≤ 20) (hu : u ≠ e) (w : zonE F F' e) : zrk F' hh u T N R sv := by
  obtain ⟨h1, h2, h3, h4⟩ := q
  refine ⟨(w.2.2 u hu).trans h1, h2, fun p hp => ?_, h4⟩
  obtain ⟨k1, k2, k3, k4, k5⟩ := h3 p hp
  exact ⟨(w.2.1 _ (by omega)).1.trans k1, k2, k3, (w.2.1 _ (by omega)).2.trans k4, k5⟩
theorem zonE_tr {F G H : Nat → Nat → Int32} {e : Nat} (a : zonE F G e) (c : zonE G H e) : zonE F H e :=
  ⟨fun r h1 h2 h3 => (c.1 r h1 h2 h3).trans (a.1 r h1 h2 h3), fun x hx => ⟨(c.2.1 x hx).1.trans (a.2.1 x hx).1, (c.2.1 x hx).2.trans (a.2.1 x hx).2⟩, fun x hx => (c.2.2 x hx).trans (a.2.2 x hx)⟩
/-- what the tallies tell of template e -/
def zta2 (F : Nat → Nat → Int32) (m T e o : Nat) (hh al : Nat → Nat) : Prop := F 27 e = nI o ∧ o ≤ m ∧ ∀ c, c < T → F 25 (e * 20 + c) = nI (hh c) ∧ F 26 c = nI (al c) ∧ hh c ≤ o ∧ hh c ≤ al c ∧ al c - hh c ≤ m - o
theorem zta2_of {F F' : Nat → Nat → Int32} {m T e u o : Nat} {hh al : Nat → Nat} (q : zta2 F m T e o hh al) (w : zonE F F' u) : zta2 F' m T e o hh al := by
  unfold zta2
  rw [w.1 _ (by decide) (by decide) (by decide), w.1 25 (by decide) (by decide) (by decide), w.1 26 (by decide) (by decide) (by decide)]
  exact q
theorem c_quo {H : zH} (x o : Nat) (hx : x < 2 ^ 31) (ho : o < 2 ^ 31) : zcalls zTB 13 [.int (nI x), .int (nI o)] H (some (.int (nI (if o = 0 then 0 else x / o))), H) := by
  have hc := c_quotient (H := H) (nI x) (nI o)
  by_cases e : o = 0
  · subst e
    rw [if_pos (by rfl : nI 0 = 0)] at hc
    rw [if_pos rfl]
    exact hc
  · rw [if_neg (nI_ne0 (by omega) ho), pk_div hx (by omega) ho] at hc
    rw [if_neg e]
    exact hc
theorem l_rankC (hb : b + 71 ≤ h.length) {g : Nat → Nat} {Q : zR → Prop} (T m e o : Nat) (hh al : Nat → Nat) (hT : T ≤ 20) (hm : m ≤ 70) (he : e < T) (F0 : Nat → Nat → Int32) (h0 : zta2 F0 m T e o hh al) (k : ∀ F1 X Y, zonE F0 F1 e → (∃ N R sv, zrk F1 hh e T N R sv) → zev 73 113 [some (.ref (b + 52)), some (.int (nI T)), some (.int (nI m)), some (.int (nI e)), some (.int (nI o)), X, Y] [] (nput b F1 g h) Q) (c : Nat) (hc : c ≤ T) (F : Nat → Nat → Int32) (hF : zonE F0 F e) (N : Nat) (R sv : Nat → Nat) (q : zrk F hh e c N R sv) (X : Option Value) : zev 73 29 [some (.ref (b + 52)), some (.int (nI T)), some (.int (nI m)), some (.int (nI e)), some (.int (nI o)), some (.int (nI c)), X] [] (nput b F g h) Q := by
  obtain ⟨ho, hom, hcs⟩ := zta2_of h0 hF
  refine zev_of (fun _ kk => zr_iload (pc' := 31) zi_73_29 rfl rfl kk) ?_
  refine zev_of (fun _ kk => zr_iload_n (pc' := 32) zi_73_31 rfl rfl kk) ?_
  refine zv_icmp (pc' := 35) zi_73_32 rfl (fun h32 => ?_) (fun h32 => ?_)
  · replace h32 := zc_ge_t (by omega) (by omega) h32
    have e2 : c = T := by omega
    subst e2
    exact k F _ _ hF ⟨N, R, sv, q⟩
  · replace h32 := zc_ge_f (by omega) (by omega) h32
    obtain ⟨c1, c2, c3, c4, c5⟩ := hcs c (by omega)
    have hqA := c_quo (H := nput b F g h) (1000 * hh c) o (by omega) (by omega)
    have hqB := c_quo (H := nput b F g h) (1000 * (al c - hh c)) (m - o) (by omega) (by omega)
    obtain ⟨A, hA⟩ : ∃ A, A = if o = 0 then 0 else 1000 * hh c / o := ⟨_, rfl⟩
    obtain ⟨B, hB⟩ : ∃ B, B = if m - o = 0 then 0 else 1000 * (al c - hh c) / (m - o) := ⟨_, rfl⟩
    rw [← hA] at hqA
    rw [← hB] at hqB
    have hA1 : A ≤ 1000 := by
      rw [hA]
      split
      · omega
      · exact Nat.div_le_of_le_mul (by rw [Nat.mul_comm]; exact Nat.mul_le_mul_right _ c3)
    have hA0 : 0 < A → 1 ≤ hh c := by
      intro w
      refine Nat.pos_of_ne_zero fun v => ?_
      rw [hA, v] at w
      simp at w
    have hB1 : B ≤ 1000 := by
      rw [hB]
      split
      · omega
      · exact Nat.div_le_of_le_mul (by rw [Nat.mul_comm]; exact Nat.mul_le_mul_right _ c5)
    have hF1 : ∀ v, zonE F (updR F 28 (upd (F 28) (e * 20 + c) v)) e := fun v => ⟨fun r h1 h2 h3 => updR_ne h1, fun x hx => ⟨rfl, pk_un (by omega)⟩, fun _ _ => rfl⟩
    refine zev_of (fun _ kk => zr_sipush (v := (nI 1000)) (pc' := 38) zi_73_35 rfl rfl kk) ?_
    refine zev_of (fun _ kk => zr_aload_n (pc' := 39) zi_73_38 rfl rfl kk) ?_
    refine zev_of (fun _ kk => zr_iload_n (pc' := 40) zi_73_39 rfl rfl kk) ?_
    refine zev_of (fun _ kk => zr_iload (pc' := 42) zi_73_40 rfl rfl kk) ?_
    refine zev_of (fun _ kk => zr_v2 (pc' := 45) zi_73_42 (nput_at hb (k := 52) rfl) rfl (c_hits hb _ _ (by omega)) rfl kk) ?_
    rw [c1]
    refine zev_of (fun _ kk => zr_imul (pc' := 46) zi_73_45 (by first | exact pk_mul _ _ | rfl) rfl kk) ?_
    refine zev_of (fun _ kk => zr_iload (pc' := 48) zi_73_46 rfl rfl kk) ?_
    refine zev_of (fun _ kk => zr_s2 (pc' := 51) zi_73_48 rfl hqA rfl kk) ?_
    refine zev_of (fun _ kk => zr_sipush (v := (nI 1000)) (pc' := 54) zi_73_51 rfl rfl kk) ?_
    refine zev_of (fun _ kk => zr_aload_n (pc' := 55) zi_73_54 rfl rfl kk) ?_
    refine zev_of (fun _ kk => zr_iload_n (pc' := 56) zi_73_55 rfl rfl kk) ?_
    refine zev_of (fun _ kk => zr_iload (pc' := 58) zi_73_56 rfl rfl kk) ?_
    refine zev_of (fun _ kk => zr_v2 (pc' := 61) zi_73_58 (nput_at hb (k := 52) rfl) rfl (c_rest hb _ _ (by omega) (by omega)) rfl kk) ?_
    rw [c2, c1, pk_sub c4]
    refine zev_of (fun _ kk => zr_imul (pc' := 62) zi_73_61 (by first | exact pk_mul _ _ | rfl) rfl kk) ?_
    refine zev_of (fun _ kk => zr_iload_n (pc' := 63) zi_73_62 rfl rfl kk) ?_
    refine zev_of (fun _ kk => zr_iload (pc' := 65) zi_73_63 rfl rfl kk) ?_
    refine zev_of (fun _ kk => zr_isub (pc' := 66) zi_73_65 (by first | exact pk_sub (by omega) | rfl) rfl kk) ?_
    refine zev_of (fun _ kk => zr_s2 (pc' := 69) zi_73_66 rfl hqB rfl kk) ?_
    refine zev_of (fun _ kk => zr_isub (pc' := 70) zi_73_69 (by first | exact pk_sub (by omega) | rfl) rfl kk) ?_
    refine zev_of (fun _ kk => zr_istore (pc' := 72) zi_73_70 (Nat.le_of_ble_eq_true rfl) rfl rfl kk) ?_
    dsimp only [zst1, zst2, zkill, List.set, List.getElem?_cons_succ, List.getElem?_cons_zero]
    refine zev_of (fun _ kk => zr_aload_n (pc' := 73) zi_73_72 rfl rfl kk) ?_
    refine zev_of (fun _ kk => zr_get (pc' := 76) zi_73_73 (nput_at hb (k := 52) rfl) rfl rfl kk) ?_
    refine zev_of (fun _ kk => zr_iload_n (pc' := 77) zi_73_76 rfl rfl kk) ?_
    refine zev_of (fun _ kk => zr_iload (pc' := 79) zi_73_77 rfl rfl kk) ?_
    refine zev_of (fun _ kk => zr_s2 (pc' := 82) zi_73_79 rfl (c_pairN _ _) rfl kk) ?_
    refine zev_of (fun _ kk => zr_iload (pc' := 84) zi_73_82 rfl rfl kk) ?_
    refine zev_of (fun _ kk => zr_rputN (pc' := 87) (rr := 28) (by omega) zi_73_84 hb rfl rfl (fun _ => rfl) (by decide) (by decide) rfl rfl kk) ?_
    refine zev_of (fun _ kk => zr_iload (pc' := 89) zi_73_87 rfl rfl kk) ?_
    refine zev_of (fun _ kk => zr_iload_n (pc' := 90) zi_73_89 rfl rfl kk) ?_
    refine zv_icmp (pc' := 93) zi_73_90 rfl (fun h90 => ?_) (fun h90 => ?_)
    · replace h90 := zc_eq_t h90
      refine zev_of (fun _ kk => zr_iinc (pc' := 110) zi_73_107 rfl (by first | exact n_inc _ | rfl) rfl rfl kk) ?_
      dsimp only [zst1, zst2, zkill, List.set, List.getElem?_cons_succ, List.getElem?_cons_zero]
      refine zev_of (fun _ kk => zr_goto zi_73_110 kk) ?_
      exact l_rankC hb T m e o hh al hT hm he F0 h0 k (c + 1) (by omega) _ (zonE_tr hF (hF1 _)) N R sv (zrk_skip q _) _
    · replace h90 := zc_eq_f h90
      refine zev_of (fun _ kk => zr_iload (pc' := 95) zi_73_93 rfl rfl kk) ?_
      refine zv_if (pc' := 98) zi_73_95 rfl (fun h95 => ?_) (fun h95 => ?_)
      · replace h95 := zx_le_t h95
        refine zev_of (fun _ kk => zr_iinc (pc' := 110) zi_73_107 rfl (by first | exact n_inc _ | rfl) rfl rfl kk) ?_
        dsimp only [zst1, zst2, zkill, List.set, List.getElem?_cons_succ, List.getElem?_cons_zero]
        refine zev_of (fun _ kk => zr_goto zi_73_110 kk) ?_
        exact l_rankC hb T m e o hh al hT hm he F0 h0 k (c + 1) (by omega) _ (zonE_tr hF (hF1 _)) N R sv (zrk_skip q _) _
      · replace h95 := zx_le_f h95
        refine zev_of (fun _ kk => zr_aload_n (pc' := 99) zi_73_98 rfl rfl kk) ?_
        refine zev_of (fun _ kk => zr_iload_n (pc' := 100) zi_73_99 rfl rfl kk) ?_
        refine zev_of (fun _ kk => zr_iload (pc' := 102) zi_73_100 rfl rfl kk) ?_
        refine zev_of (fun _ kk => zr_iload (pc' := 104) zi_73_102 rfl rfl kk) ?_
        have hBA : B < A := by
          refine Nat.lt_of_not_le fun w => h95 ?_
          rcases Nat.lt_or_ge A B with v | v
          · exact Int32.le_of_lt (pk_sneg (by omega) v)
          · rw [show A = B by omega, Int32.sub_self]
            exact Int32.le_refl _
        have hce : c ≠ e := fun w => h90 (by rw [w])
        obtain ⟨q1, q2, q3, q4⟩ := q
        obtain ⟨F2, g2, ⟨⟨pl, hpl⟩, hg2⟩, hcl⟩ := c_enterC hb (updR F 28 (upd (F 28) (e * 20 + c) (nI (A - B)))) g e c N (A - B) R sv (by omega) (by omega) (by omega) q1 (fun p hp => (q3 p hp).1) (fun p hp => by
          obtain ⟨k1, k2, k3, k4, k5⟩ := q3 p hp
          exact ⟨by omega, (pk_un (by omega)).trans k4, k5.2.1⟩)
        subst hg2
        rw [pk_sub (Nat.le_of_lt hBA)]
        refine zev_of (fun _ kk => zr_n3 (pc' := 107) zi_73_104 (nput_at hb (k := 52) rfl) rfl hcl rfl kk) ?_
        refine zev_of (fun _ kk => zr_iinc (pc' := 110) zi_73_107 rfl (by first | exact n_inc _ | rfl) rfl rfl kk) ?_
        dsimp only [zst1, zst2, zkill, List.set, List.getElem?_cons_succ, List.getElem?_cons_zero]
        refine zev_of (fun _ kk => zr_goto zi_73_110 kk) ?_
        obtain ⟨R', sv', hz⟩ := zrk_enter ⟨q1, q2, q3, q4⟩ hpl hce (by omega) (by omega) (hA0 (by omega))
        refine l_rankC hb T m e o hh al hT hm he F0 h0 k (c + 1) (by omega) F2 (zonE_tr hF (zonE_tr (hF1 _) ⟨fun r h1 h2 h3 => hpl.1 r h2 h3, fun x hx => ⟨hpl.2.1 x hx, by rw [hpl.1 _ (by decide) (by decide)]⟩, fun x hx => hpl.2.2.1 x hx⟩)) (N + 1) R' sv' hz _
termination_by T - c
theorem l_rankCauses (hb : b + 71 ≤ h.length) (g : Nat → Nat) (T m : Nat) (hT : T ≤ 20) (hm : m ≤ 70) (o : Nat → Nat) (hh : Nat → Nat → Nat) (al : Nat → Nat) (e : Nat) (he : e ≤ T) (F : Nat → Nat → Int32) (h0 : ∀ u, u < T → zta2 F m T u (o u) (hh u) al) (q : ∀ u, u < e → ∃ N R sv, zrk F (hh u) u T N R sv) (X Y Z : Option Value) : zev 73 2 [some (.ref (b + 52)), some (.int (nI T)), some (.int (nI m)), some (.int (nI e)), X, Y, Z] [] (nput b F g h) (zQn b h fun F' g' => ((∀ r, r ≠ 28 → r ≠ 29 → r ≠ 30 → F' r = F r) ∧ ∀ u, u < T → ∃ N R sv, zrk F' (hh u) u T N R sv) ∧ g' = g) := by
  refine zev_of (fun _ kk => zr_iload_n (pc' := 3) zi_73_2 rfl rfl kk) ?_
  refine zev_of (fun _ kk => zr_iload_n (pc' := 4) zi_73_3 rfl rfl kk) ?_
  refine zv_icmp (pc' := 7) zi_73_4 rfl (fun h4 => ?_) (fun h4 => ?_)
  · replace h4 := zc_ge_t (by omega) (by omega) h4
    refine zev_ret (zr_return zi_73_119 rfl) ?_
    have e2 : e = T := by omega
    exact ⟨_, _, ⟨⟨fun _ _ _ _ => rfl, e2 ▸ q⟩, rfl⟩, rfl⟩
  · replace h4 := zc_ge_f (by omega) (by omega) h4
    refine zev_of (fun _ kk => zr_aload_n (pc' := 8) zi_73_7 rfl rfl kk) ?_
    refine zev_of (fun _ kk => zr_get (pc' := 11) zi_73_8 (nput_at hb (k := 52) rfl) rfl rfl kk) ?_
    refine zev_of (fun _ kk => zr_iload_n (pc' := 12) zi_73_11 rfl rfl kk) ?_
    refine zev_of (fun _ kk => zr_atN (pc' := 15) (by omega) zi_73_12 hb rfl rfl (by decide) rfl rfl kk) ?_
    rw [(h0 e (by omega)).1]
    refine zev_of (fun _ kk => zr_istore (pc' := 17) zi_73_15 (Nat.le_of_ble_eq_true rfl) rfl rfl kk) ?_
    dsimp only [zst1, zst2, zkill, List.set, List.getElem?_cons_succ, List.getElem?_cons_zero]
    refine zev_of (fun _ kk => zr_aload_n (pc' := 18) zi_73_17 rfl rfl kk) ?_
    refine zev_of (fun _ kk => zr_get (pc' := 21) zi_73_18 (nput_at hb (k := 52) rfl) rfl rfl kk) ?_
    refine zev_of (fun _ kk => zr_iload_n (pc' := 22) zi_73_21 rfl rfl kk) ?_
    refine zev_of (fun _ kk => zr_iconst (v := (nI 0)) (pc' := 23) zi_73_22 rfl rfl kk) ?_
    refine zev_of (fun _ kk => zr_rputN (pc' := 26) (rr := 30) (by omega) zi_73_23 hb rfl rfl (fun _ => rfl) (by decide) (by decide) rfl rfl kk) ?_
    refine zev_of (fun _ kk => zr_iconst (v := (nI 0)) (pc' := 27) zi_73_26 rfl rfl kk) ?_
    refine zev_of (fun _ kk => zr_istore (pc' := 29) zi_73_27 (Nat.le_of_ble_eq_true rfl) rfl rfl kk) ?_
    dsimp only [zst1, zst2, zkill, List.set, List.getElem?_cons_succ, List.getElem?_cons_zero]
    have hw : zonE F (updR F 30 (upd (F 30) e (nI 0))) e := ⟨fun r h1 h2 h3 => updR_ne h3, fun x hx => ⟨rfl, rfl⟩, fun x hx => pk_un hx⟩
    refine l_rankC hb T m e (o e) (hh e) al hT hm (by omega) _ (zta2_of (h0 e (by omega)) hw) (fun F1 X Y h1 h2 => ?_) 0 (Nat.zero_le _) _ ⟨fun _ _ _ _ => rfl, fun _ _ => ⟨rfl, rfl⟩, fun _ _ => rfl⟩ 0 (fun _ => 0) (fun _ => 0) ⟨pk_us, Nat.le_refl _, fun p hp => absurd hp (Nat.not_lt_zero _), fun p hp => absurd hp (Nat.not_lt_zero _)⟩ _
    refine zev_of (fun _ kk => zr_iinc (pc' := 116) zi_73_113 rfl (by first | exact n_inc _ | rfl) rfl rfl kk) ?_
    dsimp only [zst1, zst2, zkill, List.set, List.getElem?_cons_succ, List.getElem?_cons_zero]
    refine zev_of (fun _ kk => zr_goto zi_73_116 kk) ?_
    have h3 := zonE_tr hw h1
    refine zev_mono (l_rankCauses hb g T m hT hm o hh al (e + 1) (by omega) F1 (fun u hu => zta2_of (h0 u hu) h3) (fun u hu => ?_) _ _ _) ?_
    · rcases Nat.lt_or_ge u e with v | v
      · obtain ⟨N, R, sv, z⟩ := q u v
        exact ⟨N, R, sv, zrk_of z hT (by omega) h3⟩
      · rw [show u = e by omega]
        exact h2
    · rintro p ⟨F', g', ⟨⟨k1, k2⟩, k3⟩, rfl⟩
      exact ⟨F', g', ⟨⟨fun r h4 h5 h6 => (k1 r h4 h5 h6).trans (h3.1 r h4 h5 h6), k2⟩, k3⟩, rfl⟩
termination_by T - e
theorem c_rankCauses (hb : b + 71 ≤ h.length) (F : Nat → Nat → Int32) (g : Nat → Nat) (T m : Nat) (hT : T ≤ 20) (hm : m ≤ 70) (o : Nat → Nat) (hh : Nat → Nat → Nat) (al : Nat → Nat) (h0 : ∀ u, u < T → zta2 F m T u (o u) (hh u) al) : ∃ F' g', (((∀ r, r ≠ 28 → r ≠ 29 → r ≠ 30 → F' r = F r) ∧ ∀ u, u < T → ∃ N R sv, zrk F' (hh u) u T N R sv) ∧ g' = g) ∧ zcalls zTB 73 [.ref (b + 52), .int (nI T), .int (nI m)] (nput b F g h) (none, nput b F' g' h) := by
  refine zQn_out (zev_calls (Nat.le_of_ble_eq_true rfl) ?_)
  show zev 73 0 [some (.ref (b + 52)), some (.int (nI T)), some (.int (nI m)), none, none, none, none] [] _ _
  refine zev_of (fun _ kk => zr_iconst (v := (nI 0)) (pc' := 1) zi_73_0 rfl rfl kk) ?_
  refine zev_of (fun _ kk => zr_istore_n (pc' := 2) zi_73_1 (Nat.le_of_ble_eq_true rfl) rfl rfl kk) ?_
  dsimp only [zst1, zst2, zkill, List.set, List.getElem?_cons_succ, List.getElem?_cons_zero]
  exact l_rankCauses hb g T m hT hm o hh al 0 (Nat.zero_le _) F h0 (fun u hu => absurd hu (Nat.not_lt_zero _)) none none none
end
end
section
theorem zi_21_0 : zI 21 0 = some (.aload_n 0, []) := by decide +kernel
theorem zi_21_1 : zI 21 1 = some (.getfield 12, [6, 0, 34]) := by decide +kernel
theorem zi_21_4 : zI 21 4 = some (.aload_n 0, []) := by decide +kernel
theorem zi_21_5 : zI 21 5 = some (.getfield 19, [6, 1, 13]) := by decide +kernel
theorem zi_21_8 : zI 21 8 = some (.invokevirtual 337, [64, 0, 1, 0, 51, 52, 53, 50, 0, 49]) := by decide +kernel
theorem zi_21_11 : zI 21 11 = some (.aload_n 0, []) := by decide +kernel
theorem zi_21_12 : zI 21 12 = some (.getfield 29, [6, 3, 54]) := by decide +kernel
theorem zi_21_15 : zI 21 15 = some (.aload_n 0, []) := by decide +kernel
theorem zi_21_16 : zI 21 16 = some (.getfield 12, [6, 0, 34]) := by decide +kernel
theorem zi_21_19 : zI 21 19 = some (.aload_n 0, []) := by decide +kernel
theorem zi_21_20 : zI 21 20 = some (.getfield 52, [6, 6, 55]) := by decide +kernel
theorem zi_21_23 : zI 21 23 = some (.iconst 1, []) := by decide +kernel
theorem zi_21_24 : zI 21 24 = some (.invokevirtual 83, [0, 0, 1, 1, 10, 11, 12, 9, 0, 56]) := by decide +kernel
theorem zi_21_27 : zI 21 27 = some (.invokevirtual 341, [78, 0, 2, 3, 59, 60, 61, 58, 0, 57]) := by decide +kernel
theorem zi_21_30 : zI 21 30 = some (.aload_n 0, []) := by decide +kernel
theorem zi_21_31 : zI 21 31 = some (.getfield 29, [6, 3, 54]) := by decide +kernel
theorem zi_21_34 : zI 21 34 = some (.aload_n 0, []) := by decide +kernel
theorem zi_21_35 : zI 21 35 = some (.getfield 12, [6, 0, 34]) := by decide +kernel
theorem zi_21_38 : zI 21 38 = some (.invokevirtual 345, [81, 0, 1, 3, 64, 65, 61, 63, 0, 62]) := by decide +kernel
theorem zi_21_41 : zI 21 41 = some (.aload_n 0, []) := by decide +kernel
theorem zi_21_42 : zI 21 42 = some (.getfield 36, [6, 4, 66]) := by decide +kernel
theorem zi_21_45 : zI 21 45 = some (.aload_n 0, []) := by decide +kernel
theorem zi_21_46 : zI 21 46 = some (.getfield 12, [6, 0, 34]) := by decide +kernel
theorem zi_21_49 : zI 21 49 = some (.aload_n 0, []) := by decide +kernel
theorem zi_21_50 : zI 21 50 = some (.getfield 19, [6, 1, 13]) := by decide +kernel
theorem zi_21_53 : zI 21 53 = some (.getfield 126, [5, 2, 14]) := by decide +kernel
theorem zi_21_56 : zI 21 56 = some (.aload_n 0, []) := by decide +kernel
theorem zi_21_57 : zI 21 57 = some (.getfield 52, [6, 6, 55]) := by decide +kernel
theorem zi_21_60 : zI 21 60 = some (.iconst 2, []) := by decide +kernel
theorem zi_21_61 : zI 21 61 = some (.invokevirtual 83, [0, 0, 1, 1, 10, 11, 12, 9, 0, 56]) := by decide +kernel
theorem zi_21_64 : zI 21 64 = some (.invokevirtual 349, [89, 0, 3, 4, 69, 70, 71, 68, 0, 67]) := by decide +kernel
theorem zi_21_67 : zI 21 67 = some (.aload_n 0, []) := by decide +kernel
theorem zi_21_68 : zI 21 68 = some (.getfield 43, [6, 5, 72]) := by decide +kernel
theorem zi_21_71 : zI 21 71 = some (.aload_n 0, []) := by decide +kernel
theorem zi_21_72 : zI 21 72 = some (.getfield 12, [6, 0, 34]) := by decide +kernel
theorem zi_21_75 : zI 21 75 = some (.aload_n 0, []) := by decide +kernel
theorem zi_21_76 : zI 21 76 = some (.getfield 52, [6, 6, 55]) := by decide +kernel
theorem zi_21_79 : zI 21 79 = some (.iconst 3, []) := by decide +kernel
theorem zi_21_80 : zI 21 80 = some (.invokevirtual 83, [0, 0, 1, 1, 10, 11, 12, 9, 0, 56]) := by decide +kernel
theorem zi_21_83 : zI 21 83 = some (.invokevirtual 352, [71, 0, 2, 2, 75, 76, 47, 74, 0, 73]) := by decide +kernel
theorem zi_21_86 : zI 21 86 = some (.aload_n 0, []) := by decide +kernel
theorem zi_21_87 : zI 21 87 = some (.getfield 43, [6, 5, 72]) := by decide +kernel
theorem zi_21_90 : zI 21 90 = some (.aload_n 0, []) := by decide +kernel
theorem zi_21_91 : zI 21 91 = some (.getfield 12, [6, 0, 34]) := by decide +kernel
theorem zi_21_94 : zI 21 94 = some (.aload_n 0, []) := by decide +kernel
theorem zi_21_95 : zI 21 95 = some (.getfield 19, [6, 1, 13]) := by decide +kernel
theorem zi_21_98 : zI 21 98 = some (.getfield 126, [5, 2, 14]) := by decide +kernel
theorem zi_21_101 : zI 21 101 = some (.invokevirtual 355, [72, 0, 2, 2, 79, 80, 47, 78, 0, 77]) := by decide +kernel
theorem zi_21_104 : zI 21 104 = some (.aload_n 0, []) := by decide +kernel
theorem zi_21_105 : zI 21 105 = some (.getfield 43, [6, 5, 72]) := by decide +kernel
theorem zi_21_108 : zI 21 108 = some (.aload_n 0, []) := by decide +kernel
theorem zi_21_109 : zI 21 109 = some (.getfield 19, [6, 1, 13]) := by decide +kernel
theorem zi_21_112 : zI 21 112 = some (.getfield 126, [5, 2, 14]) := by decide +kernel
theorem zi_21_115 : zI 21 115 = some (.aload_n 0, []) := by decide +kernel
theorem zi_21_116 : zI 21 116 = some (.getfield 12, [6, 0, 34]) := by decide +kernel
theorem zi_21_119 : zI 21 119 = some (.getfield 101, [0, 8, 81]) := by decide +kernel
theorem zi_21_122 : zI 21 122 = some (.invokevirtual 358, [73, 0, 2, 2, 84, 85, 47, 83, 0, 82]) := by decide +kernel
theorem zi_21_125 : zI 21 125 = some (.return_, []) := by decide +kernel
/-! a Nightjar at rest -/
def zNb (F : Nat → Nat → Int32) (g : Nat → Nat) (x : Nat → Nat) (sh gp wi bk : Nat) : Prop :=
  (g 0 ≤ 70) ∧
  (g 1 ≤ g 0) ∧
  (g 2 ≤ 20) ∧
  (∀ i, i < g 0 → F 0 i = nI (x i) ∧ x i ≤ 9999) ∧
  (∀ i j, i ≤ j → j < g 0 → x i ≤ x j) ∧
  (∀ i, i < g 0 → ∃ c, c ≤ 8 ∧ F 3 i = nI c) ∧
  (∀ i, i < g 0 → ∀ c, c ≤ 8 → F 3 i = nI c → ∀ p, p < c → ∃ w, w ≤ 999 ∧ F 4 (i * 8 + p) = nI w) ∧
  (∀ t, t < g 2 → ∃ a, a ≤ 8 ∧ F 7 t = nI a) ∧
  (∀ i, g 1 ≤ i → i < g 0 → F 5 i = -1) ∧
  (∀ i, i < g 1 → F 5 i = -1 ∨ ∃ t a, t < g 2 ∧ F 5 i = nI t ∧ a ≤ 8 ∧ F 3 i = nI a ∧ F 7 t = nI a ∧ ∀ p, p < a → F 8 (t * 8 + p) = -1 ∨ F 8 (t * 8 + p) = F 4 (i * 8 + p)) ∧
  (F 31 0 = nI sh ∧ sh ≤ 100) ∧
  (F 31 1 = nI gp ∧ gp ≤ 1000) ∧
  (F 31 2 = nI wi ∧ 0 < wi ∧ wi ≤ 1000) ∧
  (F 31 3 = nI bk ∧ bk ≤ 1000)
theorem zNb.n70 {F : Nat → Nat → Int32} {g : Nat → Nat} {x : Nat → Nat} {sh gp wi bk : Nat} (q : zNb F g x sh gp wi bk) : g 0 ≤ 70 := q.1
theorem zNb.mn {F : Nat → Nat → Int32} {g : Nat → Nat} {x : Nat → Nat} {sh gp wi bk : Nat} (q : zNb F g x sh gp wi bk) : g 1 ≤ g 0 := q.2.1
theorem zNb.t20 {F : Nat → Nat → Int32} {g : Nat → Nat} {x : Nat → Nat} {sh gp wi bk : Nat} (q : zNb F g x sh gp wi bk) : g 2 ≤ 20 := q.2.2.1
theorem zNb.tm {F : Nat → Nat → Int32} {g : Nat → Nat} {x : Nat → Nat} {sh gp wi bk : Nat} (q : zNb F g x sh gp wi bk) : ∀ i, i < g 0 → F 0 i = nI (x i) ∧ x i ≤ 9999 := q.2.2.2.1
theorem zNb.mo {F : Nat → Nat → Int32} {g : Nat → Nat} {x : Nat → Nat} {sh gp wi bk : Nat} (q : zNb F g x sh gp wi bk) : ∀ i j, i ≤ j → j < g 0 → x i ≤ x j := q.2.2.2.2.1
theorem zNb.sz {F : Nat → Nat → Int32} {g : Nat → Nat} {x : Nat → Nat} {sh gp wi bk : Nat} (q : zNb F g x sh gp wi bk) : ∀ i, i < g 0 → ∃ c, c ≤ 8 ∧ F 3 i = nI c := q.2.2.2.2.2.1
theorem zNb.wd {F : Nat → Nat → Int32} {g : Nat → Nat} {x : Nat → Nat} {sh gp wi bk : Nat} (q : zNb F g x sh gp wi bk) : ∀ i, i < g 0 → ∀ c, c ≤ 8 → F 3 i = nI c → ∀ p, p < c → ∃ w, w ≤ 999 ∧ F 4 (i * 8 + p) = nI w := q.2.2.2.2.2.2.1
theorem zNb.ts {F : Nat → Nat → Int32} {g : Nat → Nat} {x : Nat → Nat} {sh gp wi bk : Nat} (q : zNb F g x sh gp wi bk) : ∀ t, t < g 2 → ∃ a, a ≤ 8 ∧ F 7 t = nI a := q.2.2.2.2.2.2.2.1
theorem zNb.o1 {F : Nat → Nat → Int32} {g : Nat → Nat} {x : Nat → Nat} {sh gp wi bk : Nat} (q : zNb F g x sh gp wi bk) : ∀ i, g 1 ≤ i → i < g 0 → F 5 i = -1 := q.2.2.2.2.2.2.2.2.1
theorem zNb.o2 {F : Nat → Nat → Int32} {g : Nat → Nat} {x : Nat → Nat} {sh gp wi bk : Nat} (q : zNb F g x sh gp wi bk) : ∀ i, i < g 1 → F 5 i = -1 ∨ ∃ t a, t < g 2 ∧ F 5 i = nI t ∧ a ≤ 8 ∧ F 3 i = nI a ∧ F 7 t = nI a ∧ ∀ p, p < a → F 8 (t * 8 + p) = -1 ∨ F 8 (t * 8 + p) = F 4 (i * 8 + p) := q.2.2.2.2.2.2.2.2.2.1
theorem zNb.s0 {F : Nat → Nat → Int32} {g : Nat → Nat} {x : Nat → Nat} {sh gp wi bk : Nat} (q : zNb F g x sh gp wi bk) : F 31 0 = nI sh ∧ sh ≤ 100 := q.2.2.2.2.2.2.2.2.2.2.1
theorem zNb.s1 {F : Nat → Nat → Int32} {g : Nat → Nat} {x : Nat → Nat} {sh gp wi bk : Nat} (q : zNb F g x sh gp wi bk) : F 31 1 = nI gp ∧ gp ≤ 1000 := q.2.2.2.2.2.2.2.2.2.2.2.1
theorem zNb.s2 {F : Nat → Nat → Int32} {g : Nat → Nat} {x : Nat → Nat} {sh gp wi bk : Nat} (q : zNb F g x sh gp wi bk) : F 31 2 = nI wi ∧ 0 < wi ∧ wi ≤ 1000 := q.2.2.2.2.2.2.2.2.2.2.2.2.1
theorem zNb.s3 {F : Nat → Nat → Int32} {g : Nat → Nat} {x : Nat → Nat} {sh gp wi bk : Nat} (q : zNb F g x sh gp wi bk) : F 31 3 = nI bk ∧ bk ≤ 1000 := q.2.2.2.2.2.2.2.2.2.2.2.2.2
/-- rows that are given, not told -/
def zbr (r : Nat) : Bool := Nat.blt r 6 || r == 7 || r == 8 || r == 31
theorem zNb_of {F F' : Nat → Nat → Int32} {g g' : Nat → Nat} {x : Nat → Nat} {sh gp wi bk : Nat} (q : zNb F g x sh gp wi bk) (hF : ∀ r, zbr r = true → F' r = F r) (h0 : g' 0 = g 0) (h1 : g' 1 = g 1) (h2 : g' 2 = g 2) : zNb F' g' x sh gp wi bk := by
  unfold zNb
  rw [h0, h1, h2, hF 0 rfl, hF 3 rfl, hF 4 rfl, hF 5 rfl, hF 7 rfl, hF 8 rfl, hF 31 rfl]
  exact q
theorem zNb.ok {F : Nat → Nat → Int32} {g : Nat → Nat} {x : Nat → Nat} {sh gp wi bk : Nat} (q : zNb F g x sh gp wi bk) (i : Nat) (hi : i < g 0) : F 5 i = -1 ∨ ∃ t a, t < 20 ∧ F 5 i = nI t ∧ F 7 t = nI a ∧ a ≤ 8 := by
  rcases Nat.lt_or_ge i (g 1) with h | h
  · rcases q.o2 i h with e | ⟨t, a, h1, h2, h3, h4, h5, _⟩
    · exact .inl e
    · exact .inr ⟨t, a, Nat.lt_of_lt_of_le h1 q.t20, h2, h5, h3⟩
  · exact .inl (q.o1 i h hi)
theorem zNb.ot {F : Nat → Nat → Int32} {g : Nat → Nat} {x : Nat → Nat} {sh gp wi bk : Nat} (q : zNb F g x sh gp wi bk) (i : Nat) (hi : i < g 1) : F 5 i = -1 ∨ ∃ t, t < g 2 ∧ F 5 i = nI t := by
  rcases q.o2 i hi with e | ⟨t, a, h1, h2, _⟩
  · exact .inl e
  · exact .inr ⟨t, h1, h2⟩
theorem zses_of {F F' : Nat → Nat → Int32} {S : Nat} {gap : Int32} {i : Nat} {C : Nat → Nat → Nat} {Z : Nat → Nat} (q : zses F S gap i C Z) (e0 : F' 0 = F 0) (e6 : F' 6 = F 6) (e11 : F' 11 = F 11) (e12 : F' 12 = F 12) (e13 : F' 13 = F 13) (e14 : F' 14 = F 14) (e15 : F' 15 = F 15) (e16 : F' 16 = F 16) : zses F' S gap i C Z := by
  unfold zses
  rw [zkp_of e6, zbg_of e6 e0, e0, e6, e11, e12, e13, e14, e15, e16]
  exact q
def zTo (F : Nat → Nat → Int32) (g : Nat → Nat) (x : Nat → Nat) (wi : Nat) : Prop :=
  (∀ i, i < g 0 → zkey F i (F 6 i)) ∧
  (∃ C Z, zses F (g 4) (F 31 1) (g 0) C Z) ∧
  (zpth F (g 4)) ∧
  (∃ vv, g 5 ≤ 23 ∧ (∀ k, k + 1 < g 5 → vv k ≤ vv (k + 1)) ∧ zspk F (g 1) (g 2) (fun j => x j / wi) vv (g 5)) ∧
  (∀ l, l < g 0 → ∃ c, c ≤ l ∧ F 23 l = nI c) ∧
  (ztl F (F 24) (F 5) (g 2) (g 1)) ∧
  (∀ u, u < g 2 → ∃ N R sv, zrk F (fun c => zcnt (zD (F 24) (F 5) u c) (g 1)) u (g 2) N R sv)
theorem zTo.ky {F : Nat → Nat → Int32} {g : Nat → Nat} {x : Nat → Nat} {wi : Nat} (q : zTo F g x wi) : ∀ i, i < g 0 → zkey F i (F 6 i) := q.1
theorem zTo.se {F : Nat → Nat → Int32} {g : Nat → Nat} {x : Nat → Nat} {wi : Nat} (q : zTo F g x wi) : ∃ C Z, zses F (g 4) (F 31 1) (g 0) C Z := q.2.1
theorem zTo.pa {F : Nat → Nat → Int32} {g : Nat → Nat} {x : Nat → Nat} {wi : Nat} (q : zTo F g x wi) : zpth F (g 4) := q.2.2.1
theorem zTo.sp {F : Nat → Nat → Int32} {g : Nat → Nat} {x : Nat → Nat} {wi : Nat} (q : zTo F g x wi) : ∃ vv, g 5 ≤ 23 ∧ (∀ k, k + 1 < g 5 → vv k ≤ vv (k + 1)) ∧ zspk F (g 1) (g 2) (fun j => x j / wi) vv (g 5) := q.2.2.2.1
theorem zTo.sc {F : Nat → Nat → Int32} {g : Nat → Nat} {x : Nat → Nat} {wi : Nat} (q : zTo F g x wi) : ∀ l, l < g 0 → ∃ c, c ≤ l ∧ F 23 l = nI c := q.2.2.2.2.1
theorem zTo.ta {F : Nat → Nat → Int32} {g : Nat → Nat} {x : Nat → Nat} {wi : Nat} (q : zTo F g x wi) : ztl F (F 24) (F 5) (g 2) (g 1) := q.2.2.2.2.2.1
theorem zTo.rk {F : Nat → Nat → Int32} {g : Nat → Nat} {x : Nat → Nat} {wi : Nat} (q : zTo F g x wi) : ∀ u, u < g 2 → ∃ N R sv, zrk F (fun c => zcnt (zD (F 24) (F 5) u c) (g 1)) u (g 2) N R sv := q.2.2.2.2.2.2
theorem zcnt_add {p q r : Nat → Bool} : ∀ {n : Nat}, (∀ j, j < n → (if q j then 1 else 0) + (if r j then 1 else 0) = (if p j then 1 else 0 : Nat)) → zcnt q n + zcnt r n = zcnt p n
  | 0, _ => rfl
  | n + 1, h => by
    have ih := zcnt_add (n := n) fun j hj => h j (by omega)
    have := h n (by omega)
    simp only [zcnt]
    omega
theorem zcnt_not (p : Nat → Bool) : ∀ n, zcnt p n + zcnt (fun j => !p j) n = n
  | 0 => rfl
  | n + 1 => by
    have ih := zcnt_not p n
    simp only [zcnt]
    by_cases hp : p n = true
    · rw [if_pos hp, if_neg (by simp [hp])]
      omega
    · rw [if_neg hp, if_pos (by simpa using hp)]
      omega
section
variable {b : Nat} {h : zH}
theorem c_recompute (hb : b + 71 ≤ h.length) (F : Nat → Nat → Int32) (g : Nat → Nat) (x : Nat → Nat) (sh gp wi bk : Nat) (q : zNb F g x sh gp wi bk) : ∃ F' g', ((∀ r, zbr r = true → F' r = F r) ∧ (∀ k, k < 3 → g' k = g k) ∧ zTo F' g' x wi) ∧ zcalls zTB 21 [.ref b] (nput b F g h) (none, nput b F' g' h) := by
  have hn := q.n70
  have hm := q.mn
  have hT := q.t20
  obtain ⟨F1, g1, ⟨⟨a1, a2⟩, rfl⟩, ca⟩ := c_findKeys hb F g hn q.ok
  obtain ⟨F2, g2, ⟨b1, S, C, Z, rfl, b2⟩, cb⟩ := c_find hb F1 g1 (F1 31 1) hn
  have hS : S ≤ 70 := Nat.le_trans b2.le hn
  obtain ⟨F3, g3, ⟨⟨d1, d2⟩, rfl⟩, cd⟩ := c_comparePaths hb F2 (updG g1 4 S) hS (fun s hs => ⟨Z s, Nat.le_trans (b2.sz s hs).2.1 hn, (b2.sz s hs).2.2.2.2.1⟩)
  have r03 : ∀ r, zbr r = true → F3 r = F r := by
    intro r hr
    have h1 : r ≠ 17 := fun e => by rw [e] at hr; exact absurd hr (by decide)
    have h2 : r ≠ 18 := fun e => by rw [e] at hr; exact absurd hr (by decide)
    have h3 : r < 11 ∨ 16 < r := by
      refine Nat.lt_or_ge r 11 |>.imp_right fun w => Nat.lt_of_not_le fun v => ?_
      have hh : ∀ r, r < 17 → 11 ≤ r → zbr r = false := by decide
      rw [hh r (by omega) w] at hr
      cases hr
    have h4 : r ≠ 6 := fun e => by rw [e] at hr; exact absurd hr (by decide)
    exact (d1 r h1 h2).trans ((b1 r h3).trans (a1 r h4))
  have q3 : zNb F3 (updG g1 4 S) x sh gp wi bk := zNb_of q r03 rfl rfl rfl
  obtain ⟨F4, g4, ⟨e1, P, vv, e2, rfl, e3, e4⟩, ce⟩ := c_findS hb F3 (updG g1 4 S) (g1 2) wi x (by exact Nat.le_trans hm hn) hT ⟨q.s2.2.1, by have := q.s2.2.2; omega⟩ (fun j hj => ⟨(q3.tm j (Nat.lt_of_lt_of_le hj hm)).1, by have := (q3.tm j (Nat.lt_of_lt_of_le hj hm)).2; omega⟩) (fun j k h1 h2 => q3.mo j k h1 (Nat.lt_of_lt_of_le h2 hm)) (fun j hj => q3.ot j hj)
  obtain ⟨F5, g5, ⟨⟨i1, i2⟩, rfl⟩, ci⟩ := c_look hb F4 (updG (updG g1 4 S) 5 P) (F4 31 3) hn (by exact Nat.le_trans hm hn)
  have r05 : ∀ r, zbr r = true → F5 r = F r := by
    intro r hr
    have h1 : r ≠ 23 := fun e => by rw [e] at hr; exact absurd hr (by decide)
    have h2 : r ≠ 24 := fun e => by rw [e] at hr; exact absurd hr (by decide)
    have h3 : r < 19 ∨ 22 < r := by
      refine Nat.lt_or_ge r 19 |>.imp_right fun w => Nat.lt_of_not_le fun v => ?_
      have hh : ∀ r, r < 23 → 19 ≤ r → zbr r = false := by decide
      rw [hh r (by omega) w] at hr
      cases hr
    exact (i1 r h1 h2).trans ((e1 r h3).trans (r03 r hr))
  have q5 : zNb F5 (updG (updG g1 4 S) 5 P) x sh gp wi bk := zNb_of q r05 rfl rfl rfl
  obtain ⟨F6, g6, ⟨⟨j1, j2⟩, rfl⟩, cj⟩ := c_tally hb F5 (updG (updG g1 4 S) 5 P) (g1 2) hT (by exact Nat.le_trans hm hn) (fun i hi => by
    rcases q5.ot i hi with e | ⟨t, h1, h2⟩
    · exact .inl e
    · exact .inr ⟨t, Nat.lt_of_lt_of_le h1 hT, h2⟩)
  have hm7 : g1 1 ≤ 70 := Nat.le_trans hm hn
  obtain ⟨F7, g7, ⟨⟨k1, k2⟩, rfl⟩, ck⟩ := c_rankCauses hb F6 (updG (updG g1 4 S) 5 P) (g1 2) (g1 1) hT hm7 (fun u => zcnt (zTm (F5 5) u) (g1 1)) (fun u c => zcnt (zD (F5 24) (F5 5) u c) (g1 1)) (fun c => zcnt (zB (F5 24) c) (g1 1)) (fun u hu => ⟨j2.2.2 u (by omega), zcnt_le _ _, fun c hc => ⟨j2.2.1 u c (by omega) hc, j2.1 c hc, zcnt_imp fun j _ w => by
      simp only [zD, zTm, decide_eq_true_eq] at w ⊢
      exact w.1, zcnt_imp fun j _ w => by
      simp only [zD, zB, decide_eq_true_eq] at w ⊢
      exact w.2, by
      have h1 := zcnt_add (p := zB (F5 24) c) (q := zD (F5 24) (F5 5) u c) (r := fun j => zB (F5 24) c j && !zTm (F5 5) u j) (n := g1 1) (fun j _ => by
        by_cases w1 : F5 5 j = nI u <;> by_cases w2 : F5 24 j &&& zbit (nI c) = 0 <;> simp [zD, zB, zTm, w1, w2])
      have h2 := zcnt_not (zTm (F5 5) u) (g1 1)
      have h3 := zcnt_imp (p := fun j => zB (F5 24) c j && !zTm (F5 5) u j) (q := fun j => !zTm (F5 5) u j) (n := g1 1) (fun j _ w => by
        simp only [Bool.and_eq_true] at w
        exact w.2)
      show zcnt (zB (F5 24) c) (g1 1) - zcnt (zD (F5 24) (F5 5) u c) (g1 1) ≤ g1 1 - zcnt (zTm (F5 5) u) (g1 1)
      omega⟩⟩)
  have z56 : ∀ r, r < 25 ∨ r = 31 → F7 r = F5 r := fun r hr => (k1 r (by omega) (by omega) (by omega)).trans (j1 r (by omega) (by omega) (by omega))
  have z35 : ∀ r, r < 19 → F7 r = F3 r := fun r hr => (z56 r (.inl (by omega))).trans ((i1 r (by omega) (by omega)).trans (e1 r (.inl hr)))
  have z12 : ∀ r, r < 11 → F7 r = F1 r := fun r hr => (z35 r (by omega)).trans ((d1 r (by omega) (by omega)).trans (b1 r (.inl hr)))
  have r07 : ∀ r, zbr r = true → F7 r = F r := by
    intro r hr
    have hh : ∀ r, r < 31 → 25 ≤ r → zbr r = false := by decide
    have h3 : r < 25 ∨ r = 31 := by
      rcases Nat.lt_or_ge r 25 with w | w
      · exact .inl w
      · refine .inr (Nat.le_antisymm (Nat.le_of_not_lt fun v => ?_) (Nat.le_of_not_lt fun v => ?_))
        · have h9 : zbr r = false := by
            unfold zbr
            have e1 : Nat.blt r 6 = false := by
              rw [← Bool.not_eq_true, Nat.blt_eq]
              omega
            have e2 : (r == 7) = false := beq_eq_false_iff_ne.mpr (by omega)
            have e3 : (r == 8) = false := beq_eq_false_iff_ne.mpr (by omega)
            have e4 : (r == 31) = false := beq_eq_false_iff_ne.mpr (by omega)
            rw [e1, e2, e3, e4]
            rfl
          rw [h9] at hr
          cases hr
        · rw [hh r v w] at hr
          cases hr
    exact (z56 r h3).trans (r05 r hr)
  refine ⟨F7, updG (updG g1 4 S) 5 P, ⟨r07, fun k hk => ?_, ?_⟩, ?_⟩
  · unfold updG
    rw [if_neg (by omega), if_neg (by omega)]
  · refine ⟨fun i hi => ?_, ⟨C, Z, ?_⟩, ?_, ⟨vv, e2, e3, fun k hk => ?_⟩, fun l hl => ?_, ?_, fun u hu => ?_⟩
    · rw [z12 _ (by decide)]
      exact zkey_of (F' := F) (r07 _ rfl).symm (r07 _ rfl).symm (r07 _ rfl).symm (r07 _ rfl).symm (a2 i hi)
    · show zses F7 S (F7 31 1) (g1 0) C Z
      have z2 : ∀ r, r < 17 → F7 r = F2 r := fun r hr => (z35 r (by omega)).trans (d1 r (by omega) (by omega))
      rw [r07 _ rfl, ← a1 31 (by decide)]
      exact zses_of b2 (z2 _ (by decide)) (z2 _ (by decide)) (z2 _ (by decide)) (z2 _ (by decide)) (z2 _ (by decide)) (z2 _ (by decide)) (z2 _ (by decide)) (z2 _ (by decide))
    · show zpth F7 S
      unfold zpth
      rw [z35 _ (by decide), z35 _ (by decide)]
      exact d2
    · have z4 : ∀ r, r < 23 → F7 r = F4 r := fun r hr => (z56 r (.inl (by omega))).trans (i1 r (by omega) (by omega))
      rw [z4 _ (by decide), z4 _ (by decide), z4 _ (by decide), z4 _ (by decide)]
      exact e4 k hk
    · rw [z56 _ (.inl (by decide))]
      exact i2 l hl
    · unfold ztl
      rw [k1 _ (by decide) (by decide) (by decide), k1 25 (by decide) (by decide) (by decide), k1 27 (by decide) (by decide) (by decide), z56 _ (.inl (by decide)), z56 5 (.inl (by decide))]
      exact j2
    · rw [z56 _ (.inl (by decide)), z56 5 (.inl (by decide))]
      exact k2 u hu
  · refine zcalls_of (Nat.le_of_ble_eq_true rfl) ?_
    show zruns zTB 21 0 [some (.ref b)] [] _ _
    refine zr_aload_n (pc' := 1) zi_21_0 rfl rfl ?_
    refine zr_get (pc' := 4) zi_21_1 (nput_at hb (k := 0) rfl) rfl rfl ?_
    refine zr_aload_n (pc' := 5) zi_21_4 rfl rfl ?_
    refine zr_get (pc' := 8) zi_21_5 (nput_at hb (k := 0) rfl) rfl rfl ?_
    refine zr_n1 (pc' := 11) zi_21_8 (nput_at hb (k := 1) rfl) rfl ca rfl ?_
    refine zr_aload_n (pc' := 12) zi_21_11 rfl rfl ?_
    refine zr_get (pc' := 15) zi_21_12 (nput_at hb (k := 0) rfl) rfl rfl ?_
    refine zr_aload_n (pc' := 16) zi_21_15 rfl rfl ?_
    refine zr_get (pc' := 19) zi_21_16 (nput_at hb (k := 0) rfl) rfl rfl ?_
    refine zr_aload_n (pc' := 20) zi_21_19 rfl rfl ?_
    refine zr_get (pc' := 23) zi_21_20 (nput_at hb (k := 0) rfl) rfl rfl ?_
    refine zr_iconst (v := (nI 1)) (pc' := 24) zi_21_23 rfl rfl ?_
    refine zr_atN (pc' := 27) (by omega) zi_21_24 hb rfl rfl (by decide) rfl rfl ?_
    refine zr_n2 (pc' := 30) zi_21_27 (nput_at hb (k := 26) rfl) rfl cb rfl ?_
    refine zr_aload_n (pc' := 31) zi_21_30 rfl rfl ?_
    refine zr_get (pc' := 34) zi_21_31 (nput_at hb (k := 0) rfl) rfl rfl ?_
    refine zr_aload_n (pc' := 35) zi_21_34 rfl rfl ?_
    refine zr_get (pc' := 38) zi_21_35 (nput_at hb (k := 0) rfl) rfl rfl ?_
    refine zr_n1 (pc' := 41) zi_21_38 (nput_at hb (k := 26) rfl) rfl cd rfl ?_
    refine zr_aload_n (pc' := 42) zi_21_41 rfl rfl ?_
    refine zr_get (pc' := 45) zi_21_42 (nput_at hb (k := 0) rfl) rfl rfl ?_
    refine zr_aload_n (pc' := 46) zi_21_45 rfl rfl ?_
    refine zr_get (pc' := 49) zi_21_46 (nput_at hb (k := 0) rfl) rfl rfl ?_
    refine zr_aload_n (pc' := 50) zi_21_49 rfl rfl ?_
    refine zr_get (pc' := 53) zi_21_50 (nput_at hb (k := 0) rfl) rfl rfl ?_
    refine zr_get (pc' := 56) zi_21_53 (nput_at hb (k := 16) rfl) rfl rfl ?_
    refine zr_aload_n (pc' := 57) zi_21_56 rfl rfl ?_
    refine zr_get (pc' := 60) zi_21_57 (nput_at hb (k := 0) rfl) rfl rfl ?_
    refine zr_iconst (v := (nI 2)) (pc' := 61) zi_21_60 rfl rfl ?_
    refine zr_atN (pc' := 64) (by omega) zi_21_61 hb rfl rfl (by decide) rfl rfl ?_
    rw [q3.s2.1]
    refine zr_n3 (pc' := 67) zi_21_64 (nput_at hb (k := 43) rfl) rfl ce rfl ?_
    refine zr_aload_n (pc' := 68) zi_21_67 rfl rfl ?_
    refine zr_get (pc' := 71) zi_21_68 (nput_at hb (k := 0) rfl) rfl rfl ?_
    refine zr_aload_n (pc' := 72) zi_21_71 rfl rfl ?_
    refine zr_get (pc' := 75) zi_21_72 (nput_at hb (k := 0) rfl) rfl rfl ?_
    refine zr_aload_n (pc' := 76) zi_21_75 rfl rfl ?_
    refine zr_get (pc' := 79) zi_21_76 (nput_at hb (k := 0) rfl) rfl rfl ?_
    refine zr_iconst (v := (nI 3)) (pc' := 80) zi_21_79 rfl rfl ?_
    refine zr_atN (pc' := 83) (by omega) zi_21_80 hb rfl rfl (by decide) rfl rfl ?_
    refine zr_n2 (pc' := 86) zi_21_83 (nput_at hb (k := 52) rfl) rfl ci rfl ?_
    refine zr_aload_n (pc' := 87) zi_21_86 rfl rfl ?_
    refine zr_get (pc' := 90) zi_21_87 (nput_at hb (k := 0) rfl) rfl rfl ?_
    refine zr_aload_n (pc' := 91) zi_21_90 rfl rfl ?_
    refine zr_get (pc' := 94) zi_21_91 (nput_at hb (k := 0) rfl) rfl rfl ?_
    refine zr_aload_n (pc' := 95) zi_21_94 rfl rfl ?_
    refine zr_get (pc' := 98) zi_21_95 (nput_at hb (k := 0) rfl) rfl rfl ?_
    refine zr_get (pc' := 101) zi_21_98 (nput_at hb (k := 16) rfl) rfl rfl ?_
    refine zr_n2 (pc' := 104) zi_21_101 (nput_at hb (k := 52) rfl) rfl cj rfl ?_
    refine zr_aload_n (pc' := 105) zi_21_104 rfl rfl ?_
    refine zr_get (pc' := 108) zi_21_105 (nput_at hb (k := 0) rfl) rfl rfl ?_
    refine zr_aload_n (pc' := 109) zi_21_108 rfl rfl ?_
    refine zr_get (pc' := 112) zi_21_109 (nput_at hb (k := 0) rfl) rfl rfl ?_
    refine zr_get (pc' := 115) zi_21_112 (nput_at hb (k := 16) rfl) rfl rfl ?_
    refine zr_aload_n (pc' := 116) zi_21_115 rfl rfl ?_
    refine zr_get (pc' := 119) zi_21_116 (nput_at hb (k := 0) rfl) rfl rfl ?_
    refine zr_get (pc' := 122) zi_21_119 (nput_at hb (k := 1) rfl) rfl rfl ?_
    refine zr_n2 (pc' := 125) zi_21_122 (nput_at hb (k := 52) rfl) rfl ck rfl ?_
    exact zr_return zi_21_125 rfl
end
end

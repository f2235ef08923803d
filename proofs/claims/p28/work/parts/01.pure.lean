/-! THE PURE MACHINE: what the bytecode does, over numbered cells, as a function. A cell: a row (kind, contents) or an object (its number in the table, its fields); a reference is the number of its cell. -/
abbrev zE : Type := (Nat × vp_A) ⊕ (Nat × List Value)
abbrev zH : Type := List zE
abbrev zL : Type := List (Option Value)
abbrev zR : Type := Option Value × zH
abbrev zS : Type := Nat × zL × List Value × zH
/-- a method: name, bytes, slots of its locals, what it answers, frames and words below it -/
abbrev zM : Type := MethodName × ByteArray × Nat × Option FieldType × Nat × Nat
abbrev zT : Type := (Nat → Nat → Option (Instr × List Nat)) × (Nat → zM)
def zget (L : zL) (i : Nat) : Option Value := match L[i]? with
  | some (some v) => some v
  | _ => none
def zkill (L : zL) (i : Nat) : zL := match i with
  | 0 => L
  | j + 1 => match L[j]? with
    | some (some (.long _)) => L.set j none
    | some (some (.double _)) => L.set j none
    | _ => L
def zst1 (L : zL) (i : Nat) (v : Value) : zL := (zkill L i).set i (some v)
def zst2 (L : zL) (i : Nat) (v : Value) : zL := ((zkill L i).set i (some v)).set (i + 1) none
def zent : List Value → zL
  | [] => []
  | .long x :: vs => some (.long x) :: none :: zent vs
  | .double x :: vs => some (.double x) :: none :: zent vs
  | v :: vs => some v :: zent vs
def zentry (n : Nat) (vs : List Value) : zL := zent vs ++ List.replicate (n - (zent vs).length) none
def zdef : List Nat → List Value
  | [] => []
  | 0 :: r => .int 0 :: zdef r
  | _ :: r => .null :: zdef r
def zdefA (t : Nat) (n : Nat) : vp_A := match t with
  | 1 => (n, .inr (.inl (fun _ => 0)))
  | 3 => (n, .inr (.inr (.inr (.inr (fun _ => none)))))
  | _ => (n, .inl (fun _ => 0))
def zsz : zE → Nat
  | .inl a => a.2.1
  | .inr o => o.2.length
def zss (h : zH) : Nat := (h.map zsz).sum
/-- which of two roads -/
def zif (c : Bool) (ax : List Nat) (pc : Nat) (L : zL) (st : List Value) (h : zH) : Option (zR ⊕ zS) := match ax with
  | t :: _ => some (.inr (bif c then t else pc + 3, L, st, h))
  | [] => none
def zcnd : Jvm.ClassFile.Cond → Int32 → Int32 → Bool
  | .eq, x, y => decide (x = y)
  | .ne, x, y => decide (x ≠ y)
  | .lt, x, y => decide (x < y)
  | .ge, x, y => decide (y ≤ x)
  | .gt, x, y => decide (y < x)
  | .le, x, y => decide (x ≤ y)
def zjump (ax : List Nat) (k : Nat) (L : zL) (st : List Value) (h : zH) : Option (zR ⊕ zS) := match ax[k]? with
  | some t => some (.inr (t, L, st, h))
  | none => none
def zgo (pc : Nat) (L : zL) (st : List Value) (h : zH) : Option (zR ⊕ zS) := some (.inr (pc, L, st, h))
def zloadI (pc i : Nat) (L : zL) (st : List Value) (h : zH) : Option (zR ⊕ zS) := match L[i]? with
  | some (some (.int x)) => zgo pc L (.int x :: st) h
  | _ => none
def zloadL (pc i : Nat) (L : zL) (st : List Value) (h : zH) : Option (zR ⊕ zS) := match L[i]? with
  | some (some (.long x)) => zgo pc L (.long x :: st) h
  | _ => none
def zloadD (pc i : Nat) (L : zL) (st : List Value) (h : zH) : Option (zR ⊕ zS) := match L[i]? with
  | some (some (.double x)) => zgo pc L (.double x :: st) h
  | _ => none
def zloadA (pc i : Nat) (L : zL) (st : List Value) (h : zH) : Option (zR ⊕ zS) := match L[i]? with
  | some (some (.ref x)) => zgo pc L (.ref x :: st) h
  | _ => none
def zstoreI (pc i : Nat) (L : zL) (st : List Value) (h : zH) : Option (zR ⊕ zS) := match st with
  | .int x :: st => if i < L.length then zgo pc (zst1 L i (.int x)) st h else none
  | _ => none
def zstoreA (pc i : Nat) (L : zL) (st : List Value) (h : zH) : Option (zR ⊕ zS) := match st with
  | .ref x :: st => if i < L.length then zgo pc (zst1 L i (.ref x)) st h else none
  | _ => none
def zstoreL (pc i : Nat) (L : zL) (st : List Value) (h : zH) : Option (zR ⊕ zS) := match st with
  | .long x :: st => if i + 1 < L.length then zgo pc (zst2 L i (.long x)) st h else none
  | _ => none
def zstoreD (pc i : Nat) (L : zL) (st : List Value) (h : zH) : Option (zR ⊕ zS) := match st with
  | .double x :: st => if i + 1 < L.length then zgo pc (zst2 L i (.double x)) st h else none
  | _ => none
def zii (pc : Nat) (f : Int32 → Int32 → Int32) (L : zL) (st : List Value) (h : zH) : Option (zR ⊕ zS) := match st with
  | .int y :: .int x :: st => zgo pc L (.int (f x y) :: st) h
  | _ => none
def zll (pc : Nat) (f : Int64 → Int64 → Int64) (L : zL) (st : List Value) (h : zH) : Option (zR ⊕ zS) := match st with
  | .long y :: .long x :: st => zgo pc L (.long (f x y) :: st) h
  | _ => none
def zget1 (pc : Nat) (ax : List Nat) (L : zL) (st : List Value) (h : zH) : Option (zR ⊕ zS) := match st, ax with
  | .ref i :: st, ci :: k :: _ => match h[i]? with
    | some (.inr (c, fs)) => if c = ci then (match fs[k]? with
      | some v => zgo pc L (v :: st) h
      | none => none) else none
    | _ => none
  | _, _ => none
/-- a value that a field of this kind takes: 0 a number, 1 a reference -/
def zfits : Nat → Value → Bool
  | 0, .int _ => true
  | 1, .ref _ => true
  | _, _ => false
def zput1 (pc : Nat) (ax : List Nat) (L : zL) (st : List Value) (h : zH) : Option (zR ⊕ zS) := match st, ax with
  | v :: .ref (i + 1) :: st, ci :: k :: kd :: _ => match h[i + 1]? with
    | some (.inr (c, fs)) => if c = ci ∧ k < fs.length ∧ zfits kd v = true then zgo pc L st (h.set (i + 1) (.inr (c, fs.set k v))) else none
    | _ => none
  | _, _ => none
def znew (pc : Nat) (ax : List Nat) (L : zL) (st : List Value) (h : zH) : Option (zR ⊕ zS) := match ax with
  | ci :: _ :: _ :: _ :: ds => zgo pc L (.ref h.length :: st) (h ++ [.inr (ci, zdef ds)])
  | _ => none
def znewa (pc : Nat) (ax : List Nat) (L : zL) (st : List Value) (h : zH) : Option (zR ⊕ zS) := match st, ax with
  | .int n :: st, t :: _ => if n < 0 ∨ 10000 < n.toNatClampNeg then none else zgo pc L (.ref h.length :: st) (h ++ [.inl (t, zdefA t n.toNatClampNeg)])
  | _, _ => none
def zalen (pc : Nat) (L : zL) (st : List Value) (h : zH) : Option (zR ⊕ zS) := match st with
  | .ref i :: st => match h[i]? with
    | some (.inl (_, n, _)) => zgo pc L (.int (Int32.ofNat n) :: st) h
    | _ => none
  | _ => none
def ziald (pc : Nat) (L : zL) (st : List Value) (h : zH) : Option (zR ⊕ zS) := match st with
  | .int j :: .ref i :: st => match h[i]? with
    | some (.inl (0, n, .inl f)) => if j < 0 ∨ n ≤ j.toNatClampNeg then none else zgo pc L (.int (f j.toNatClampNeg) :: st) h
    | _ => none
  | _ => none
def zlald (pc : Nat) (L : zL) (st : List Value) (h : zH) : Option (zR ⊕ zS) := match st with
  | .int j :: .ref i :: st => match h[i]? with
    | some (.inl (1, n, .inr (.inl f))) => if j < 0 ∨ n ≤ j.toNatClampNeg then none else zgo pc L (.long (f j.toNatClampNeg) :: st) h
    | _ => none
  | _ => none
def zaald (pc : Nat) (L : zL) (st : List Value) (h : zH) : Option (zR ⊕ zS) := match st with
  | .int j :: .ref i :: st => match h[i]? with
    | some (.inl (3, n, .inr (.inr (.inr (.inr f))))) => if j < 0 ∨ n ≤ j.toNatClampNeg then none else (match f j.toNatClampNeg with
      | some r => zgo pc L (.ref r :: st) h
      | none => none)
    | _ => none
  | _ => none
def ziast (pc : Nat) (L : zL) (st : List Value) (h : zH) : Option (zR ⊕ zS) := match st with
  | .int x :: .int j :: .ref (i + 1) :: st => match h[i + 1]? with
    | some (.inl (0, n, .inl f)) => if j < 0 ∨ n ≤ j.toNatClampNeg then none else zgo pc L st (h.set (i + 1) (.inl (0, n, .inl (upd f j.toNatClampNeg x))))
    | _ => none
  | _ => none
def zlast (pc : Nat) (L : zL) (st : List Value) (h : zH) : Option (zR ⊕ zS) := match st with
  | .long x :: .int j :: .ref (i + 1) :: st => match h[i + 1]? with
    | some (.inl (1, n, .inr (.inl f))) => if j < 0 ∨ n ≤ j.toNatClampNeg then none else zgo pc L st (h.set (i + 1) (.inl (1, n, .inr (.inl (vp_updL f j.toNatClampNeg x)))))
    | _ => none
  | _ => none
/-- a row of numbers put into a row of rows -/
def zaast (pc : Nat) (L : zL) (st : List Value) (h : zH) : Option (zR ⊕ zS) := match st with
  | .ref (r + 1) :: .int j :: .ref (i + 1) :: st => match h[i + 1]? with
    | some (.inl (3, n, .inr (.inr (.inr (.inr f))))) => match h[r + 1]? with
      | some (.inl (0, _, .inl _)) => if j < 0 ∨ n ≤ j.toNatClampNeg then none else zgo pc L st (h.set (i + 1) (.inl (3, n, .inr (.inr (.inr (.inr (va_up f j.toNatClampNeg (some (r + 1)))))))))
      | _ => none
    | _ => none
  | _ => none
/-- which place of the pairs holds x; 0: none -/
def zlk : List (Int × Int) → Int → Nat → Nat
  | [], _, _ => 0
  | (a, _) :: r, x, k => if x = a then k else zlk r x (k + 1)
/-- the end of a method -/
def zret (st : List Value) (h : zH) : Option (zR ⊕ zS) := match st with
  | [v] => some (.inl (some v, h))
  | _ => none
/-- every instruction but the calls; kr: what the method answers (0 nothing, 1 a number, 2 a truth, 3 a long, 4 a double, 5 a reference) -/
def zbase (kr pc : Nat) (i : Instr) (ax : List Nat) (L : zL) (st : List Value) (h : zH) : Option (zR ⊕ zS) := match i with
  | .iconst n => zgo (pc + 1) L (.int (Int32.ofInt n) :: st) h
  | .bipush n => zgo (pc + 2) L (.int (Int8.ofInt n).toInt32 :: st) h
  | .sipush n => zgo (pc + 3) L (.int (Int16.ofInt n).toInt32 :: st) h
  | .lconst n => zgo (pc + 1) L (.long (Int64.ofNat (n : Nat)) :: st) h
  | .dconst n => if n = 0 then zgo (pc + 1) L (.double 0 :: st) h else none
  | .ldc _ => match ax with
    | v :: _ => zgo (pc + 2) L (.int (Int32.ofNat v) :: st) h
    | [] => none
  | .ldc_w _ => match ax with
    | v :: _ => zgo (pc + 3) L (.int (Int32.ofNat v) :: st) h
    | [] => none
  | .ldc2_w _ => match ax with
    | v :: _ => zgo (pc + 3) L (.long (Int64.ofNat v) :: st) h
    | [] => none
  | .iload k => zloadI (pc + 2) k L st h
  | .iload_n k => zloadI (pc + 1) k L st h
  | .lload k => zloadL (pc + 2) k L st h
  | .lload_n k => zloadL (pc + 1) k L st h
  | .dload k => zloadD (pc + 2) k L st h
  | .dload_n k => zloadD (pc + 1) k L st h
  | .aload k => zloadA (pc + 2) k L st h
  | .aload_n k => zloadA (pc + 1) k L st h
  | .istore k => zstoreI (pc + 2) k L st h
  | .istore_n k => zstoreI (pc + 1) k L st h
  | .lstore k => zstoreL (pc + 2) k L st h
  | .lstore_n k => zstoreL (pc + 1) k L st h
  | .dstore k => zstoreD (pc + 2) k L st h
  | .dstore_n k => zstoreD (pc + 1) k L st h
  | .astore k => zstoreA (pc + 2) k L st h
  | .astore_n k => zstoreA (pc + 1) k L st h
  | .iinc k n => match L[k]? with
    | some (some (.int x)) => if k < L.length then zgo (pc + 3) (zst1 L k (.int (x + Int32.ofInt n))) st h else none
    | _ => none
  | .iadd => zii (pc + 1) (fun x y => x + y) L st h
  | .isub => zii (pc + 1) (fun x y => x - y) L st h
  | .imul => zii (pc + 1) (fun x y => x * y) L st h
  | .iand => zii (pc + 1) (fun x y => x &&& y) L st h
  | .ior => zii (pc + 1) (fun x y => x ||| y) L st h
  | .ishl => zii (pc + 1) (fun x y => x <<< (y &&& 31)) L st h
  | .ishr => zii (pc + 1) (fun x y => x >>> (y &&& 31)) L st h
  | .iushr => zii (pc + 1) (fun x y => (x.toUInt32 >>> (y.toUInt32 &&& Int32.toUInt32 31)).toInt32) L st h
  | .idiv => match st with
    | .int y :: .int x :: st => if y = 0 then none else zgo (pc + 1) L (.int (x / y) :: st) h
    | _ => none
  | .irem => match st with
    | .int y :: .int x :: st => if y = 0 then none else zgo (pc + 1) L (.int (x - x / y * y) :: st) h
    | _ => none
  | .ladd => zll (pc + 1) (fun x y => x + y) L st h
  | .lmul => zll (pc + 1) (fun x y => x * y) L st h
  | .lcmp => match st with
    | .long y :: .long x :: st => zgo (pc + 1) L (.int (lg_cmp x y) :: st) h
    | _ => none
  | .i2l => match st with
    | .int x :: st => zgo (pc + 1) L (.long x.toInt64 :: st) h
    | _ => none
  | .i2d => match st with
    | .int x :: st => zgo (pc + 1) L (.double (FP.i2d x) :: st) h
    | _ => none
  | .ddiv => match st with
    | .double y :: .double x :: st => if FP.ddiv x y &&& 0x7fffffffffffffff ≤ 0x7ff0000000000000 then zgo (pc + 1) L (.double (FP.ddiv x y) :: st) h else none
    | _ => none
  | .dcmp op => match st with
    | .double y :: .double x :: st => zgo (pc + 1) L (.int (Op.cmpValue (FP.dcmp x y) op) :: st) h
    | _ => none
  | .dup => match st with
    | v :: st => if v.category = 1 then zgo (pc + 1) L (v :: v :: st) h else none
    | _ => none
  | .pop => match st with
    | v :: st => if v.category = 1 then zgo (pc + 1) L st h else none
    | _ => none
  | .dup_x1 => match st with
    | v :: w :: st => if v.category = 1 ∧ w.category = 1 then zgo (pc + 1) L (v :: w :: v :: st) h else none
    | _ => none
  | .dup_x2 => match st with
    | v :: w :: x :: st => if v.category = 1 ∧ w.category = 1 ∧ x.category = 1 then zgo (pc + 1) L (v :: w :: x :: v :: st) h else none
    | _ => none
  | .dup2 => match st with
    | v :: w :: st => if v.category = 1 ∧ w.category = 1 then zgo (pc + 1) L (v :: w :: v :: w :: st) h else none
    | _ => none
  | .ifCond c _ => match st with
    | .int x :: st => zif (zcnd c x 0) ax pc L st h
    | _ => none
  | .if_icmp c _ => match st with
    | .int y :: .int x :: st => zif (zcnd c x y) ax pc L st h
    | _ => none
  | .goto _ => zjump ax 0 L st h
  | .tableswitch _ lo hi _ => match st with
    | .int x :: st => if x.toInt < lo ∨ hi < x.toInt then zjump ax 0 L st h else zjump ax ((x.toInt - lo).toNat + 1) L st h
    | _ => none
  | .lookupswitch _ ps => match st with
    | .int x :: st => zjump ax (zlk ps.toList x.toInt 1) L st h
    | _ => none
  | .getfield _ => zget1 (pc + 3) ax L st h
  | .putfield _ => zput1 (pc + 3) ax L st h
  | .new _ => znew (pc + 3) ax L st h
  | .newarray _ => znewa (pc + 2) ax L st h
  | .anewarray _ => znewa (pc + 3) ax L st h
  | .arraylength => zalen (pc + 1) L st h
  | .iaload => ziald (pc + 1) L st h
  | .laload => zlald (pc + 1) L st h
  | .aaload => zaald (pc + 1) L st h
  | .iastore => ziast (pc + 1) L st h
  | .lastore => zlast (pc + 1) L st h
  | .aastore => zaast (pc + 1) L st h
  | .ireturn => match st with
    | [.int v] => if kr = 1 ∨ (kr = 2 ∧ (v = 0 ∨ v = 1)) then some (.inl (some (.int v), h)) else none
    | _ => none
  | .lreturn => match st with
    | [.long v] => if kr = 3 then some (.inl (some (.long v), h)) else none
    | _ => none
  | .dreturn => match st with
    | [.double v] => if kr = 4 then some (.inl (some (.double v), h)) else none
    | _ => none
  | .areturn => match st with
    | [.ref v] => if kr = 5 then some (.inl (some (.ref v), h)) else none
    | _ => none
  | .return_ => match st with
    | [] => if kr = 0 then some (.inl (none, h)) else none
    | _ => none
  | _ => none
def zkr (r : Option FieldType) : Nat := match r with
  | none => 0
  | some .int => 1
  | some .boolean => 2
  | some .long => 3
  | some .double => 4
  | some (.object _) => 5
  | some (.array _) => 5
  | _ => 6
/-- behind a call -/
def zback (pc : Nat) (L : zL) (rest : List Value) (r : Option zR) : Option (zR ⊕ zS) := match r with
  | some (some v, h) => zgo (pc + 3) L (v :: rest) h
  | some (none, h) => zgo (pc + 3) L rest h
  | none => none
/-- a call of method y with n values behind the receiver (mode 0: on an object of the class ci; 1: on none; 2: of a constructor) -/
def zinv (C : Nat → List Value → zH → Option zR) (pc : Nat) (ax : List Nat) (L : zL) (st : List Value) (h : zH) : Option (zR ⊕ zS) := match ax with
  | y :: mode :: n :: ci :: _ =>
    if n ≤ st.length ∧ ((st.drop n).map fun v => v.category).sum ≤ 8 then (match mode with
      | 1 => zback pc L (st.drop n) (C y (st.take n).reverse h)
      | 0 => match st.drop n with
        | .ref b :: rest => (match h[b]? with
          | some (.inr (c, _)) => if c = ci then zback pc L rest (C y (.ref b :: (st.take n).reverse) h) else none
          | _ => none)
        | _ => none
      | 2 => match st.drop n with
        | .ref b :: rest => zback pc L rest (C y (.ref b :: (st.take n).reverse) h)
        | _ => none
      | _ => none) else none
  | _ => none
/-- nothing, or a row of numbers -/
def zrow (h : zH) : Option Nat → Bool
  | none => true
  | some 0 => false
  | some (r + 1) => match h[r + 1]? with
    | some (.inl (0, _, .inl _)) => true
    | _ => false
/-- System.arraycopy between two different rows -/
def zcopy (pc : Nat) (L : zL) (st : List Value) (h : zH) : Option (zR ⊕ zS) := match st with
  | .int n :: .int dp :: .ref (d + 1) :: .int sp :: .ref (i + 1) :: st => if n < 0 ∨ dp < 0 ∨ sp < 0 ∨ i = d ∨ 8 < (st.map fun v => v.category).sum then none else (match h[i + 1]?, h[d + 1]? with
    | some (.inl (0, n0, .inl f)), some (.inl (0, n1, .inl g)) => if sp.toNatClampNeg + n.toNatClampNeg ≤ n0 ∧ dp.toNatClampNeg + n.toNatClampNeg ≤ n1 then zgo (pc + 3) L st (h.set (d + 1) (.inl (0, n1, .inl (va_cpy f g sp.toNatClampNeg dp.toNatClampNeg n.toNatClampNeg)))) else none
    | some (.inl (3, n0, .inr (.inr (.inr (.inr f))))), some (.inl (3, n1, .inr (.inr (.inr (.inr g))))) => if sp.toNatClampNeg + n.toNatClampNeg ≤ n0 ∧ dp.toNatClampNeg + n.toNatClampNeg ≤ n1 ∧ (List.range n.toNatClampNeg).all (fun i => zrow h (f (sp.toNatClampNeg + i))) = true then zgo (pc + 3) L st (h.set (d + 1) (.inl (3, n1, .inr (.inr (.inr (.inr (va_cpy f g sp.toNatClampNeg dp.toNatClampNeg n.toNatClampNeg))))))) else none
    | _, _ => none)
  | _ => none
/-- Math.max -/
def zmax (pc : Nat) (L : zL) (st : List Value) (h : zH) : Option (zR ⊕ zS) := match st with
  | .int y :: .int x :: st => if 8 < (st.map fun v => v.category).sum then none else zgo (pc + 3) L (.int (if x < y then y else x) :: st) h
  | _ => none
/-- Object.<init> -/
def zobj (pc : Nat) (L : zL) (st : List Value) (h : zH) : Option (zR ⊕ zS) := match st with
  | .ref _ :: st => if 8 < (st.map fun v => v.category).sum then none else zgo (pc + 3) L st h
  | _ => none
/-- mode 3: arraycopy, 4: Math.max, 5: Object.<init> -/
def zcall (C : Nat → List Value → zH → Option zR) (pc : Nat) (ax : List Nat) (L : zL) (st : List Value) (h : zH) : Option (zR ⊕ zS) := match ax with
  | _ :: 3 :: _ => zcopy pc L st h
  | _ :: 4 :: _ => zmax pc L st h
  | _ :: 5 :: _ => zobj pc L st h
  | _ => zinv C pc ax L st h
def zstep (C : Nat → List Value → zH → Option zR) (kr pc : Nat) (i : Instr) (ax : List Nat) (L : zL) (st : List Value) (h : zH) : Option (zR ⊕ zS) := match i with
  | .invokevirtual _ => zcall C pc ax L st h
  | .invokestatic _ => zcall C pc ax L st h
  | .invokespecial _ => zcall C pc ax L st h
  | i => zbase kr pc i ax L st h
def zrun (T : zT) : Nat → Nat → Nat → zL → List Value → zH → Option zR
  | 0, _, _, _, _, _ => none
  | n + 1, y, pc, L, st, h => match T.1 y pc with
    | none => none
    | some (i, ax) => match zstep (fun y' a h' => if (zent a).length ≤ (T.2 y').2.2.1 then zrun T n y' 0 (zentry (T.2 y').2.2.1 a) [] h' else none) (zkr (T.2 y).2.2.2.1) pc i ax L st h with
      | none => none
      | some (.inl r) => some r
      | some (.inr s) => zrun T n y s.1 s.2.1 s.2.2.1 s.2.2.2
/-- method y, called with these values over these cells, comes to its end with r over h' -/
def zcalls (T : zT) (y : Nat) (a : List Value) (h : zH) (r : zR) : Prop := (zent a).length ≤ (T.2 y).2.2.1 ∧ ∃ n, zrun T n y 0 (zentry (T.2 y).2.2.1 a) [] h = some r

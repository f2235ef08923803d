/-! the rows of the pure calculus for runs up to an instruction (printed by program out of 14.calc, 15.calls) -/
section ZG
variable {y pc pc' : Nat} {L L' : zL} {st : List Value} {h h' : zH} {r : zS} {ax : List Nat}
theorem zg_iconst {n : Int} {v : Int32} (hI : zI y pc = some (.iconst n, ax)) (hv : Int32.ofInt n = v) (hp : pc + 1 = pc') (k : zgt y pc' L (.int v :: st) h r) : zgt y pc L st h r := zgt_step hI (fun _ => by subst hv; subst hp; rfl) k
theorem zg_bipush {n : Int} {v : Int32} (hI : zI y pc = some (.bipush n, ax)) (hv : (Int8.ofInt n).toInt32 = v) (hp : pc + 2 = pc') (k : zgt y pc' L (.int v :: st) h r) : zgt y pc L st h r := zgt_step hI (fun _ => by subst hv; subst hp; rfl) k
theorem zg_sipush {n : Int} {v : Int32} (hI : zI y pc = some (.sipush n, ax)) (hv : (Int16.ofInt n).toInt32 = v) (hp : pc + 3 = pc') (k : zgt y pc' L (.int v :: st) h r) : zgt y pc L st h r := zgt_step hI (fun _ => by subst hv; subst hp; rfl) k
theorem zg_ldc {n v0 : Nat} {v : Int32} (hI : zI y pc = some (.ldc n, v0 :: ax)) (hv : Int32.ofNat v0 = v) (hp : pc + 2 = pc') (k : zgt y pc' L (.int v :: st) h r) : zgt y pc L st h r := zgt_step hI (fun _ => by subst hv; subst hp; rfl) k
theorem zg_ldc_w {n v0 : Nat} {v : Int32} (hI : zI y pc = some (.ldc_w n, v0 :: ax)) (hv : Int32.ofNat v0 = v) (hp : pc + 3 = pc') (k : zgt y pc' L (.int v :: st) h r) : zgt y pc L st h r := zgt_step hI (fun _ => by subst hv; subst hp; rfl) k
theorem zg_ldc2_w {n v0 : Nat} {v : Int64} (hI : zI y pc = some (.ldc2_w n, v0 :: ax)) (hv : Int64.ofNat v0 = v) (hp : pc + 3 = pc') (k : zgt y pc' L (.long v :: st) h r) : zgt y pc L st h r := zgt_step hI (fun _ => by subst hv; subst hp; rfl) k
theorem zg_iload {n : Nat} {x : Int32} (hI : zI y pc = some (.iload n, ax)) (hl : L[n]? = some (some (.int x))) (hp : pc + 2 = pc') (k : zgt y pc' L (.int x :: st) h r) : zgt y pc L st h r := zgt_step hI (fun _ => by subst hp; simp only [zstep, zbase, zloadI, hl, zgo]) k
theorem zg_iload_n {n : Fin 4} {x : Int32} (hI : zI y pc = some (.iload_n n, ax)) (hl : L[(n : Nat)]? = some (some (.int x))) (hp : pc + 1 = pc') (k : zgt y pc' L (.int x :: st) h r) : zgt y pc L st h r := zgt_step hI (fun _ => by subst hp; simp only [zstep, zbase, zloadI, hl, zgo]) k
theorem zg_lload {n : Nat} {x : Int64} (hI : zI y pc = some (.lload n, ax)) (hl : L[n]? = some (some (.long x))) (hp : pc + 2 = pc') (k : zgt y pc' L (.long x :: st) h r) : zgt y pc L st h r := zgt_step hI (fun _ => by subst hp; simp only [zstep, zbase, zloadL, hl, zgo]) k
theorem zg_lload_n {n : Fin 4} {x : Int64} (hI : zI y pc = some (.lload_n n, ax)) (hl : L[(n : Nat)]? = some (some (.long x))) (hp : pc + 1 = pc') (k : zgt y pc' L (.long x :: st) h r) : zgt y pc L st h r := zgt_step hI (fun _ => by subst hp; simp only [zstep, zbase, zloadL, hl, zgo]) k
theorem zg_aload {n : Nat} {x : Nat} (hI : zI y pc = some (.aload n, ax)) (hl : L[n]? = some (some (.ref x))) (hp : pc + 2 = pc') (k : zgt y pc' L (.ref x :: st) h r) : zgt y pc L st h r := zgt_step hI (fun _ => by subst hp; simp only [zstep, zbase, zloadA, hl, zgo]) k
theorem zg_aload_n {n : Fin 4} {x : Nat} (hI : zI y pc = some (.aload_n n, ax)) (hl : L[(n : Nat)]? = some (some (.ref x))) (hp : pc + 1 = pc') (k : zgt y pc' L (.ref x :: st) h r) : zgt y pc L st h r := zgt_step hI (fun _ => by subst hp; simp only [zstep, zbase, zloadA, hl, zgo]) k
theorem zg_istore {n : Nat} {x : Int32} (hI : zI y pc = some (.istore n, ax)) (hn : n < L.length) (hL : zst1 L n (.int x) = L') (hp : pc + 2 = pc') (k : zgt y pc' L' st h r) : zgt y pc L (.int x :: st) h r := zgt_step hI (fun _ => by subst hL; subst hp; simp only [zstep, zbase, zstoreI, if_pos hn, zgo]) k
theorem zg_istore_n {n : Fin 4} {x : Int32} (hI : zI y pc = some (.istore_n n, ax)) (hn : (n : Nat) < L.length) (hL : zst1 L (n : Nat) (.int x) = L') (hp : pc + 1 = pc') (k : zgt y pc' L' st h r) : zgt y pc L (.int x :: st) h r := zgt_step hI (fun _ => by subst hL; subst hp; simp only [zstep, zbase, zstoreI, if_pos hn, zgo]) k
theorem zg_astore {n : Nat} {x : Nat} (hI : zI y pc = some (.astore n, ax)) (hn : n < L.length) (hL : zst1 L n (.ref x) = L') (hp : pc + 2 = pc') (k : zgt y pc' L' st h r) : zgt y pc L (.ref x :: st) h r := zgt_step hI (fun _ => by subst hL; subst hp; simp only [zstep, zbase, zstoreA, if_pos hn, zgo]) k
theorem zg_astore_n {n : Fin 4} {x : Nat} (hI : zI y pc = some (.astore_n n, ax)) (hn : (n : Nat) < L.length) (hL : zst1 L (n : Nat) (.ref x) = L') (hp : pc + 1 = pc') (k : zgt y pc' L' st h r) : zgt y pc L (.ref x :: st) h r := zgt_step hI (fun _ => by subst hL; subst hp; simp only [zstep, zbase, zstoreA, if_pos hn, zgo]) k
theorem zg_lstore {n : Nat} {x : Int64} (hI : zI y pc = some (.lstore n, ax)) (hn : n + 1 < L.length) (hL : zst2 L n (.long x) = L') (hp : pc + 2 = pc') (k : zgt y pc' L' st h r) : zgt y pc L (.long x :: st) h r := zgt_step hI (fun _ => by subst hL; subst hp; simp only [zstep, zbase, zstoreL, if_pos hn, zgo]) k
theorem zg_lstore_n {n : Fin 4} {x : Int64} (hI : zI y pc = some (.lstore_n n, ax)) (hn : (n : Nat) + 1 < L.length) (hL : zst2 L (n : Nat) (.long x) = L') (hp : pc + 1 = pc') (k : zgt y pc' L' st h r) : zgt y pc L (.long x :: st) h r := zgt_step hI (fun _ => by subst hL; subst hp; simp only [zstep, zbase, zstoreL, if_pos hn, zgo]) k
theorem zg_iinc {n : Nat} {z : Int} {x v : Int32} (hI : zI y pc = some (.iinc n z, ax)) (hl : L[n]? = some (some (.int x))) (hv : x + Int32.ofInt z = v) (hL : zst1 L n (.int v) = L') (hp : pc + 3 = pc') (k : zgt y pc' L' st h r) : zgt y pc L st h r := zgt_step hI (fun _ => by subst hv; subst hL; subst hp; simp only [zstep, zbase, hl, if_pos (List.getElem?_eq_some_iff.mp hl).1, zgo]) k
theorem zg_iadd {x z v : Int32} (hI : zI y pc = some (.iadd, ax)) (hv : x + z = v) (hp : pc + 1 = pc') (k : zgt y pc' L (.int v :: st) h r) : zgt y pc L (.int z :: .int x :: st) h r := zgt_step hI (fun _ => by subst hv; subst hp; rfl) k
theorem zg_isub {x z v : Int32} (hI : zI y pc = some (.isub, ax)) (hv : x - z = v) (hp : pc + 1 = pc') (k : zgt y pc' L (.int v :: st) h r) : zgt y pc L (.int z :: .int x :: st) h r := zgt_step hI (fun _ => by subst hv; subst hp; rfl) k
theorem zg_imul {x z v : Int32} (hI : zI y pc = some (.imul, ax)) (hv : x * z = v) (hp : pc + 1 = pc') (k : zgt y pc' L (.int v :: st) h r) : zgt y pc L (.int z :: .int x :: st) h r := zgt_step hI (fun _ => by subst hv; subst hp; rfl) k
theorem zg_iand {x z v : Int32} (hI : zI y pc = some (.iand, ax)) (hv : x &&& z = v) (hp : pc + 1 = pc') (k : zgt y pc' L (.int v :: st) h r) : zgt y pc L (.int z :: .int x :: st) h r := zgt_step hI (fun _ => by subst hv; subst hp; rfl) k
theorem zg_ior {x z v : Int32} (hI : zI y pc = some (.ior, ax)) (hv : x ||| z = v) (hp : pc + 1 = pc') (k : zgt y pc' L (.int v :: st) h r) : zgt y pc L (.int z :: .int x :: st) h r := zgt_step hI (fun _ => by subst hv; subst hp; rfl) k
theorem zg_ishl {x z v : Int32} (hI : zI y pc = some (.ishl, ax)) (hv : x <<< (z &&& 31) = v) (hp : pc + 1 = pc') (k : zgt y pc' L (.int v :: st) h r) : zgt y pc L (.int z :: .int x :: st) h r := zgt_step hI (fun _ => by subst hv; subst hp; rfl) k
theorem zg_ishr {x z v : Int32} (hI : zI y pc = some (.ishr, ax)) (hv : x >>> (z &&& 31) = v) (hp : pc + 1 = pc') (k : zgt y pc' L (.int v :: st) h r) : zgt y pc L (.int z :: .int x :: st) h r := zgt_step hI (fun _ => by subst hv; subst hp; rfl) k
theorem zg_iushr {x z v : Int32} (hI : zI y pc = some (.iushr, ax)) (hv : (x.toUInt32 >>> (z.toUInt32 &&& Int32.toUInt32 31)).toInt32 = v) (hp : pc + 1 = pc') (k : zgt y pc' L (.int v :: st) h r) : zgt y pc L (.int z :: .int x :: st) h r := zgt_step hI (fun _ => by subst hv; subst hp; rfl) k
theorem zg_idiv {x z v : Int32} (hI : zI y pc = some (.idiv, ax)) (hz : ¬ z = 0) (hv : x / z = v) (hp : pc + 1 = pc') (k : zgt y pc' L (.int v :: st) h r) : zgt y pc L (.int z :: .int x :: st) h r := zgt_step hI (fun _ => by subst hv; subst hp; simp only [zstep, zbase, if_neg hz, zgo]) k
theorem zg_irem {x z v : Int32} (hI : zI y pc = some (.irem, ax)) (hz : ¬ z = 0) (hv : x - x / z * z = v) (hp : pc + 1 = pc') (k : zgt y pc' L (.int v :: st) h r) : zgt y pc L (.int z :: .int x :: st) h r := zgt_step hI (fun _ => by subst hv; subst hp; simp only [zstep, zbase, if_neg hz, zgo]) k
theorem zg_ladd {x z v : Int64} (hI : zI y pc = some (.ladd, ax)) (hv : x + z = v) (hp : pc + 1 = pc') (k : zgt y pc' L (.long v :: st) h r) : zgt y pc L (.long z :: .long x :: st) h r := zgt_step hI (fun _ => by subst hv; subst hp; rfl) k
theorem zg_lmul {x z v : Int64} (hI : zI y pc = some (.lmul, ax)) (hv : x * z = v) (hp : pc + 1 = pc') (k : zgt y pc' L (.long v :: st) h r) : zgt y pc L (.long z :: .long x :: st) h r := zgt_step hI (fun _ => by subst hv; subst hp; rfl) k
theorem zg_lcmp {x z : Int64} (hI : zI y pc = some (.lcmp, ax)) (hp : pc + 1 = pc') (k : zgt y pc' L (.int (lg_cmp x z) :: st) h r) : zgt y pc L (.long z :: .long x :: st) h r := zgt_step hI (fun _ => by subst hp; rfl) k
theorem zg_i2l {x : Int32} (hI : zI y pc = some (.i2l, ax)) (hp : pc + 1 = pc') (k : zgt y pc' L (.long x.toInt64 :: st) h r) : zgt y pc L (.int x :: st) h r := zgt_step hI (fun _ => by subst hp; rfl) k
theorem zg_i2d {x : Int32} (hI : zI y pc = some (.i2d, ax)) (hp : pc + 1 = pc') (k : zgt y pc' L (.double (FP.i2d x) :: st) h r) : zgt y pc L (.int x :: st) h r := zgt_step hI (fun _ => by subst hp; rfl) k
theorem zg_ddiv {x z : UInt64} (hI : zI y pc = some (.ddiv, ax)) (hn : FP.ddiv x z &&& 0x7fffffffffffffff ≤ 0x7ff0000000000000) (hp : pc + 1 = pc') (k : zgt y pc' L (.double (FP.ddiv x z) :: st) h r) : zgt y pc L (.double z :: .double x :: st) h r := zgt_step hI (fun _ => by subst hp; simp only [zstep, zbase, if_pos hn, zgo]) k
theorem zg_dcmp {x z : UInt64} {op : CmpOp} (hI : zI y pc = some (.dcmp op, ax)) (hp : pc + 1 = pc') (k : zgt y pc' L (.int (Op.cmpValue (FP.dcmp x z) op) :: st) h r) : zgt y pc L (.double z :: .double x :: st) h r := zgt_step hI (fun _ => by subst hp; rfl) k
theorem zg_dconst (hI : zI y pc = some (.dconst 0, ax)) (hp : pc + 1 = pc') (k : zgt y pc' L (.double 0 :: st) h r) : zgt y pc L st h r := zgt_step hI (fun _ => by subst hp; rfl) k
theorem zg_dup {v : Value} (hI : zI y pc = some (.dup, ax)) (hv : v.category = 1) (hp : pc + 1 = pc') (k : zgt y pc' L (v :: v :: st) h r) : zgt y pc L (v :: st) h r := zgt_step hI (fun _ => by subst hp; simp only [zstep, zbase, if_pos hv, zgo]) k
theorem zg_pop {v : Value} (hI : zI y pc = some (.pop, ax)) (hv : v.category = 1) (hp : pc + 1 = pc') (k : zgt y pc' L st h r) : zgt y pc L (v :: st) h r := zgt_step hI (fun _ => by subst hp; simp only [zstep, zbase, if_pos hv, zgo]) k
theorem zg_dup_x1 {v w : Value} (hI : zI y pc = some (.dup_x1, ax)) (hv : v.category = 1 ∧ w.category = 1) (hp : pc + 1 = pc') (k : zgt y pc' L (v :: w :: v :: st) h r) : zgt y pc L (v :: w :: st) h r := zgt_step hI (fun _ => by subst hp; simp only [zstep, zbase, if_pos hv, zgo]) k
theorem zg_dup2 {v w : Value} (hI : zI y pc = some (.dup2, ax)) (hv : v.category = 1 ∧ w.category = 1) (hp : pc + 1 = pc') (k : zgt y pc' L (v :: w :: v :: w :: st) h r) : zgt y pc L (v :: w :: st) h r := zgt_step hI (fun _ => by subst hp; simp only [zstep, zbase, if_pos hv, zgo]) k
theorem zg_goto {o : Int} {t : Nat} (hI : zI y pc = some (.goto o, t :: ax)) (k : zgt y t L st h r) : zgt y pc L st h r := zgt_step hI (fun _ => rfl) k
/-- a branch on two numbers, on one -/
theorem zg_icmp {cd : Jvm.ClassFile.Cond} {o : Int} {t : Nat} {x z : Int32} (hI : zI y pc = some (.if_icmp cd o, t :: ax)) (hp : pc + 3 = pc') (kt : zcnd cd x z = true → zgt y t L st h r) (kf : zcnd cd x z = false → zgt y pc' L st h r) : zgt y pc L (.int z :: .int x :: st) h r := by
  subst hp
  cases hc : zcnd cd x z with
  | true => exact zgt_step hI (fun _ => by simp only [zstep, zbase, zif, hc, cond_true]) (kt hc)
  | false => exact zgt_step hI (fun _ => by simp only [zstep, zbase, zif, hc, cond_false]) (kf hc)
theorem zg_if {cd : Jvm.ClassFile.Cond} {o : Int} {t : Nat} {x : Int32} (hI : zI y pc = some (.ifCond cd o, t :: ax)) (hp : pc + 3 = pc') (kt : zcnd cd x 0 = true → zgt y t L st h r) (kf : zcnd cd x 0 = false → zgt y pc' L st h r) : zgt y pc L (.int x :: st) h r := by
  subst hp
  cases hc : zcnd cd x 0 with
  | true => exact zgt_step hI (fun _ => by simp only [zstep, zbase, zif, hc, cond_true]) (kt hc)
  | false => exact zgt_step hI (fun _ => by simp only [zstep, zbase, zif, hc, cond_false]) (kf hc)
theorem zg_table_out {d lo hi : Int} {offs : Array Int} {t : Nat} {x : Int32} (hI : zI y pc = some (.tableswitch d lo hi offs, t :: ax)) (hx : x.toInt < lo ∨ hi < x.toInt) (k : zgt y t L st h r) : zgt y pc L (.int x :: st) h r := zgt_step hI (fun _ => by simp only [zstep, zbase, if_pos hx, zjump, List.getElem?_cons_zero]) k
theorem zg_table_in {d lo hi : Int} {offs : Array Int} {t : Nat} {x : Int32} (hI : zI y pc = some (.tableswitch d lo hi offs, ax)) (j : Nat) (hx : x.toInt = lo + j) (hj : lo + (j : Int) ≤ hi) (ht : ax[j + 1]? = some t) (k : zgt y t L st h r) : zgt y pc L (.int x :: st) h r := zgt_step hI (fun _ => by
  have h1 : ¬ (x.toInt < lo ∨ hi < x.toInt) := by omega
  have h2 : (x.toInt - lo).toNat = j := by omega
  simp only [zstep, zbase, if_neg h1, zjump, h2, ht]) k
theorem zg_lookup {d : Int} {ps : Array (Int × Int)} {t : Nat} {x : Int32} (hI : zI y pc = some (.lookupswitch d ps, ax)) (ht : ax[zlk ps.toList x.toInt 1]? = some t) (k : zgt y t L st h r) : zgt y pc L (.int x :: st) h r := zgt_step hI (fun _ => by simp only [zstep, zbase, zjump, ht]) k
theorem zg_get {ix i ci f : Nat} {fs : List Value} {v : Value} (hI : zI y pc = some (.getfield ix, ci :: f :: ax)) (hh : h[i]? = some (.inr (ci, fs))) (hf : fs[f]? = some v) (hp : pc + 3 = pc') (k : zgt y pc' L (v :: st) h r) : zgt y pc L (.ref i :: st) h r := zgt_step hI (fun _ => by subst hp; simp only [zstep, zbase, zget1, hh, if_true, hf, zgo]) k
theorem zg_put {ix i ci f kd : Nat} {fs : List Value} {v : Value} (hI : zI y pc = some (.putfield ix, ci :: f :: kd :: ax)) (hi : 1 ≤ i) (hh : h[i]? = some (.inr (ci, fs))) (hf : f < fs.length) (hk : zfits kd v = true) (hp : pc + 3 = pc') (hH : h.set i (.inr (ci, fs.set f v)) = h') (k : zgt y pc' L st h' r) : zgt y pc L (v :: .ref i :: st) h r := by
  obtain ⟨j, rfl⟩ : ∃ j, i = j + 1 := ⟨i - 1, by omega⟩
  exact zgt_step hI (fun _ => by subst hp; subst hH; simp only [zstep, zbase, zput1, hh, hf, hk, and_self, if_true, zgo]) k
theorem zg_new {ix ci q1 q2 q3 : Nat} {ds : List Nat} {fs : List Value} {n : Nat} (hI : zI y pc = some (.new ix, ci :: q1 :: q2 :: q3 :: ds)) (hd : zdef ds = fs) (hn : h.length = n) (hp : pc + 3 = pc') (k : zgt y pc' L (.ref n :: st) (h ++ [.inr (ci, fs)]) r) : zgt y pc L st h r := zgt_step hI (fun _ => by subst hp; subst hd; subst hn; rfl) k
theorem zg_newa {a : ArrayType} {t : Nat} {x : Int32} {n N : Nat} (hI : zI y pc = some (.newarray a, t :: ax)) (hx : ¬ x < 0) (hN : x.toNatClampNeg = N) (hb : N ≤ 10000) (hn : h.length = n) (hp : pc + 2 = pc') (k : zgt y pc' L (.ref n :: st) (h ++ [.inl (t, zdefA t N)]) r) : zgt y pc L (.int x :: st) h r := zgt_step hI (fun _ => by
  subst hp; subst hN; subst hn
  have : ¬ (x < 0 ∨ 10000 < x.toNatClampNeg) := fun q => q.elim hx (fun q => by omega)
  simp only [zstep, zbase, znewa, if_neg this, zgo]) k
theorem zg_anewa {ix t : Nat} {x : Int32} {n N : Nat} (hI : zI y pc = some (.anewarray ix, t :: ax)) (hx : ¬ x < 0) (hN : x.toNatClampNeg = N) (hb : N ≤ 10000) (hn : h.length = n) (hp : pc + 3 = pc') (k : zgt y pc' L (.ref n :: st) (h ++ [.inl (t, zdefA t N)]) r) : zgt y pc L (.int x :: st) h r := zgt_step hI (fun _ => by
  subst hp; subst hN; subst hn
  have : ¬ (x < 0 ∨ 10000 < x.toNatClampNeg) := fun q => q.elim hx (fun q => by omega)
  simp only [zstep, zbase, znewa, if_neg this, zgo]) k
theorem zg_alen {i t n : Nat} {f : (Nat → Int32) ⊕ (Nat → Int64) ⊕ (Nat → UInt32) ⊕ (Nat → UInt64) ⊕ (Nat → Option Nat)} {v : Int32} (hI : zI y pc = some (.arraylength, ax)) (hh : h[i]? = some (.inl (t, n, f))) (hv : Int32.ofNat n = v) (hp : pc + 1 = pc') (k : zgt y pc' L (.int v :: st) h r) : zgt y pc L (.ref i :: st) h r := zgt_step hI (fun _ => by subst hp; subst hv; simp only [zstep, zbase, zalen, hh, zgo]) k
theorem zg_iald {i n : Nat} {f : Nat → Int32} {j v : Int32} (hI : zI y pc = some (.iaload, ax)) (hh : h[i]? = some (.inl (0, n, .inl f))) (hj : ¬ (j < 0 ∨ n ≤ j.toNatClampNeg)) (hv : f j.toNatClampNeg = v) (hp : pc + 1 = pc') (k : zgt y pc' L (.int v :: st) h r) : zgt y pc L (.int j :: .ref i :: st) h r := zgt_step hI (fun _ => by subst hp; subst hv; simp only [zstep, zbase, ziald, hh, if_neg hj, zgo]) k
theorem zg_aald {i n q : Nat} {f : Nat → Option Nat} {j : Int32} (hI : zI y pc = some (.aaload, ax)) (hh : h[i]? = some (.inl (3, n, .inr (.inr (.inr (.inr f)))))) (hj : ¬ (j < 0 ∨ n ≤ j.toNatClampNeg)) (hv : f j.toNatClampNeg = some q) (hp : pc + 1 = pc') (k : zgt y pc' L (.ref q :: st) h r) : zgt y pc L (.int j :: .ref i :: st) h r := zgt_step hI (fun _ => by subst hp; simp only [zstep, zbase, zaald, hh, if_neg hj, hv, zgo]) k
theorem zg_iast {i n : Nat} {f : Nat → Int32} {j v : Int32} (hI : zI y pc = some (.iastore, ax)) (hi : 1 ≤ i) (hh : h[i]? = some (.inl (0, n, .inl f))) (hj : ¬ (j < 0 ∨ n ≤ j.toNatClampNeg)) (hp : pc + 1 = pc') (hH : h.set i (.inl (0, n, .inl (upd f j.toNatClampNeg v))) = h') (k : zgt y pc' L st h' r) : zgt y pc L (.int v :: .int j :: .ref i :: st) h r := by
  obtain ⟨m, rfl⟩ : ∃ m, i = m + 1 := ⟨i - 1, by omega⟩
  exact zgt_step hI (fun _ => by subst hp; subst hH; simp only [zstep, zbase, ziast, hh, if_neg hj, zgo]) k
theorem zg_aast {i n q n2 : Nat} {f : Nat → Option Nat} {f2 : Nat → Int32} {j : Int32} (hI : zI y pc = some (.aastore, ax)) (hi : 1 ≤ i) (hq1 : 1 ≤ q) (hh : h[i]? = some (.inl (3, n, .inr (.inr (.inr (.inr f)))))) (hq : h[q]? = some (.inl (0, n2, .inl f2))) (hj : ¬ (j < 0 ∨ n ≤ j.toNatClampNeg)) (hp : pc + 1 = pc') (hH : h.set i (.inl (3, n, .inr (.inr (.inr (.inr (va_up f j.toNatClampNeg (some q))))))) = h') (k : zgt y pc' L st h' r) : zgt y pc L (.ref q :: .int j :: .ref i :: st) h r := by
  obtain ⟨m, rfl⟩ : ∃ m, i = m + 1 := ⟨i - 1, by omega⟩
  obtain ⟨m2, rfl⟩ : ∃ m, q = m + 1 := ⟨q - 1, by omega⟩
  exact zgt_step hI (fun _ => by subst hp; subst hH; simp only [zstep, zbase, zaast, hh, hq, if_neg hj, zgo]) k
end ZG

section ZGC
variable {y pc pc' : Nat} {L L' : zL} {st : List Value} {h h' : zH} {r : zS} {ax : List Nat}
theorem zg_callV {ix y' n ci b : Nat} {As : List Value} {fs : List Value} {q : zR} (hI : zI y pc = some (.invokevirtual ix, y' :: 0 :: n :: ci :: ax)) (hn : As.length = n) (hb : h[b]? = some (.inr (ci, fs))) (hs : zcat8 (.ref b :: st) = true) (hc : zcalls zTB y' (.ref b :: As) h q) (hp : pc + 3 = pc') (k : zgt y pc' L (q.1.toList ++ st) q.2 r) : zgt y pc L (As.reverse ++ .ref b :: st) h r := by
  subst hp
  refine zgt_call hI hc (fun C hC => ?_) k
  have h1 : n ≤ (As.reverse ++ .ref b :: st).length := by rw [List.length_append, List.length_reverse]; omega
  have h2 : (As.reverse ++ .ref b :: st).drop n = .ref b :: st := by rw [← hn, ← List.length_reverse, List.drop_left]
  have h3 : (As.reverse ++ .ref b :: st).take n = As.reverse := by rw [← hn, ← List.length_reverse, List.take_left]
  show zinv C pc (y' :: 0 :: n :: ci :: ax) L (As.reverse ++ .ref b :: st) h = _
  simp only [zinv, h1, h2, h3, zcat8_le hs, and_self, if_true, hb, List.reverse_reverse, hC]
  obtain ⟨q1, q2⟩ := q
  cases q1 <;> rfl
theorem zg_callS {ix y' n c0 : Nat} {As : List Value} {q : zR} (hI : zI y pc = some (.invokestatic ix, y' :: 1 :: n :: c0 :: ax)) (hn : As.length = n) (hs : zcat8 st = true) (hc : zcalls zTB y' As h q) (hp : pc + 3 = pc') (k : zgt y pc' L (q.1.toList ++ st) q.2 r) : zgt y pc L (As.reverse ++ st) h r := by
  subst hp
  refine zgt_call hI hc (fun C hC => ?_) k
  have h1 : n ≤ (As.reverse ++ st).length := by rw [List.length_append, List.length_reverse]; omega
  have h2 : (As.reverse ++ st).drop n = st := by rw [← hn, ← List.length_reverse, List.drop_left]
  have h3 : (As.reverse ++ st).take n = As.reverse := by rw [← hn, ← List.length_reverse, List.take_left]
  show zinv C pc (y' :: 1 :: n :: c0 :: ax) L (As.reverse ++ st) h = _
  simp only [zinv, h1, h2, h3, zcat8_le hs, and_self, if_true, List.reverse_reverse, hC]
  obtain ⟨q1, q2⟩ := q
  cases q1 <;> rfl
theorem zg_callI {ix y' n c0 b : Nat} {As : List Value} {q : zR} (hI : zI y pc = some (.invokespecial ix, y' :: 2 :: n :: c0 :: ax)) (hn : As.length = n) (hs : zcat8 (.ref b :: st) = true) (hc : zcalls zTB y' (.ref b :: As) h q) (hp : pc + 3 = pc') (k : zgt y pc' L (q.1.toList ++ st) q.2 r) : zgt y pc L (As.reverse ++ .ref b :: st) h r := by
  subst hp
  refine zgt_call hI hc (fun C hC => ?_) k
  have h1 : n ≤ (As.reverse ++ .ref b :: st).length := by rw [List.length_append, List.length_reverse]; omega
  have h2 : (As.reverse ++ .ref b :: st).drop n = .ref b :: st := by rw [← hn, ← List.length_reverse, List.drop_left]
  have h3 : (As.reverse ++ .ref b :: st).take n = As.reverse := by rw [← hn, ← List.length_reverse, List.take_left]
  show zinv C pc (y' :: 2 :: n :: c0 :: ax) L (As.reverse ++ .ref b :: st) h = _
  simp only [zinv, h1, h2, h3, zcat8_le hs, and_self, if_true, List.reverse_reverse, hC]
  obtain ⟨q1, q2⟩ := q
  cases q1 <;> rfl
theorem zg_objinit {ix z b : Nat} (hI : zI y pc = some (.invokespecial ix, z :: 5 :: ax)) (hs : zcat8 st = true) (hp : pc + 3 = pc') (k : zgt y pc' L st h r) : zgt y pc L (.ref b :: st) h r := zgt_step hI (fun C => by
  subst hp
  show zobj pc L (.ref b :: st) h = _
  have := zcat8_le hs
  simp only [zobj, if_neg (Nat.not_lt.mpr this), zgo]) k
theorem zg_mmax {ix z : Nat} {a c : Int32} (hI : zI y pc = some (.invokestatic ix, z :: 4 :: ax)) (hs : zcat8 st = true) (hp : pc + 3 = pc') (k : zgt y pc' L (.int (if a < c then c else a) :: st) h r) : zgt y pc L (.int c :: .int a :: st) h r := zgt_step hI (fun C => by
  subst hp
  show zmax pc L (.int c :: .int a :: st) h = _
  have := zcat8_le hs
  simp only [zmax, if_neg (Nat.not_lt.mpr this), zgo]) k
-- by the number of values: v an answer, n none
theorem zg_v0 {ix y' ci b : Nat} {fs : List Value} {v : Value} (hI : zI y pc = some (.invokevirtual ix, y' :: 0 :: 0 :: ci :: ax)) (hb : h[b]? = some (.inr (ci, fs))) (hs : zcat8 (.ref b :: st) = true) (hc : zcalls zTB y' [.ref b] h (some v, h')) (hp : pc + 3 = pc') (k : zgt y pc' L (v :: st) h' r) : zgt y pc L (.ref b :: st) h r := zg_callV (As := []) hI rfl hb hs hc hp k
theorem zg_n0 {ix y' ci b : Nat} {fs : List Value} (hI : zI y pc = some (.invokevirtual ix, y' :: 0 :: 0 :: ci :: ax)) (hb : h[b]? = some (.inr (ci, fs))) (hs : zcat8 (.ref b :: st) = true) (hc : zcalls zTB y' [.ref b] h (none, h')) (hp : pc + 3 = pc') (k : zgt y pc' L st h' r) : zgt y pc L (.ref b :: st) h r := zg_callV (As := []) hI rfl hb hs hc hp k
theorem zg_v1 {ix y' ci b : Nat} {fs : List Value} {v a1 : Value} (hI : zI y pc = some (.invokevirtual ix, y' :: 0 :: 1 :: ci :: ax)) (hb : h[b]? = some (.inr (ci, fs))) (hs : zcat8 (.ref b :: st) = true) (hc : zcalls zTB y' [.ref b, a1] h (some v, h')) (hp : pc + 3 = pc') (k : zgt y pc' L (v :: st) h' r) : zgt y pc L (a1 :: .ref b :: st) h r := zg_callV (As := [a1]) hI rfl hb hs hc hp k
theorem zg_n1 {ix y' ci b : Nat} {fs : List Value} {a1 : Value} (hI : zI y pc = some (.invokevirtual ix, y' :: 0 :: 1 :: ci :: ax)) (hb : h[b]? = some (.inr (ci, fs))) (hs : zcat8 (.ref b :: st) = true) (hc : zcalls zTB y' [.ref b, a1] h (none, h')) (hp : pc + 3 = pc') (k : zgt y pc' L st h' r) : zgt y pc L (a1 :: .ref b :: st) h r := zg_callV (As := [a1]) hI rfl hb hs hc hp k
theorem zg_v2 {ix y' ci b : Nat} {fs : List Value} {v a1 a2 : Value} (hI : zI y pc = some (.invokevirtual ix, y' :: 0 :: 2 :: ci :: ax)) (hb : h[b]? = some (.inr (ci, fs))) (hs : zcat8 (.ref b :: st) = true) (hc : zcalls zTB y' [.ref b, a1, a2] h (some v, h')) (hp : pc + 3 = pc') (k : zgt y pc' L (v :: st) h' r) : zgt y pc L (a2 :: a1 :: .ref b :: st) h r := zg_callV (As := [a1, a2]) hI rfl hb hs hc hp k
theorem zg_n2 {ix y' ci b : Nat} {fs : List Value} {a1 a2 : Value} (hI : zI y pc = some (.invokevirtual ix, y' :: 0 :: 2 :: ci :: ax)) (hb : h[b]? = some (.inr (ci, fs))) (hs : zcat8 (.ref b :: st) = true) (hc : zcalls zTB y' [.ref b, a1, a2] h (none, h')) (hp : pc + 3 = pc') (k : zgt y pc' L st h' r) : zgt y pc L (a2 :: a1 :: .ref b :: st) h r := zg_callV (As := [a1, a2]) hI rfl hb hs hc hp k
theorem zg_v3 {ix y' ci b : Nat} {fs : List Value} {v a1 a2 a3 : Value} (hI : zI y pc = some (.invokevirtual ix, y' :: 0 :: 3 :: ci :: ax)) (hb : h[b]? = some (.inr (ci, fs))) (hs : zcat8 (.ref b :: st) = true) (hc : zcalls zTB y' [.ref b, a1, a2, a3] h (some v, h')) (hp : pc + 3 = pc') (k : zgt y pc' L (v :: st) h' r) : zgt y pc L (a3 :: a2 :: a1 :: .ref b :: st) h r := zg_callV (As := [a1, a2, a3]) hI rfl hb hs hc hp k
theorem zg_n3 {ix y' ci b : Nat} {fs : List Value} {a1 a2 a3 : Value} (hI : zI y pc = some (.invokevirtual ix, y' :: 0 :: 3 :: ci :: ax)) (hb : h[b]? = some (.inr (ci, fs))) (hs : zcat8 (.ref b :: st) = true) (hc : zcalls zTB y' [.ref b, a1, a2, a3] h (none, h')) (hp : pc + 3 = pc') (k : zgt y pc' L st h' r) : zgt y pc L (a3 :: a2 :: a1 :: .ref b :: st) h r := zg_callV (As := [a1, a2, a3]) hI rfl hb hs hc hp k
theorem zg_v4 {ix y' ci b : Nat} {fs : List Value} {v a1 a2 a3 a4 : Value} (hI : zI y pc = some (.invokevirtual ix, y' :: 0 :: 4 :: ci :: ax)) (hb : h[b]? = some (.inr (ci, fs))) (hs : zcat8 (.ref b :: st) = true) (hc : zcalls zTB y' [.ref b, a1, a2, a3, a4] h (some v, h')) (hp : pc + 3 = pc') (k : zgt y pc' L (v :: st) h' r) : zgt y pc L (a4 :: a3 :: a2 :: a1 :: .ref b :: st) h r := zg_callV (As := [a1, a2, a3, a4]) hI rfl hb hs hc hp k
theorem zg_n4 {ix y' ci b : Nat} {fs : List Value} {a1 a2 a3 a4 : Value} (hI : zI y pc = some (.invokevirtual ix, y' :: 0 :: 4 :: ci :: ax)) (hb : h[b]? = some (.inr (ci, fs))) (hs : zcat8 (.ref b :: st) = true) (hc : zcalls zTB y' [.ref b, a1, a2, a3, a4] h (none, h')) (hp : pc + 3 = pc') (k : zgt y pc' L st h' r) : zgt y pc L (a4 :: a3 :: a2 :: a1 :: .ref b :: st) h r := zg_callV (As := [a1, a2, a3, a4]) hI rfl hb hs hc hp k
theorem zg_s1 {ix y' c0 : Nat} {v a1 : Value} (hI : zI y pc = some (.invokestatic ix, y' :: 1 :: 1 :: c0 :: ax)) (hs : zcat8 st = true) (hc : zcalls zTB y' [a1] h (some v, h')) (hp : pc + 3 = pc') (k : zgt y pc' L (v :: st) h' r) : zgt y pc L (a1 :: st) h r := zg_callS (As := [a1]) hI rfl hs hc hp k
theorem zg_s2 {ix y' c0 : Nat} {v a1 a2 : Value} (hI : zI y pc = some (.invokestatic ix, y' :: 1 :: 2 :: c0 :: ax)) (hs : zcat8 st = true) (hc : zcalls zTB y' [a1, a2] h (some v, h')) (hp : pc + 3 = pc') (k : zgt y pc' L (v :: st) h' r) : zgt y pc L (a2 :: a1 :: st) h r := zg_callS (As := [a1, a2]) hI rfl hs hc hp k
theorem zg_s3 {ix y' c0 : Nat} {v a1 a2 a3 : Value} (hI : zI y pc = some (.invokestatic ix, y' :: 1 :: 3 :: c0 :: ax)) (hs : zcat8 st = true) (hc : zcalls zTB y' [a1, a2, a3] h (some v, h')) (hp : pc + 3 = pc') (k : zgt y pc' L (v :: st) h' r) : zgt y pc L (a3 :: a2 :: a1 :: st) h r := zg_callS (As := [a1, a2, a3]) hI rfl hs hc hp k
theorem zg_s4 {ix y' c0 : Nat} {v a1 a2 a3 a4 : Value} (hI : zI y pc = some (.invokestatic ix, y' :: 1 :: 4 :: c0 :: ax)) (hs : zcat8 st = true) (hc : zcalls zTB y' [a1, a2, a3, a4] h (some v, h')) (hp : pc + 3 = pc') (k : zgt y pc' L (v :: st) h' r) : zgt y pc L (a4 :: a3 :: a2 :: a1 :: st) h r := zg_callS (As := [a1, a2, a3, a4]) hI rfl hs hc hp k
theorem zg_i0 {ix y' c0 b : Nat} (hI : zI y pc = some (.invokespecial ix, y' :: 2 :: 0 :: c0 :: ax)) (hs : zcat8 (.ref b :: st) = true) (hc : zcalls zTB y' [.ref b] h (none, h')) (hp : pc + 3 = pc') (k : zgt y pc' L st h' r) : zgt y pc L (.ref b :: st) h r := zg_callI (As := []) hI rfl hs hc hp k
theorem zg_i1 {ix y' c0 b : Nat} {a1 : Value} (hI : zI y pc = some (.invokespecial ix, y' :: 2 :: 1 :: c0 :: ax)) (hs : zcat8 (.ref b :: st) = true) (hc : zcalls zTB y' [.ref b, a1] h (none, h')) (hp : pc + 3 = pc') (k : zgt y pc' L st h' r) : zgt y pc L (a1 :: .ref b :: st) h r := zg_callI (As := [a1]) hI rfl hs hc hp k
theorem zg_i2 {ix y' c0 b : Nat} {a1 a2 : Value} (hI : zI y pc = some (.invokespecial ix, y' :: 2 :: 2 :: c0 :: ax)) (hs : zcat8 (.ref b :: st) = true) (hc : zcalls zTB y' [.ref b, a1, a2] h (none, h')) (hp : pc + 3 = pc') (k : zgt y pc' L st h' r) : zgt y pc L (a2 :: a1 :: .ref b :: st) h r := zg_callI (As := [a1, a2]) hI rfl hs hc hp k
end ZGC

/-! branches whose side is known -/
section ZK
variable {y pc pc' : Nat} {L : zL} {st : List Value} {h : zH} {ax : List Nat} {cd : Jvm.ClassFile.Cond} {o : Int} {t : Nat} {x z : Int32}
theorem zr_ift {r : zR} (hI : zI y pc = some (.ifCond cd o, t :: ax)) (hc : zcnd cd x 0 = true) (k : zruns zTB y t L st h r) : zruns zTB y pc L (.int x :: st) h r := zr_if hI rfl (fun _ => k) (fun q => by rw [hc] at q; cases q)
theorem zr_iff {r : zR} (hI : zI y pc = some (.ifCond cd o, t :: ax)) (hp : pc + 3 = pc') (hc : zcnd cd x 0 = false) (k : zruns zTB y pc' L st h r) : zruns zTB y pc L (.int x :: st) h r := zr_if hI hp (fun q => by rw [hc] at q; cases q) (fun _ => k)
theorem zr_icmpt {r : zR} (hI : zI y pc = some (.if_icmp cd o, t :: ax)) (hc : zcnd cd x z = true) (k : zruns zTB y t L st h r) : zruns zTB y pc L (.int z :: .int x :: st) h r := zr_icmp hI rfl (fun _ => k) (fun q => by rw [hc] at q; cases q)
theorem zr_icmpf {r : zR} (hI : zI y pc = some (.if_icmp cd o, t :: ax)) (hp : pc + 3 = pc') (hc : zcnd cd x z = false) (k : zruns zTB y pc' L st h r) : zruns zTB y pc L (.int z :: .int x :: st) h r := zr_icmp hI hp (fun q => by rw [hc] at q; cases q) (fun _ => k)
theorem zg_ift {r : zS} (hI : zI y pc = some (.ifCond cd o, t :: ax)) (hc : zcnd cd x 0 = true) (k : zgt y t L st h r) : zgt y pc L (.int x :: st) h r := zg_if hI rfl (fun _ => k) (fun q => by rw [hc] at q; cases q)
theorem zg_iff {r : zS} (hI : zI y pc = some (.ifCond cd o, t :: ax)) (hp : pc + 3 = pc') (hc : zcnd cd x 0 = false) (k : zgt y pc' L st h r) : zgt y pc L (.int x :: st) h r := zg_if hI hp (fun q => by rw [hc] at q; cases q) (fun _ => k)
theorem zg_icmpt {r : zS} (hI : zI y pc = some (.if_icmp cd o, t :: ax)) (hc : zcnd cd x z = true) (k : zgt y t L st h r) : zgt y pc L (.int z :: .int x :: st) h r := zg_icmp hI rfl (fun _ => k) (fun q => by rw [hc] at q; cases q)
theorem zg_icmpf {r : zS} (hI : zI y pc = some (.if_icmp cd o, t :: ax)) (hp : pc + 3 = pc') (hc : zcnd cd x z = false) (k : zgt y pc' L st h r) : zgt y pc L (.int z :: .int x :: st) h r := zg_icmp hI hp (fun q => by rw [hc] at q; cases q) (fun _ => k)
/-- a long read -/
theorem zr_lald {r : zR} {i n : Nat} {f : Nat → Int64} {j : Int32} {v : Int64} (hI : zI y pc = some (.laload, ax)) (hh : h[i]? = some (.inl (1, n, .inr (.inl f)))) (hj : ¬ (j < 0 ∨ n ≤ j.toNatClampNeg)) (hv : f j.toNatClampNeg = v) (hp : pc + 1 = pc') (k : zruns zTB y pc' L (.long v :: st) h r) : zruns zTB y pc L (.int j :: .ref i :: st) h r := zruns_step hI (fun _ => by subst hp; subst hv; simp only [zstep, zbase, zlald, hh, if_neg hj, zgo]) k
theorem zr_last {r : zR} {h' : zH} {i n : Nat} {f : Nat → Int64} {j : Int32} {v : Int64} (hI : zI y pc = some (.lastore, ax)) (hi : 1 ≤ i) (hh : h[i]? = some (.inl (1, n, .inr (.inl f)))) (hj : ¬ (j < 0 ∨ n ≤ j.toNatClampNeg)) (hp : pc + 1 = pc') (hH : h.set i (.inl (1, n, .inr (.inl (vp_updL f j.toNatClampNeg v)))) = h') (k : zruns zTB y pc' L st h' r) : zruns zTB y pc L (.long v :: .int j :: .ref i :: st) h r := by
  obtain ⟨m, rfl⟩ : ∃ m, i = m + 1 := ⟨i - 1, by omega⟩
  exact zruns_step hI (fun _ => by subst hp; subst hH; simp only [zstep, zbase, zlast, hh, if_neg hj, zgo]) k
end ZK

/-! calls in the pure calculus -/
section ZRC
variable {y pc pc' : Nat} {L L' : zL} {st : List Value} {h h' : zH} {r : zR} {ax : List Nat}
theorem zr_callV {ix y' n ci b : Nat} {As : List Value} {fs : List Value} {q : zR} (hI : zI y pc = some (.invokevirtual ix, y' :: 0 :: n :: ci :: ax)) (hn : As.length = n) (hb : h[b]? = some (.inr (ci, fs))) (hs : zcat8 (.ref b :: st) = true) (hc : zcalls zTB y' (.ref b :: As) h q) (hp : pc + 3 = pc') (k : zruns zTB y pc' L (q.1.toList ++ st) q.2 r) : zruns zTB y pc L (As.reverse ++ .ref b :: st) h r := by
  subst hp
  refine zruns_call hI hc (fun C hC => ?_) k
  have h1 : n ≤ (As.reverse ++ .ref b :: st).length := by rw [List.length_append, List.length_reverse]; omega
  have h2 : (As.reverse ++ .ref b :: st).drop n = .ref b :: st := by rw [← hn, ← List.length_reverse, List.drop_left]
  have h3 : (As.reverse ++ .ref b :: st).take n = As.reverse := by rw [← hn, ← List.length_reverse, List.take_left]
  show zinv C pc (y' :: 0 :: n :: ci :: ax) L (As.reverse ++ .ref b :: st) h = _
  simp only [zinv, h1, h2, h3, zcat8_le hs, and_self, if_true, hb, List.reverse_reverse, hC]
  obtain ⟨q1, q2⟩ := q
  cases q1 <;> rfl
theorem zr_callS {ix y' n c0 : Nat} {As : List Value} {q : zR} (hI : zI y pc = some (.invokestatic ix, y' :: 1 :: n :: c0 :: ax)) (hn : As.length = n) (hs : zcat8 st = true) (hc : zcalls zTB y' As h q) (hp : pc + 3 = pc') (k : zruns zTB y pc' L (q.1.toList ++ st) q.2 r) : zruns zTB y pc L (As.reverse ++ st) h r := by
  subst hp
  refine zruns_call hI hc (fun C hC => ?_) k
  have h1 : n ≤ (As.reverse ++ st).length := by rw [List.length_append, List.length_reverse]; omega
  have h2 : (As.reverse ++ st).drop n = st := by rw [← hn, ← List.length_reverse, List.drop_left]
  have h3 : (As.reverse ++ st).take n = As.reverse := by rw [← hn, ← List.length_reverse, List.take_left]
  show zinv C pc (y' :: 1 :: n :: c0 :: ax) L (As.reverse ++ st) h = _
  simp only [zinv, h1, h2, h3, zcat8_le hs, and_self, if_true, List.reverse_reverse, hC]
  obtain ⟨q1, q2⟩ := q
  cases q1 <;> rfl
theorem zr_callI {ix y' n c0 b : Nat} {As : List Value} {q : zR} (hI : zI y pc = some (.invokespecial ix, y' :: 2 :: n :: c0 :: ax)) (hn : As.length = n) (hs : zcat8 (.ref b :: st) = true) (hc : zcalls zTB y' (.ref b :: As) h q) (hp : pc + 3 = pc') (k : zruns zTB y pc' L (q.1.toList ++ st) q.2 r) : zruns zTB y pc L (As.reverse ++ .ref b :: st) h r := by
  subst hp
  refine zruns_call hI hc (fun C hC => ?_) k
  have h1 : n ≤ (As.reverse ++ .ref b :: st).length := by rw [List.length_append, List.length_reverse]; omega
  have h2 : (As.reverse ++ .ref b :: st).drop n = .ref b :: st := by rw [← hn, ← List.length_reverse, List.drop_left]
  have h3 : (As.reverse ++ .ref b :: st).take n = As.reverse := by rw [← hn, ← List.length_reverse, List.take_left]
  show zinv C pc (y' :: 2 :: n :: c0 :: ax) L (As.reverse ++ .ref b :: st) h = _
  simp only [zinv, h1, h2, h3, zcat8_le hs, and_self, if_true, List.reverse_reverse, hC]
  obtain ⟨q1, q2⟩ := q
  cases q1 <;> rfl
theorem zr_objinit {ix z b : Nat} (hI : zI y pc = some (.invokespecial ix, z :: 5 :: ax)) (hs : zcat8 st = true) (hp : pc + 3 = pc') (k : zruns zTB y pc' L st h r) : zruns zTB y pc L (.ref b :: st) h r := zruns_step hI (fun C => by
  subst hp
  show zobj pc L (.ref b :: st) h = _
  have := zcat8_le hs
  simp only [zobj, if_neg (Nat.not_lt.mpr this), zgo]) k
theorem zr_mmax {ix z : Nat} {a c : Int32} (hI : zI y pc = some (.invokestatic ix, z :: 4 :: ax)) (hs : zcat8 st = true) (hp : pc + 3 = pc') (k : zruns zTB y pc' L (.int (if a < c then c else a) :: st) h r) : zruns zTB y pc L (.int c :: .int a :: st) h r := zruns_step hI (fun C => by
  subst hp
  show zmax pc L (.int c :: .int a :: st) h = _
  have := zcat8_le hs
  simp only [zmax, if_neg (Nat.not_lt.mpr this), zgo]) k
-- by the number of values: v an answer, n none
theorem zr_v0 {ix y' ci b : Nat} {fs : List Value} {v : Value} (hI : zI y pc = some (.invokevirtual ix, y' :: 0 :: 0 :: ci :: ax)) (hb : h[b]? = some (.inr (ci, fs))) (hs : zcat8 (.ref b :: st) = true) (hc : zcalls zTB y' [.ref b] h (some v, h')) (hp : pc + 3 = pc') (k : zruns zTB y pc' L (v :: st) h' r) : zruns zTB y pc L (.ref b :: st) h r := zr_callV (As := []) hI rfl hb hs hc hp k
theorem zr_n0 {ix y' ci b : Nat} {fs : List Value} (hI : zI y pc = some (.invokevirtual ix, y' :: 0 :: 0 :: ci :: ax)) (hb : h[b]? = some (.inr (ci, fs))) (hs : zcat8 (.ref b :: st) = true) (hc : zcalls zTB y' [.ref b] h (none, h')) (hp : pc + 3 = pc') (k : zruns zTB y pc' L st h' r) : zruns zTB y pc L (.ref b :: st) h r := zr_callV (As := []) hI rfl hb hs hc hp k
theorem zr_v1 {ix y' ci b : Nat} {fs : List Value} {v a1 : Value} (hI : zI y pc = some (.invokevirtual ix, y' :: 0 :: 1 :: ci :: ax)) (hb : h[b]? = some (.inr (ci, fs))) (hs : zcat8 (.ref b :: st) = true) (hc : zcalls zTB y' [.ref b, a1] h (some v, h')) (hp : pc + 3 = pc') (k : zruns zTB y pc' L (v :: st) h' r) : zruns zTB y pc L (a1 :: .ref b :: st) h r := zr_callV (As := [a1]) hI rfl hb hs hc hp k
theorem zr_n1 {ix y' ci b : Nat} {fs : List Value} {a1 : Value} (hI : zI y pc = some (.invokevirtual ix, y' :: 0 :: 1 :: ci :: ax)) (hb : h[b]? = some (.inr (ci, fs))) (hs : zcat8 (.ref b :: st) = true) (hc : zcalls zTB y' [.ref b, a1] h (none, h')) (hp : pc + 3 = pc') (k : zruns zTB y pc' L st h' r) : zruns zTB y pc L (a1 :: .ref b :: st) h r := zr_callV (As := [a1]) hI rfl hb hs hc hp k
theorem zr_v2 {ix y' ci b : Nat} {fs : List Value} {v a1 a2 : Value} (hI : zI y pc = some (.invokevirtual ix, y' :: 0 :: 2 :: ci :: ax)) (hb : h[b]? = some (.inr (ci, fs))) (hs : zcat8 (.ref b :: st) = true) (hc : zcalls zTB y' [.ref b, a1, a2] h (some v, h')) (hp : pc + 3 = pc') (k : zruns zTB y pc' L (v :: st) h' r) : zruns zTB y pc L (a2 :: a1 :: .ref b :: st) h r := zr_callV (As := [a1, a2]) hI rfl hb hs hc hp k
theorem zr_n2 {ix y' ci b : Nat} {fs : List Value} {a1 a2 : Value} (hI : zI y pc = some (.invokevirtual ix, y' :: 0 :: 2 :: ci :: ax)) (hb : h[b]? = some (.inr (ci, fs))) (hs : zcat8 (.ref b :: st) = true) (hc : zcalls zTB y' [.ref b, a1, a2] h (none, h')) (hp : pc + 3 = pc') (k : zruns zTB y pc' L st h' r) : zruns zTB y pc L (a2 :: a1 :: .ref b :: st) h r := zr_callV (As := [a1, a2]) hI rfl hb hs hc hp k
theorem zr_v3 {ix y' ci b : Nat} {fs : List Value} {v a1 a2 a3 : Value} (hI : zI y pc = some (.invokevirtual ix, y' :: 0 :: 3 :: ci :: ax)) (hb : h[b]? = some (.inr (ci, fs))) (hs : zcat8 (.ref b :: st) = true) (hc : zcalls zTB y' [.ref b, a1, a2, a3] h (some v, h')) (hp : pc + 3 = pc') (k : zruns zTB y pc' L (v :: st) h' r) : zruns zTB y pc L (a3 :: a2 :: a1 :: .ref b :: st) h r := zr_callV (As := [a1, a2, a3]) hI rfl hb hs hc hp k
theorem zr_n3 {ix y' ci b : Nat} {fs : List Value} {a1 a2 a3 : Value} (hI : zI y pc = some (.invokevirtual ix, y' :: 0 :: 3 :: ci :: ax)) (hb : h[b]? = some (.inr (ci, fs))) (hs : zcat8 (.ref b :: st) = true) (hc : zcalls zTB y' [.ref b, a1, a2, a3] h (none, h')) (hp : pc + 3 = pc') (k : zruns zTB y pc' L st h' r) : zruns zTB y pc L (a3 :: a2 :: a1 :: .ref b :: st) h r := zr_callV (As := [a1, a2, a3]) hI rfl hb hs hc hp k
theorem zr_v4 {ix y' ci b : Nat} {fs : List Value} {v a1 a2 a3 a4 : Value} (hI : zI y pc = some (.invokevirtual ix, y' :: 0 :: 4 :: ci :: ax)) (hb : h[b]? = some (.inr (ci, fs))) (hs : zcat8 (.ref b :: st) = true) (hc : zcalls zTB y' [.ref b, a1, a2, a3, a4] h (some v, h')) (hp : pc + 3 = pc') (k : zruns zTB y pc' L (v :: st) h' r) : zruns zTB y pc L (a4 :: a3 :: a2 :: a1 :: .ref b :: st) h r := zr_callV (As := [a1, a2, a3, a4]) hI rfl hb hs hc hp k
theorem zr_n4 {ix y' ci b : Nat} {fs : List Value} {a1 a2 a3 a4 : Value} (hI : zI y pc = some (.invokevirtual ix, y' :: 0 :: 4 :: ci :: ax)) (hb : h[b]? = some (.inr (ci, fs))) (hs : zcat8 (.ref b :: st) = true) (hc : zcalls zTB y' [.ref b, a1, a2, a3, a4] h (none, h')) (hp : pc + 3 = pc') (k : zruns zTB y pc' L st h' r) : zruns zTB y pc L (a4 :: a3 :: a2 :: a1 :: .ref b :: st) h r := zr_callV (As := [a1, a2, a3, a4]) hI rfl hb hs hc hp k
theorem zr_s1 {ix y' c0 : Nat} {v a1 : Value} (hI : zI y pc = some (.invokestatic ix, y' :: 1 :: 1 :: c0 :: ax)) (hs : zcat8 st = true) (hc : zcalls zTB y' [a1] h (some v, h')) (hp : pc + 3 = pc') (k : zruns zTB y pc' L (v :: st) h' r) : zruns zTB y pc L (a1 :: st) h r := zr_callS (As := [a1]) hI rfl hs hc hp k
theorem zr_s2 {ix y' c0 : Nat} {v a1 a2 : Value} (hI : zI y pc = some (.invokestatic ix, y' :: 1 :: 2 :: c0 :: ax)) (hs : zcat8 st = true) (hc : zcalls zTB y' [a1, a2] h (some v, h')) (hp : pc + 3 = pc') (k : zruns zTB y pc' L (v :: st) h' r) : zruns zTB y pc L (a2 :: a1 :: st) h r := zr_callS (As := [a1, a2]) hI rfl hs hc hp k
theorem zr_s3 {ix y' c0 : Nat} {v a1 a2 a3 : Value} (hI : zI y pc = some (.invokestatic ix, y' :: 1 :: 3 :: c0 :: ax)) (hs : zcat8 st = true) (hc : zcalls zTB y' [a1, a2, a3] h (some v, h')) (hp : pc + 3 = pc') (k : zruns zTB y pc' L (v :: st) h' r) : zruns zTB y pc L (a3 :: a2 :: a1 :: st) h r := zr_callS (As := [a1, a2, a3]) hI rfl hs hc hp k
theorem zr_s4 {ix y' c0 : Nat} {v a1 a2 a3 a4 : Value} (hI : zI y pc = some (.invokestatic ix, y' :: 1 :: 4 :: c0 :: ax)) (hs : zcat8 st = true) (hc : zcalls zTB y' [a1, a2, a3, a4] h (some v, h')) (hp : pc + 3 = pc') (k : zruns zTB y pc' L (v :: st) h' r) : zruns zTB y pc L (a4 :: a3 :: a2 :: a1 :: st) h r := zr_callS (As := [a1, a2, a3, a4]) hI rfl hs hc hp k
theorem zr_i0 {ix y' c0 b : Nat} (hI : zI y pc = some (.invokespecial ix, y' :: 2 :: 0 :: c0 :: ax)) (hs : zcat8 (.ref b :: st) = true) (hc : zcalls zTB y' [.ref b] h (none, h')) (hp : pc + 3 = pc') (k : zruns zTB y pc' L st h' r) : zruns zTB y pc L (.ref b :: st) h r := zr_callI (As := []) hI rfl hs hc hp k
theorem zr_i1 {ix y' c0 b : Nat} {a1 : Value} (hI : zI y pc = some (.invokespecial ix, y' :: 2 :: 1 :: c0 :: ax)) (hs : zcat8 (.ref b :: st) = true) (hc : zcalls zTB y' [.ref b, a1] h (none, h')) (hp : pc + 3 = pc') (k : zruns zTB y pc' L st h' r) : zruns zTB y pc L (a1 :: .ref b :: st) h r := zr_callI (As := [a1]) hI rfl hs hc hp k
theorem zr_i2 {ix y' c0 b : Nat} {a1 a2 : Value} (hI : zI y pc = some (.invokespecial ix, y' :: 2 :: 2 :: c0 :: ax)) (hs : zcat8 (.ref b :: st) = true) (hc : zcalls zTB y' [.ref b, a1, a2] h (none, h')) (hp : pc + 3 = pc') (k : zruns zTB y pc' L st h' r) : zruns zTB y pc L (a2 :: a1 :: .ref b :: st) h r := zr_callI (As := [a1, a2]) hI rfl hs hc hp k
end ZRC

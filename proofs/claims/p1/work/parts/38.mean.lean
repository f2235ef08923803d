theorem zi_124_0 : zI 124 0 = some (.aload_n 0, []) := by decide +kernel
theorem zi_124_1 : zI 124 1 = some (.getfield 29, [6, 3, 54]) := by decide +kernel
theorem zi_124_4 : zI 124 4 = some (.getfield 129, [3, 8, 162]) := by decide +kernel
theorem zi_124_7 : zI 124 7 = some (.ifCond .gt 5, [12]) := by decide +kernel
theorem zi_124_10 : zI 124 10 = some (.dconst 0, []) := by decide +kernel
theorem zi_124_11 : zI 124 11 = some (.dreturn, []) := by decide +kernel
theorem zi_124_12 : zI 124 12 = some (.aload_n 0, []) := by decide +kernel
theorem zi_124_13 : zI 124 13 = some (.getfield 29, [6, 3, 54]) := by decide +kernel
theorem zi_124_16 : zI 124 16 = some (.invokevirtual 235, [86, 0, 0, 3, 531, 532, 61, 530, 0, 529]) := by decide +kernel
theorem zi_124_19 : zI 124 19 = some (.i2d, []) := by decide +kernel
theorem zi_124_20 : zI 124 20 = some (.aload_n 0, []) := by decide +kernel
theorem zi_124_21 : zI 124 21 = some (.getfield 29, [6, 3, 54]) := by decide +kernel
theorem zi_124_24 : zI 124 24 = some (.getfield 129, [3, 8, 162]) := by decide +kernel
theorem zi_124_27 : zI 124 27 = some (.i2d, []) := by decide +kernel
theorem zi_124_28 : zI 124 28 = some (.ddiv, []) := by decide +kernel
theorem zi_124_29 : zI 124 29 = some (.dreturn, []) := by decide +kernel
/-! the mean of sessions -/
theorem fp_fin : ∀ a, a < 71 → ∀ s, s < 70 → FP.ddiv (FP.i2d (nI a)) (FP.i2d (nI (s + 1))) &&& 0x7fffffffffffffff ≤ 0x7ff0000000000000 := by decide +kernel
section
variable {b : Nat} {F : Nat → Nat → Int32} {g : Nat → Nat} {h : zH} {x : Nat → Nat} {sh gp wi bk : Nat}
/-- how many lines have a key -/
def zkeys (F : Nat → Nat → Int32) (n : Nat) : Nat := zcnt (zkp F) n
def zmean (K S : Nat) : UInt64 := if S = 0 then 0 else FP.ddiv (FP.i2d (nI K)) (FP.i2d (nI S))
theorem c_meanSession (hb : b + 71 ≤ h.length) (q : zOk F g x sh gp wi bk) : zcalls zTB 124 [.ref b] (nput b F g h) (some (.double (zmean (zkeys F (g 0)) (g 4))), nput b F g h) := by
  have hS := q.S70
  have hn := q.nb.n70
  obtain ⟨C, Z, qs⟩ := q.to.se
  have hl := c_howManyLines hb (F := F) (g := g) hS Z (fun s hs => (qs.sz s hs).2.2.2.2.1)
  rw [qs.sm] at hl
  have hk : zcnt (zkp F) (g 0) ≤ 70 := Nat.le_trans (zcnt_le _ _) hn
  refine zcalls_of (Nat.le_of_ble_eq_true rfl) ?_
  show zruns zTB 124 0 [some (.ref b)] [] _ _
  refine zr_aload_n (pc' := 1) zi_124_0 rfl rfl ?_
  refine zr_get (pc' := 4) zi_124_1 (nput_at hb (k := 0) rfl) rfl rfl ?_
  refine zr_get (pc' := 7) zi_124_4 (nput_at hb (k := 26) rfl) rfl rfl ?_
  refine zr_if (pc' := 10) zi_124_7 rfl (fun h7 => ?_) (fun h7 => ?_)
  · replace h7 := zx_gt_t h7
    have h0 : g 4 ≠ 0 := fun e => by rw [e] at h7; exact absurd h7 (by decide)
    have hfin : FP.ddiv (FP.i2d (nI (zkeys F (g 0)))) (FP.i2d (nI (g 4))) &&& 0x7fffffffffffffff ≤ 0x7ff0000000000000 := by
      have := fp_fin (zcnt (zkp F) (g 0)) (by omega) (g 4 - 1) (by omega)
      rw [show g 4 - 1 + 1 = g 4 by omega] at this
      exact this
    unfold zmean
    rw [if_neg h0]
    refine zr_aload_n (pc' := 13) zi_124_12 rfl rfl ?_
    refine zr_get (pc' := 16) zi_124_13 (nput_at hb (k := 0) rfl) rfl rfl ?_
    refine zr_v0 (pc' := 19) zi_124_16 (nput_at hb (k := 26) rfl) rfl hl rfl ?_
    refine zr_i2d (pc' := 20) zi_124_19 rfl ?_
    refine zr_aload_n (pc' := 21) zi_124_20 rfl rfl ?_
    refine zr_get (pc' := 24) zi_124_21 (nput_at hb (k := 0) rfl) rfl rfl ?_
    refine zr_get (pc' := 27) zi_124_24 (nput_at hb (k := 26) rfl) rfl rfl ?_
    refine zr_i2d (pc' := 28) zi_124_27 rfl ?_
    refine zr_ddiv zi_124_28 hfin rfl (pc' := 29) ?_
    exact zr_dreturn zi_124_29 rfl
  · replace h7 := zx_gt_f h7
    have h0 : g 4 = 0 := Nat.le_antisymm (Nat.le_of_not_lt fun w => h7 (nI_lt w (by omega) : nI 0 < _)) (Nat.zero_le _)
    unfold zmean
    rw [if_pos h0]
    refine zr_dconst (pc' := 11) zi_124_10 rfl ?_
    exact zr_dreturn zi_124_11 rfl
end


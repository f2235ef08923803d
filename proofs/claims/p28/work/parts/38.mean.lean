theorem zi_89_0 : zI 89 0 = some (.aload_n 0, []) := by decide +kernel
theorem zi_89_1 : zI 89 1 = some (.getfield 29, [6, 3, 25]) := by decide +kernel
theorem zi_89_4 : zI 89 4 = some (.getfield 129, [3, 8, 110]) := by decide +kernel
theorem zi_89_7 : zI 89 7 = some (.ifCond .gt 5, [12]) := by decide +kernel
theorem zi_89_10 : zI 89 10 = some (.dconst 0, []) := by decide +kernel
theorem zi_89_11 : zI 89 11 = some (.dreturn, []) := by decide +kernel
theorem zi_89_12 : zI 89 12 = some (.aload_n 0, []) := by decide +kernel
theorem zi_89_13 : zI 89 13 = some (.getfield 29, [6, 3, 25]) := by decide +kernel
theorem zi_89_16 : zI 89 16 = some (.invokevirtual 235, [72, 0, 0, 3, 454, 455, 53, 453, 0, 452]) := by decide +kernel
theorem zi_89_19 : zI 89 19 = some (.i2d, []) := by decide +kernel
theorem zi_89_20 : zI 89 20 = some (.aload_n 0, []) := by decide +kernel
theorem zi_89_21 : zI 89 21 = some (.getfield 29, [6, 3, 25]) := by decide +kernel
theorem zi_89_24 : zI 89 24 = some (.getfield 129, [3, 8, 110]) := by decide +kernel
theorem zi_89_27 : zI 89 27 = some (.i2d, []) := by decide +kernel
theorem zi_89_28 : zI 89 28 = some (.ddiv, []) := by decide +kernel
theorem zi_89_29 : zI 89 29 = some (.dreturn, []) := by decide +kernel
/-! the mean of sessions -/
theorem fp_fin : ∀ a, a < 71 → ∀ s, s < 70 → FP.ddiv (FP.i2d (nI a)) (FP.i2d (nI (s + 1))) &&& 0x7fffffffffffffff ≤ 0x7ff0000000000000 := by decide +kernel
section
variable {b : Nat} {F : Nat → Nat → Int32} {g : Nat → Nat} {h : zH} {x : Nat → Nat} {sh gp wi bk : Nat}
/-- how many lines have a key -/
def zkeys (F : Nat → Nat → Int32) (n : Nat) : Nat := zcnt (zkp F) n
def zmean (K S : Nat) : UInt64 := if S = 0 then 0 else FP.ddiv (FP.i2d (nI K)) (FP.i2d (nI S))
theorem c_meanSession (hb : b + 71 ≤ h.length) (q : zOk F g x sh gp wi bk) : zcalls zTB 89 [.ref b] (nput b F g h) (some (.double (zmean (zkeys F (g 0)) (g 4))), nput b F g h) := by
  have hS := q.S70
  have hn := q.nb.n70
  obtain ⟨C, Z, qs⟩ := q.to.se
  have hl := c_howManyLines hb (F := F) (g := g) hS Z (fun s hs => (qs.sz s hs).2.2.2.2.1)
  rw [qs.sm] at hl
  have hk : zcnt (zkp F) (g 0) ≤ 70 := Nat.le_trans (zcnt_le _ _) hn
  refine zcalls_of (Nat.le_of_ble_eq_true rfl) ?_
  show zruns zTB 89 0 [some (.ref b)] [] _ _
  refine zr_aload_n (pc' := 1) zi_89_0 rfl rfl ?_
  refine zr_get (pc' := 4) zi_89_1 (nput_at hb (k := 0) rfl) rfl rfl ?_
  refine zr_get (pc' := 7) zi_89_4 (nput_at hb (k := 26) rfl) rfl rfl ?_
  refine zr_if (pc' := 10) zi_89_7 rfl (fun h7 => ?_) (fun h7 => ?_)
  · replace h7 := zx_gt_t h7
    have h0 : g 4 ≠ 0 := fun e => by rw [e] at h7; exact absurd h7 (by decide)
    have hfin : FP.ddiv (FP.i2d (nI (zkeys F (g 0)))) (FP.i2d (nI (g 4))) &&& 0x7fffffffffffffff ≤ 0x7ff0000000000000 := by
      have := fp_fin (zcnt (zkp F) (g 0)) (by omega) (g 4 - 1) (by omega)
      rw [show g 4 - 1 + 1 = g 4 by omega] at this
      exact this
    unfold zmean
    rw [if_neg h0]
    refine zr_aload_n (pc' := 13) zi_89_12 rfl rfl ?_
    refine zr_get (pc' := 16) zi_89_13 (nput_at hb (k := 0) rfl) rfl rfl ?_
    refine zr_v0 (pc' := 19) zi_89_16 (nput_at hb (k := 26) rfl) rfl hl rfl ?_
    refine zr_i2d (pc' := 20) zi_89_19 rfl ?_
    refine zr_aload_n (pc' := 21) zi_89_20 rfl rfl ?_
    refine zr_get (pc' := 24) zi_89_21 (nput_at hb (k := 0) rfl) rfl rfl ?_
    refine zr_get (pc' := 27) zi_89_24 (nput_at hb (k := 26) rfl) rfl rfl ?_
    refine zr_i2d (pc' := 28) zi_89_27 rfl ?_
    refine zr_ddiv zi_89_28 hfin rfl (pc' := 29) ?_
    exact zr_dreturn zi_89_29 rfl
  · replace h7 := zx_gt_f h7
    have h0 : g 4 = 0 := Nat.le_antisymm (Nat.le_of_not_lt fun w => h7 (nI_lt w (by omega) : nI 0 < _)) (Nat.zero_le _)
    unfold zmean
    rw [if_pos h0]
    refine zr_dconst (pc' := 11) zi_89_10 rfl ?_
    exact zr_dreturn zi_89_11 rfl
end


theorem zi_83_0 : zI 83 0 = some (.iload_n 1, []) := by decide +kernel
theorem zi_83_1 : zI 83 1 = some (.sipush 9999, []) := by decide +kernel
theorem zi_83_4 : zI 83 4 = some (.invokestatic 60, [6, 1, 2, 0, 12, 0, 9, 11, 0, 10]) := by decide +kernel
theorem zi_83_7 : zI 83 7 = some (.ifCond .eq 20, [27]) := by decide +kernel
theorem zi_83_10 : zI 83 10 = some (.iload_n 2, []) := by decide +kernel
theorem zi_83_11 : zI 83 11 = some (.bipush 7, []) := by decide +kernel
theorem zi_83_13 : zI 83 13 = some (.invokestatic 60, [6, 1, 2, 0, 12, 0, 9, 11, 0, 10]) := by decide +kernel
theorem zi_83_16 : zI 83 16 = some (.ifCond .eq 11, [27]) := by decide +kernel
theorem zi_83_19 : zI 83 19 = some (.iload_n 3, []) := by decide +kernel
theorem zi_83_20 : zI 83 20 = some (.iconst 3, []) := by decide +kernel
theorem zi_83_21 : zI 83 21 = some (.invokestatic 60, [6, 1, 2, 0, 12, 0, 9, 11, 0, 10]) := by decide +kernel
theorem zi_83_24 : zI 83 24 = some (.ifCond .ne 13, [37]) := by decide +kernel
theorem zi_83_37 : zI 83 37 = some (.aload_n 0, []) := by decide +kernel
theorem zi_83_38 : zI 83 38 = some (.getfield 12, [6, 0, 13]) := by decide +kernel
theorem zi_83_41 : zI 83 41 = some (.getfield 71, [0, 7, 108]) := by decide +kernel
theorem zi_83_44 : zI 83 44 = some (.bipush 70, []) := by decide +kernel
theorem zi_83_46 : zI 83 46 = some (.if_icmp .lt 13, [59]) := by decide +kernel
theorem zi_83_59 : zI 83 59 = some (.aload_n 0, []) := by decide +kernel
theorem zi_83_60 : zI 83 60 = some (.getfield 12, [6, 0, 13]) := by decide +kernel
theorem zi_83_63 : zI 83 63 = some (.getfield 71, [0, 7, 108]) := by decide +kernel
theorem zi_83_66 : zI 83 66 = some (.ifCond .le 36, [102]) := by decide +kernel
theorem zi_83_69 : zI 83 69 = some (.iload_n 1, []) := by decide +kernel
theorem zi_83_70 : zI 83 70 = some (.aload_n 0, []) := by decide +kernel
theorem zi_83_71 : zI 83 71 = some (.getfield 12, [6, 0, 13]) := by decide +kernel
theorem zi_83_74 : zI 83 74 = some (.getfield 80, [0, 0, 14]) := by decide +kernel
theorem zi_83_77 : zI 83 77 = some (.aload_n 0, []) := by decide +kernel
theorem zi_83_78 : zI 83 78 = some (.getfield 12, [6, 0, 13]) := by decide +kernel
theorem zi_83_81 : zI 83 81 = some (.getfield 71, [0, 7, 108]) := by decide +kernel
theorem zi_83_84 : zI 83 84 = some (.iconst 1, []) := by decide +kernel
theorem zi_83_85 : zI 83 85 = some (.isub, []) := by decide +kernel
theorem zi_83_86 : zI 83 86 = some (.invokevirtual 83, [0, 0, 1, 1, 17, 18, 19, 16, 0, 15]) := by decide +kernel
theorem zi_83_89 : zI 83 89 = some (.if_icmp .ge 13, [102]) := by decide +kernel
theorem zi_83_102 : zI 83 102 = some (.aload_n 0, []) := by decide +kernel
theorem zi_83_103 : zI 83 103 = some (.getfield 12, [6, 0, 13]) := by decide +kernel
theorem zi_83_106 : zI 83 106 = some (.iload_n 1, []) := by decide +kernel
theorem zi_83_107 : zI 83 107 = some (.iload_n 2, []) := by decide +kernel
theorem zi_83_108 : zI 83 108 = some (.iload_n 3, []) := by decide +kernel
theorem zi_83_109 : zI 83 109 = some (.invokevirtual 89, [48, 0, 3, 0, 436, 437, 91, 435, 0, 434]) := by decide +kernel
theorem zi_83_112 : zI 83 112 = some (.istore 4, []) := by decide +kernel
theorem zi_83_114 : zI 83 114 = some (.aload_n 0, []) := by decide +kernel
theorem zi_83_115 : zI 83 115 = some (.invokevirtual 93, [29, 0, 0, 6, 440, 441, 9, 439, 0, 438]) := by decide +kernel
theorem zi_83_118 : zI 83 118 = some (.iload 4, []) := by decide +kernel
theorem zi_83_120 : zI 83 120 = some (.ireturn, []) := by decide +kernel
theorem zi_84_0 : zI 84 0 = some (.iload_n 1, []) := by decide +kernel
theorem zi_84_1 : zI 84 1 = some (.sipush 999, []) := by decide +kernel
theorem zi_84_4 : zI 84 4 = some (.invokestatic 60, [6, 1, 2, 0, 12, 0, 9, 11, 0, 10]) := by decide +kernel
theorem zi_84_7 : zI 84 7 = some (.ifCond .ne 13, [20]) := by decide +kernel
theorem zi_84_20 : zI 84 20 = some (.aload_n 0, []) := by decide +kernel
theorem zi_84_21 : zI 84 21 = some (.getfield 12, [6, 0, 13]) := by decide +kernel
theorem zi_84_24 : zI 84 24 = some (.getfield 71, [0, 7, 108]) := by decide +kernel
theorem zi_84_27 : zI 84 27 = some (.iconst 1, []) := by decide +kernel
theorem zi_84_28 : zI 84 28 = some (.isub, []) := by decide +kernel
theorem zi_84_29 : zI 84 29 = some (.istore_n 2, []) := by decide +kernel
theorem zi_84_30 : zI 84 30 = some (.iload_n 2, []) := by decide +kernel
theorem zi_84_31 : zI 84 31 = some (.ifCond .lt 30, [61]) := by decide +kernel
theorem zi_84_34 : zI 84 34 = some (.aload_n 0, []) := by decide +kernel
theorem zi_84_35 : zI 84 35 = some (.getfield 12, [6, 0, 13]) := by decide +kernel
theorem zi_84_38 : zI 84 38 = some (.getfield 98, [0, 3, 22]) := by decide +kernel
theorem zi_84_41 : zI 84 41 = some (.iload_n 2, []) := by decide +kernel
theorem zi_84_42 : zI 84 42 = some (.invokevirtual 83, [0, 0, 1, 1, 17, 18, 19, 16, 0, 15]) := by decide +kernel
theorem zi_84_45 : zI 84 45 = some (.bipush 8, []) := by decide +kernel
theorem zi_84_47 : zI 84 47 = some (.if_icmp .ge 14, [61]) := by decide +kernel
theorem zi_84_50 : zI 84 50 = some (.aload_n 0, []) := by decide +kernel
theorem zi_84_51 : zI 84 51 = some (.getfield 12, [6, 0, 13]) := by decide +kernel
theorem zi_84_54 : zI 84 54 = some (.getfield 101, [0, 8, 109]) := by decide +kernel
theorem zi_84_57 : zI 84 57 = some (.iload_n 2, []) := by decide +kernel
theorem zi_84_58 : zI 84 58 = some (.if_icmp .le 13, [71]) := by decide +kernel
theorem zi_84_71 : zI 84 71 = some (.aload_n 0, []) := by decide +kernel
theorem zi_84_72 : zI 84 72 = some (.getfield 12, [6, 0, 13]) := by decide +kernel
theorem zi_84_75 : zI 84 75 = some (.iload_n 2, []) := by decide +kernel
theorem zi_84_76 : zI 84 76 = some (.iload_n 1, []) := by decide +kernel
theorem zi_84_77 : zI 84 77 = some (.invokevirtual 106, [49, 0, 2, 0, 444, 445, 91, 443, 0, 442]) := by decide +kernel
theorem zi_84_80 : zI 84 80 = some (.ireturn, []) := by decide +kernel
theorem zi_86_0 : zI 86 0 = some (.iload_n 1, []) := by decide +kernel
theorem zi_86_1 : zI 86 1 = some (.iconst 3, []) := by decide +kernel
theorem zi_86_2 : zI 86 2 = some (.invokestatic 60, [6, 1, 2, 0, 12, 0, 9, 11, 0, 10]) := by decide +kernel
theorem zi_86_5 : zI 86 5 = some (.ifCond .ne 13, [18]) := by decide +kernel
theorem zi_86_18 : zI 86 18 = some (.iload_n 1, []) := by decide +kernel
theorem zi_86_19 : zI 86 19 = some (.iconst 2, []) := by decide +kernel
theorem zi_86_20 : zI 86 20 = some (.if_icmp .ne 7, [27]) := by decide +kernel
theorem zi_86_23 : zI 86 23 = some (.iconst 1, []) := by decide +kernel
theorem zi_86_24 : zI 86 24 = some (.goto 4, [28]) := by decide +kernel
theorem zi_86_27 : zI 86 27 = some (.iconst 0, []) := by decide +kernel
theorem zi_86_28 : zI 86 28 = some (.istore_n 3, []) := by decide +kernel
theorem zi_86_29 : zI 86 29 = some (.iload_n 1, []) := by decide +kernel
theorem zi_86_30 : zI 86 30 = some (.ifCond .ne 8, [38]) := by decide +kernel
theorem zi_86_33 : zI 86 33 = some (.bipush 100, []) := by decide +kernel
theorem zi_86_35 : zI 86 35 = some (.goto 6, [41]) := by decide +kernel
theorem zi_86_38 : zI 86 38 = some (.sipush 1000, []) := by decide +kernel
theorem zi_86_41 : zI 86 41 = some (.istore 4, []) := by decide +kernel
theorem zi_86_43 : zI 86 43 = some (.iload_n 2, []) := by decide +kernel
theorem zi_86_44 : zI 86 44 = some (.iload_n 3, []) := by decide +kernel
theorem zi_86_45 : zI 86 45 = some (.if_icmp .lt 9, [54]) := by decide +kernel
theorem zi_86_48 : zI 86 48 = some (.iload_n 2, []) := by decide +kernel
theorem zi_86_49 : zI 86 49 = some (.iload 4, []) := by decide +kernel
theorem zi_86_51 : zI 86 51 = some (.if_icmp .le 13, [64]) := by decide +kernel
theorem zi_86_64 : zI 86 64 = some (.aload_n 0, []) := by decide +kernel
theorem zi_86_65 : zI 86 65 = some (.getfield 52, [6, 6, 27]) := by decide +kernel
theorem zi_86_68 : zI 86 68 = some (.iload_n 1, []) := by decide +kernel
theorem zi_86_69 : zI 86 69 = some (.invokevirtual 83, [0, 0, 1, 1, 17, 18, 19, 16, 0, 15]) := by decide +kernel
theorem zi_86_72 : zI 86 72 = some (.istore 5, []) := by decide +kernel
theorem zi_86_74 : zI 86 74 = some (.aload_n 0, []) := by decide +kernel
theorem zi_86_75 : zI 86 75 = some (.getfield 52, [6, 6, 27]) := by decide +kernel
theorem zi_86_78 : zI 86 78 = some (.iload_n 1, []) := by decide +kernel
theorem zi_86_79 : zI 86 79 = some (.iload_n 2, []) := by decide +kernel
theorem zi_86_80 : zI 86 80 = some (.invokevirtual 56, [1, 0, 2, 1, 282, 283, 19, 281, 0, 433]) := by decide +kernel
theorem zi_86_83 : zI 86 83 = some (.aload_n 0, []) := by decide +kernel
theorem zi_86_84 : zI 86 84 = some (.invokevirtual 93, [29, 0, 0, 6, 440, 441, 9, 439, 0, 438]) := by decide +kernel
theorem zi_86_87 : zI 86 87 = some (.iload 5, []) := by decide +kernel
theorem zi_86_89 : zI 86 89 = some (.ireturn, []) := by decide +kernel
/-! what is called: line, word, set -/
def zOk (F : Nat → Nat → Int32) (g : Nat → Nat) (x : Nat → Nat) (sh gp wi bk : Nat) : Prop :=
  (zNb F g x sh gp wi bk) ∧
  (zTo F g x wi)
theorem zOk.nb {F : Nat → Nat → Int32} {g : Nat → Nat} {x : Nat → Nat} {sh gp wi bk : Nat} (q : zOk F g x sh gp wi bk) : zNb F g x sh gp wi bk := q.1
theorem zOk.to {F : Nat → Nat → Int32} {g : Nat → Nat} {x : Nat → Nat} {sh gp wi bk : Nat} (q : zOk F g x sh gp wi bk) : zTo F g x wi := q.2
theorem c_inN {H : zH} (a z : Nat) (h : a ≤ z) (hz : z < 2 ^ 31) : zcalls zTB 6 [.int (nI a), .int (nI z)] H (some (.int 1), H) := by
  have hc := c_isWithin (H := H) (nI a) (nI z)
  rw [if_pos ⟨nI_pos' (by omega), nI_le h hz⟩] at hc
  exact hc
/-- the rows that are given are as they were, and so is what counts them -/
def zsmB (F F' : Nat → Nat → Int32) (g g' : Nat → Nat) : Prop := (∀ r, zbr r = true → F' r = F r) ∧ ∀ k, k < 3 → g' k = g k
section
variable {b : Nat} {h : zH}
/-- a line is added, nothing else that is given is changed -/
def zlin (F F' : Nat → Nat → Int32) (g g' : Nat → Nat) (t y z : Int32) : Prop := F' 0 = upd (F 0) (g 0) t ∧ F' 1 = upd (F 1) (g 0) y ∧ F' 2 = upd (F 2) (g 0) z ∧ F' 3 = upd (F 3) (g 0) (nI 0) ∧ F' 5 = upd (F 5) (g 0) (-1) ∧ F' 4 = F 4 ∧ F' 7 = F 7 ∧ F' 8 = F 8 ∧ F' 31 = F 31 ∧ g' 0 = g 0 + 1 ∧ g' 1 = g 1 ∧ g' 2 = g 2
theorem zNb_line {F F' : Nat → Nat → Int32} {g g' : Nat → Nat} {x : Nat → Nat} {sh gp wi bk t : Nat} {y z : Int32} (q : zNb F g x sh gp wi bk) (hn : g 0 < 70) (ht : t ≤ 9999) (hx : ∀ i, i < g 0 → x i ≤ t) (w : zlin F F' g g' (nI t) y z) : zNb F' g' (nup x (g 0) t) sh gp wi bk := by
  obtain ⟨w0, w1, w2, w3, w5, w4, w7, w8, w31, v0, v1, v2⟩ := w
  have hm := q.mn
  unfold zNb
  rw [w0, w3, w5, w4, w7, w8, w31, v0, v1, v2]
  refine ⟨by omega, by omega, q.t20, fun i hi => ?_, fun i j h1 h2 => ?_, fun i hi => ?_, fun i hi c hc e p hp => ?_, q.ts, fun i h1 h2 => ?_, fun i hi => ?_, q.s0, q.s1, q.s2, q.s3⟩
  · rcases Nat.lt_or_ge i (g 0) with k | k
    · rw [pk_un (by omega), nup_ne (by omega)]
      exact q.tm i k
    · rw [show i = g 0 by omega, pk_us, nup_eq]
      exact ⟨rfl, ht⟩
  · rcases Nat.lt_or_ge j (g 0) with k | k
    · rw [nup_ne (by omega), nup_ne (by omega)]
      exact q.mo i j h1 k
    · rw [show j = g 0 by omega, nup_eq]
      rcases Nat.lt_or_ge i (g 0) with l | l
      · rw [nup_ne (by omega)]
        exact hx i l
      · rw [show i = g 0 by omega, nup_eq]
        exact Nat.le_refl _
  · rcases Nat.lt_or_ge i (g 0) with k | k
    · rw [pk_un (by omega)]
      exact q.sz i k
    · rw [show i = g 0 by omega, pk_us]
      exact ⟨0, by omega, rfl⟩
  · rcases Nat.lt_or_ge i (g 0) with k | k
    · rw [pk_un (by omega)] at e
      exact q.wd i k c hc e p hp
    · rw [show i = g 0 by omega, pk_us] at e
      have := (nI_eq (by omega) (by omega)).mp e
      omega
  · rcases Nat.lt_or_ge i (g 0) with k | k
    · rw [pk_un (by omega)]
      exact q.o1 i h1 k
    · rw [show i = g 0 by omega, pk_us]
  · rw [pk_un (by omega), pk_un (by omega)]
    exact q.o2 i hi
theorem c_line (hb : b + 71 ≤ h.length) (F : Nat → Nat → Int32) (g : Nat → Nat) (x : Nat → Nat) (sh gp wi bk t y z : Nat) (q : zNb F g x sh gp wi bk) (hn : g 0 < 70) (ht : t ≤ 9999) (hx : ∀ i, i < g 0 → x i ≤ t) (hy : y ≤ 7) (hz : z ≤ 3) : ∃ F' g', (zlin F F' g g' (nI t) (nI y) (nI z) ∧ zOk F' g' (nup x (g 0) t) sh gp wi bk) ∧ zcalls zTB 83 [.ref b, .int (nI t), .int (nI y), .int (nI z)] (nput b F g h) (some (.int (nI (g 0))), nput b F' g' h) := by
  obtain ⟨r, F1, g1, ⟨rfl, w, rfl⟩, ca⟩ := c_append hb F g hn (nI t) (nI y) (nI z)
  obtain ⟨w0, w1, w2, w3, w5, wo⟩ := w
  have hl1 : zlin F F1 g (updG g 0 (g 0 + 1)) (nI t) (nI y) (nI z) := ⟨w0, w1, w2, w3, w5, wo _ (by decide) (by decide) (by decide) (by decide) (by decide), wo _ (by decide) (by decide) (by decide) (by decide) (by decide), wo _ (by decide) (by decide) (by decide) (by decide) (by decide), wo _ (by decide) (by decide) (by decide) (by decide) (by decide), rfl, rfl, rfl⟩
  have q1 := zNb_line q hn ht hx hl1
  obtain ⟨F2, g2, ⟨r1, r2, r3⟩, cr⟩ := c_recompute hb F1 _ _ _ _ _ _ q1
  refine ⟨F2, g2, ⟨?_, zNb_of q1 r1 (r2 _ (by decide)) (r2 _ (by decide)) (r2 _ (by decide)), r3⟩, ?_⟩
  · obtain ⟨a0, a1, a2, a3, a5, a4, a7, a8, a31, v0, v1, v2⟩ := hl1
    exact ⟨(r1 _ rfl).trans a0, (r1 _ rfl).trans a1, (r1 _ rfl).trans a2, (r1 _ rfl).trans a3, (r1 _ rfl).trans a5, (r1 _ rfl).trans a4, (r1 _ rfl).trans a7, (r1 _ rfl).trans a8, (r1 _ rfl).trans a31, (r2 _ (by decide)).trans v0, (r2 _ (by decide)).trans v1, (r2 _ (by decide)).trans v2⟩
  refine zcalls_of (Nat.le_of_ble_eq_true rfl) ?_
  show zruns zTB 83 0 [some (.ref b), some (.int (nI t)), some (.int (nI y)), some (.int (nI z)), none] [] _ _
  have hexit : zruns zTB 83 102 [some (.ref b), some (.int (nI t)), some (.int (nI y)), some (.int (nI z)), none] [] (nput b F g h) (some (.int (nI (g 0))), nput b F2 g2 h) := by
    refine zr_aload_n (pc' := 103) zi_83_102 rfl rfl ?_
    refine zr_get (pc' := 106) zi_83_103 (nput_at hb (k := 0) rfl) rfl rfl ?_
    refine zr_iload_n (pc' := 107) zi_83_106 rfl rfl ?_
    refine zr_iload_n (pc' := 108) zi_83_107 rfl rfl ?_
    refine zr_iload_n (pc' := 109) zi_83_108 rfl rfl ?_
    refine zr_v3 (pc' := 112) zi_83_109 (nput_at hb (k := 1) rfl) rfl ca rfl ?_
    refine zr_istore (pc' := 114) zi_83_112 (Nat.le_of_ble_eq_true rfl) rfl rfl ?_
    dsimp only [zst1, zst2, zkill, List.set, List.getElem?_cons_succ, List.getElem?_cons_zero]
    refine zr_aload_n (pc' := 115) zi_83_114 rfl rfl ?_
    refine zr_n0 (pc' := 118) zi_83_115 (nput_at hb (k := 0) rfl) rfl cr rfl ?_
    refine zr_iload (pc' := 120) zi_83_118 rfl rfl ?_
    exact zr_ireturn zi_83_120 rfl
  refine zr_iload_n (pc' := 1) zi_83_0 rfl rfl ?_
  refine zr_sipush (v := (nI 9999)) (pc' := 4) zi_83_1 rfl rfl ?_
  refine zr_s2 (pc' := 7) zi_83_4 rfl (c_inN _ _ ht (by omega)) rfl ?_
  refine zr_if (pc' := 10) zi_83_7 rfl (fun h7 => ?_) (fun h7 => ?_)
  · replace h7 := zc_eq_t h7
    exact absurd h7 (by decide)
  · replace h7 := zc_eq_f h7
    refine zr_iload_n (pc' := 11) zi_83_10 rfl rfl ?_
    refine zr_bipush (v := (nI 7)) (pc' := 13) zi_83_11 rfl rfl ?_
    refine zr_s2 (pc' := 16) zi_83_13 rfl (c_inN _ _ hy (by omega)) rfl ?_
    refine zr_if (pc' := 19) zi_83_16 rfl (fun h16 => ?_) (fun h16 => ?_)
    · replace h16 := zc_eq_t h16
      exact absurd h16 (by decide)
    · replace h16 := zc_eq_f h16
      refine zr_iload_n (pc' := 20) zi_83_19 rfl rfl ?_
      refine zr_iconst (v := (nI 3)) (pc' := 21) zi_83_20 rfl rfl ?_
      refine zr_s2 (pc' := 24) zi_83_21 rfl (c_inN _ _ hz (by omega)) rfl ?_
      refine zr_if (pc' := 27) zi_83_24 rfl (fun h24 => ?_) (fun h24 => ?_)
      · replace h24 := zc_ne_t h24
        refine zr_aload_n (pc' := 38) zi_83_37 rfl rfl ?_
        refine zr_get (pc' := 41) zi_83_38 (nput_at hb (k := 0) rfl) rfl rfl ?_
        refine zr_get (pc' := 44) zi_83_41 (nput_at hb (k := 1) rfl) rfl rfl ?_
        refine zr_bipush (v := (nI 70)) (pc' := 46) zi_83_44 rfl rfl ?_
        refine zr_icmp (pc' := 49) zi_83_46 rfl (fun h46 => ?_) (fun h46 => ?_)
        · replace h46 := zc_lt_t (by omega) (by omega) h46
          refine zr_aload_n (pc' := 60) zi_83_59 rfl rfl ?_
          refine zr_get (pc' := 63) zi_83_60 (nput_at hb (k := 0) rfl) rfl rfl ?_
          refine zr_get (pc' := 66) zi_83_63 (nput_at hb (k := 1) rfl) rfl rfl ?_
          refine zr_if (pc' := 69) zi_83_66 rfl (fun h66 => ?_) (fun h66 => ?_)
          · replace h66 := zx_le_t h66
            exact hexit
          · replace h66 := zx_le_f h66
            have hn0 : 0 < g 0 := Nat.pos_of_ne_zero fun e => h66 (by rw [e]; decide)
            obtain ⟨hl, hl2⟩ := q.tm (g 0 - 1) (by omega)
            refine zr_iload_n (pc' := 70) zi_83_69 rfl rfl ?_
            refine zr_aload_n (pc' := 71) zi_83_70 rfl rfl ?_
            refine zr_get (pc' := 74) zi_83_71 (nput_at hb (k := 0) rfl) rfl rfl ?_
            refine zr_get (pc' := 77) zi_83_74 (nput_at hb (k := 1) rfl) rfl rfl ?_
            refine zr_aload_n (pc' := 78) zi_83_77 rfl rfl ?_
            refine zr_get (pc' := 81) zi_83_78 (nput_at hb (k := 0) rfl) rfl rfl ?_
            refine zr_get (pc' := 84) zi_83_81 (nput_at hb (k := 1) rfl) rfl rfl ?_
            refine zr_iconst (v := (nI 1)) (pc' := 85) zi_83_84 rfl rfl ?_
            refine zr_isub (pc' := 86) zi_83_85 (by first | exact pk_sub (by omega) | rfl) rfl ?_
            refine zr_atN (pc' := 89) (by omega) zi_83_86 hb rfl rfl (by decide) rfl rfl ?_
            rw [hl]
            refine zr_icmp (pc' := 92) zi_83_89 rfl (fun h89 => ?_) (fun h89 => ?_)
            · replace h89 := zc_ge_t (by omega) (by omega) h89
              exact hexit
            · replace h89 := zc_ge_f (by omega) (by omega) h89
              have := hx (g 0 - 1) (by omega)
              omega
        · replace h46 := zc_lt_f (by omega) (by omega) h46
          exact absurd h46 (by omega)
      · replace h24 := zc_ne_f h24
        exact absurd h24 (by decide)
theorem c_word (hb : b + 71 ≤ h.length) (F : Nat → Nat → Int32) (g : Nat → Nat) (x : Nat → Nat) (sh gp wi bk c w : Nat) (q : zOk F g x sh gp wi bk) (hn : 0 < g 0) (hm : g 1 < g 0) (hc : F 3 (g 0 - 1) = nI c) (hc8 : c < 8) (hw : w ≤ 999) : zOk (updR (updR F 4 (upd (F 4) ((g 0 - 1) * 8 + c) (nI w))) 3 (upd (F 3) (g 0 - 1) (nI (c + 1)))) g x sh gp wi bk ∧ zcalls zTB 84 [.ref b, .int (nI w)] (nput b F g h) (some (.int (nI (c + 1))), nput b (updR (updR F 4 (upd (F 4) ((g 0 - 1) * 8 + c) (nI w))) 3 (upd (F 3) (g 0 - 1) (nI (c + 1)))) g h) := by
  have hn7 := q.nb.n70
  refine ⟨⟨?_, ?_⟩, ?_⟩
  · obtain ⟨q1, q2, q3, q4, q5, q6, q7, q8, q9, q10, q11⟩ := q.nb
    refine ⟨q1, q2, q3, q4, q5, fun i hi => ?_, fun i hi d hd e p hp => ?_, q8, q9, fun i hi => ?_, q11⟩
    · show ∃ c', c' ≤ 8 ∧ upd (F 3) (g 0 - 1) (nI (c + 1)) i = nI c'
      by_cases k : i = g 0 - 1
      · rw [k, pk_us]
        exact ⟨c + 1, hc8, rfl⟩
      · rw [pk_un k]
        exact q6 i hi
    · have e' : upd (F 3) (g 0 - 1) (nI (c + 1)) i = nI d := e
      show ∃ v, v ≤ 999 ∧ upd (F 4) ((g 0 - 1) * 8 + c) (nI w) (i * 8 + p) = nI v
      by_cases k : i = g 0 - 1
      · subst k
        rw [pk_us] at e'
        have := (nI_eq (by omega) (by omega)).mp e'
        by_cases l : p = c
        · subst l
          rw [pk_us]
          exact ⟨w, hw, rfl⟩
        · rw [pk_un (by omega)]
          exact q7 _ hi c (by omega) hc p (by omega)
      · rw [pk_un k] at e'
        rw [pk_un (by omega)]
        exact q7 i hi d hd e' p hp
    · show F 5 i = -1 ∨ ∃ t a, t < g 2 ∧ F 5 i = nI t ∧ a ≤ 8 ∧ upd (F 3) (g 0 - 1) (nI (c + 1)) i = nI a ∧ F 7 t = nI a ∧ ∀ p, p < a → F 8 (t * 8 + p) = -1 ∨ F 8 (t * 8 + p) = upd (F 4) ((g 0 - 1) * 8 + c) (nI w) (i * 8 + p)
      rw [pk_un (by omega)]
      rcases q10 i hi with e | ⟨t, a, h1, h2, h3, h4, h5, h6⟩
      · exact .inl e
      · exact .inr ⟨t, a, h1, h2, h3, h4, h5, fun p hp => by rw [pk_un (by omega)]; exact h6 p hp⟩
  · obtain ⟨q1, ⟨C, Z, qs⟩, q2⟩ := q.to
    refine ⟨fun i hi => ?_, ⟨C, Z, by refine zses_of qs ?_ ?_ ?_ ?_ ?_ ?_ ?_ ?_ <;> rfl⟩, q2⟩
    have hk : zkey F i (F 6 i) := q1 i hi
    show zkey _ i (F 6 i)
    by_cases k : i = g 0 - 1
    · have e := q.nb.o1 i (by omega) hi
      rcases hk with hk | ⟨t, a, h1, h2, _⟩
      · exact .inl hk
      · exact absurd (h2.symm.trans e) (nI_neg (by omega))
    · rcases hk with hk | ⟨t, a, h1, h2, h3, h4, h5⟩
      · exact .inl hk
      · refine .inr ⟨t, a, h1, h2, h3, h4, ?_⟩
        rcases h5 with h5 | ⟨p, p1, p2, p3, p4⟩
        · exact .inl h5
        · refine .inr ⟨p, p1, p2, p3, p4.trans ?_⟩
          show F 4 (i * 8 + p) = upd (F 4) ((g 0 - 1) * 8 + c) (nI w) (i * 8 + p)
          rw [pk_un (by omega)]
  refine zcalls_of (Nat.le_of_ble_eq_true rfl) ?_
  show zruns zTB 84 0 [some (.ref b), some (.int (nI w)), none] [] _ _
  refine zr_iload_n (pc' := 1) zi_84_0 rfl rfl ?_
  refine zr_sipush (v := (nI 999)) (pc' := 4) zi_84_1 rfl rfl ?_
  refine zr_s2 (pc' := 7) zi_84_4 rfl (c_inN _ _ hw (by omega)) rfl ?_
  refine zr_if (pc' := 10) zi_84_7 rfl (fun h7 => ?_) (fun h7 => ?_)
  · replace h7 := zc_ne_t h7
    refine zr_aload_n (pc' := 21) zi_84_20 rfl rfl ?_
    refine zr_get (pc' := 24) zi_84_21 (nput_at hb (k := 0) rfl) rfl rfl ?_
    refine zr_get (pc' := 27) zi_84_24 (nput_at hb (k := 1) rfl) rfl rfl ?_
    refine zr_iconst (v := (nI 1)) (pc' := 28) zi_84_27 rfl rfl ?_
    refine zr_isub (pc' := 29) zi_84_28 (by first | exact pk_sub (by omega) | rfl) rfl ?_
    refine zr_istore_n (pc' := 30) zi_84_29 (Nat.le_of_ble_eq_true rfl) rfl rfl ?_
    dsimp only [zst1, zst2, zkill, List.set, List.getElem?_cons_succ, List.getElem?_cons_zero]
    refine zr_iload_n (pc' := 31) zi_84_30 rfl rfl ?_
    refine zr_if (pc' := 34) zi_84_31 rfl (fun h31 => ?_) (fun h31 => ?_)
    · replace h31 := zx_lt_t h31
      exact absurd h31 (nI_pos (by omega))
    · replace h31 := zx_lt_f h31
      refine zr_aload_n (pc' := 35) zi_84_34 rfl rfl ?_
      refine zr_get (pc' := 38) zi_84_35 (nput_at hb (k := 0) rfl) rfl rfl ?_
      refine zr_get (pc' := 41) zi_84_38 (nput_at hb (k := 1) rfl) rfl rfl ?_
      refine zr_iload_n (pc' := 42) zi_84_41 rfl rfl ?_
      refine zr_atN (pc' := 45) (by omega) zi_84_42 hb rfl rfl (by decide) rfl rfl ?_
      rw [hc]
      refine zr_bipush (v := (nI 8)) (pc' := 47) zi_84_45 rfl rfl ?_
      refine zr_icmp (pc' := 50) zi_84_47 rfl (fun h47 => ?_) (fun h47 => ?_)
      · replace h47 := zc_ge_t (by omega) (by omega) h47
        omega
      · replace h47 := zc_ge_f (by omega) (by omega) h47
        refine zr_aload_n (pc' := 51) zi_84_50 rfl rfl ?_
        refine zr_get (pc' := 54) zi_84_51 (nput_at hb (k := 0) rfl) rfl rfl ?_
        refine zr_get (pc' := 57) zi_84_54 (nput_at hb (k := 1) rfl) rfl rfl ?_
        refine zr_iload_n (pc' := 58) zi_84_57 rfl rfl ?_
        refine zr_icmp (pc' := 61) zi_84_58 rfl (fun h58 => ?_) (fun h58 => ?_)
        · replace h58 := zc_le_t (by omega) (by omega) h58
          refine zr_aload_n (pc' := 72) zi_84_71 rfl rfl ?_
          refine zr_get (pc' := 75) zi_84_72 (nput_at hb (k := 0) rfl) rfl rfl ?_
          refine zr_iload_n (pc' := 76) zi_84_75 rfl rfl ?_
          refine zr_iload_n (pc' := 77) zi_84_76 rfl rfl ?_
          refine zr_v2 (pc' := 80) zi_84_77 (nput_at hb (k := 1) rfl) rfl (c_appendWord hb F g (g 0 - 1) c (nI w) (by omega) hc hc8) rfl ?_
          exact zr_ireturn zi_84_80 rfl
        · replace h58 := zc_le_f (by omega) (by omega) h58
          omega
  · replace h7 := zc_ne_f h7
    exact absurd h7 (by decide)
theorem c_set (hb : b + 71 ≤ h.length) (F : Nat → Nat → Int32) (g : Nat → Nat) (x : Nat → Nat) (sh gp wi bk k v sh' gp' wi' bk' : Nat) (q : zNb F g x sh gp wi bk) (hk : k < 4) (hq : zNb (updR F 31 (upd (F 31) k (nI v))) g x sh' gp' wi' bk') (hv0 : k = 2 → 1 ≤ v) (hv1 : k = 0 → v ≤ 100) (hv2 : v ≤ 1000) : ∃ F' g', ((∀ r, zbr r = true → F' r = updR F 31 (upd (F 31) k (nI v)) r) ∧ (∀ j, j < 3 → g' j = g j) ∧ zOk F' g' x sh' gp' wi' bk') ∧ zcalls zTB 86 [.ref b, .int (nI k), .int (nI v)] (nput b F g h) (some (.int (F 31 k)), nput b F' g' h) := by
  obtain ⟨F2, g2, ⟨r1, r2, r3⟩, cr⟩ := c_recompute hb _ _ _ _ _ _ _ hq
  refine ⟨F2, g2, ⟨r1, r2, zNb_of hq r1 (r2 _ (by decide)) (r2 _ (by decide)) (r2 _ (by decide)), r3⟩, ?_⟩
  refine zcalls_of (Nat.le_of_ble_eq_true rfl) ?_
  show zruns zTB 86 0 [some (.ref b), some (.int (nI k)), some (.int (nI v)), none, none, none] [] _ _
  have hexit : ∀ X Y : Int32, zruns zTB 86 64 [some (.ref b), some (.int (nI k)), some (.int (nI v)), some (.int X), some (.int Y), none] [] (nput b F g h) (some (.int (F 31 k)), nput b F2 g2 h) := by
    intro X Y
    refine zr_aload_n (pc' := 65) zi_86_64 rfl rfl ?_
    refine zr_get (pc' := 68) zi_86_65 (nput_at hb (k := 0) rfl) rfl rfl ?_
    refine zr_iload_n (pc' := 69) zi_86_68 rfl rfl ?_
    refine zr_atN (pc' := 72) (by omega) zi_86_69 hb rfl rfl (by decide) rfl rfl ?_
    refine zr_istore (pc' := 74) zi_86_72 (Nat.le_of_ble_eq_true rfl) rfl rfl ?_
    dsimp only [zst1, zst2, zkill, List.set, List.getElem?_cons_succ, List.getElem?_cons_zero]
    refine zr_aload_n (pc' := 75) zi_86_74 rfl rfl ?_
    refine zr_get (pc' := 78) zi_86_75 (nput_at hb (k := 0) rfl) rfl rfl ?_
    refine zr_iload_n (pc' := 79) zi_86_78 rfl rfl ?_
    refine zr_iload_n (pc' := 80) zi_86_79 rfl rfl ?_
    refine zr_rputN (pc' := 83) (rr := 31) (by omega) zi_86_80 hb rfl rfl (fun _ => rfl) (by decide) (by decide) rfl rfl ?_
    refine zr_aload_n (pc' := 84) zi_86_83 rfl rfl ?_
    refine zr_n0 (pc' := 87) zi_86_84 (nput_at hb (k := 0) rfl) rfl cr rfl ?_
    refine zr_iload (pc' := 89) zi_86_87 rfl rfl ?_
    exact zr_ireturn zi_86_89 rfl
  rcases (show k = 0 ∨ k = 1 ∨ k = 2 ∨ k = 3 by omega) with rfl | rfl | rfl | rfl
  · skip
    refine zr_iload_n (pc' := 1) zi_86_0 rfl rfl ?_
    refine zr_iconst (v := (nI 3)) (pc' := 2) zi_86_1 rfl rfl ?_
    refine zr_s2 (pc' := 5) zi_86_2 rfl (c_inN _ 3 (by omega) (by omega)) rfl ?_
    refine zr_if (pc' := 8) zi_86_5 rfl (fun h5 => ?_) (fun h5 => ?_)
    · replace h5 := zc_ne_t h5
      refine zr_iload_n (pc' := 19) zi_86_18 rfl rfl ?_
      refine zr_iconst (v := (nI 2)) (pc' := 20) zi_86_19 rfl rfl ?_
      refine zr_icmp (pc' := 23) zi_86_20 rfl (fun h20 => ?_) (fun h20 => ?_)
      · replace h20 := zc_ne_t h20
        refine zr_iconst (v := (nI 0)) (pc' := 28) zi_86_27 rfl rfl ?_
        refine zr_istore_n (pc' := 29) zi_86_28 (Nat.le_of_ble_eq_true rfl) rfl rfl ?_
        dsimp only [zst1, zst2, zkill, List.set, List.getElem?_cons_succ, List.getElem?_cons_zero]
        refine zr_iload_n (pc' := 30) zi_86_29 rfl rfl ?_
        refine zr_if (pc' := 33) zi_86_30 rfl (fun h30 => ?_) (fun h30 => ?_)
        · replace h30 := zc_ne_t h30
          first | exact absurd h30 (by decide) | exact absurd rfl h30
        · replace h30 := zc_ne_f h30
          refine zr_bipush (v := (nI 100)) (pc' := 35) zi_86_33 rfl rfl ?_
          refine zr_goto zi_86_35 ?_
          refine zr_istore (pc' := 43) zi_86_41 (Nat.le_of_ble_eq_true rfl) rfl rfl ?_
          dsimp only [zst1, zst2, zkill, List.set, List.getElem?_cons_succ, List.getElem?_cons_zero]
          refine zr_iload_n (pc' := 44) zi_86_43 rfl rfl ?_
          refine zr_iload_n (pc' := 45) zi_86_44 rfl rfl ?_
          refine zr_icmp (pc' := 48) zi_86_45 rfl (fun h45 => ?_) (fun h45 => ?_)
          · replace h45 := zc_lt_t (by omega) (by omega) h45
            omega
          · replace h45 := zc_lt_f (by omega) (by omega) h45
            refine zr_iload_n (pc' := 49) zi_86_48 rfl rfl ?_
            refine zr_iload (pc' := 51) zi_86_49 rfl rfl ?_
            refine zr_icmp (pc' := 54) zi_86_51 rfl (fun h51 => ?_) (fun h51 => ?_)
            · replace h51 := zc_le_t (by omega) (by omega) h51
              exact hexit _ _
            · replace h51 := zc_le_f (by omega) (by omega) h51
              omega
      · replace h20 := zc_ne_f h20
        first | exact absurd h20 (by decide) | exact absurd rfl h20
    · replace h5 := zc_ne_f h5
      exact absurd h5 (by decide)
  · skip
    refine zr_iload_n (pc' := 1) zi_86_0 rfl rfl ?_
    refine zr_iconst (v := (nI 3)) (pc' := 2) zi_86_1 rfl rfl ?_
    refine zr_s2 (pc' := 5) zi_86_2 rfl (c_inN _ 3 (by omega) (by omega)) rfl ?_
    refine zr_if (pc' := 8) zi_86_5 rfl (fun h5 => ?_) (fun h5 => ?_)
    · replace h5 := zc_ne_t h5
      refine zr_iload_n (pc' := 19) zi_86_18 rfl rfl ?_
      refine zr_iconst (v := (nI 2)) (pc' := 20) zi_86_19 rfl rfl ?_
      refine zr_icmp (pc' := 23) zi_86_20 rfl (fun h20 => ?_) (fun h20 => ?_)
      · replace h20 := zc_ne_t h20
        refine zr_iconst (v := (nI 0)) (pc' := 28) zi_86_27 rfl rfl ?_
        refine zr_istore_n (pc' := 29) zi_86_28 (Nat.le_of_ble_eq_true rfl) rfl rfl ?_
        dsimp only [zst1, zst2, zkill, List.set, List.getElem?_cons_succ, List.getElem?_cons_zero]
        refine zr_iload_n (pc' := 30) zi_86_29 rfl rfl ?_
        refine zr_if (pc' := 33) zi_86_30 rfl (fun h30 => ?_) (fun h30 => ?_)
        · replace h30 := zc_ne_t h30
          refine zr_sipush (v := (nI 1000)) (pc' := 41) zi_86_38 rfl rfl ?_
          refine zr_istore (pc' := 43) zi_86_41 (Nat.le_of_ble_eq_true rfl) rfl rfl ?_
          dsimp only [zst1, zst2, zkill, List.set, List.getElem?_cons_succ, List.getElem?_cons_zero]
          refine zr_iload_n (pc' := 44) zi_86_43 rfl rfl ?_
          refine zr_iload_n (pc' := 45) zi_86_44 rfl rfl ?_
          refine zr_icmp (pc' := 48) zi_86_45 rfl (fun h45 => ?_) (fun h45 => ?_)
          · replace h45 := zc_lt_t (by omega) (by omega) h45
            omega
          · replace h45 := zc_lt_f (by omega) (by omega) h45
            refine zr_iload_n (pc' := 49) zi_86_48 rfl rfl ?_
            refine zr_iload (pc' := 51) zi_86_49 rfl rfl ?_
            refine zr_icmp (pc' := 54) zi_86_51 rfl (fun h51 => ?_) (fun h51 => ?_)
            · replace h51 := zc_le_t (by omega) (by omega) h51
              exact hexit _ _
            · replace h51 := zc_le_f (by omega) (by omega) h51
              omega
        · replace h30 := zc_ne_f h30
          first | exact absurd h30 (by decide) | exact absurd rfl h30
      · replace h20 := zc_ne_f h20
        first | exact absurd h20 (by decide) | exact absurd rfl h20
    · replace h5 := zc_ne_f h5
      exact absurd h5 (by decide)
  · skip
    refine zr_iload_n (pc' := 1) zi_86_0 rfl rfl ?_
    refine zr_iconst (v := (nI 3)) (pc' := 2) zi_86_1 rfl rfl ?_
    refine zr_s2 (pc' := 5) zi_86_2 rfl (c_inN _ 3 (by omega) (by omega)) rfl ?_
    refine zr_if (pc' := 8) zi_86_5 rfl (fun h5 => ?_) (fun h5 => ?_)
    · replace h5 := zc_ne_t h5
      refine zr_iload_n (pc' := 19) zi_86_18 rfl rfl ?_
      refine zr_iconst (v := (nI 2)) (pc' := 20) zi_86_19 rfl rfl ?_
      refine zr_icmp (pc' := 23) zi_86_20 rfl (fun h20 => ?_) (fun h20 => ?_)
      · replace h20 := zc_ne_t h20
        first | exact absurd h20 (by decide) | exact absurd rfl h20
      · replace h20 := zc_ne_f h20
        refine zr_iconst (v := (nI 1)) (pc' := 24) zi_86_23 rfl rfl ?_
        refine zr_goto zi_86_24 ?_
        refine zr_istore_n (pc' := 29) zi_86_28 (Nat.le_of_ble_eq_true rfl) rfl rfl ?_
        dsimp only [zst1, zst2, zkill, List.set, List.getElem?_cons_succ, List.getElem?_cons_zero]
        refine zr_iload_n (pc' := 30) zi_86_29 rfl rfl ?_
        refine zr_if (pc' := 33) zi_86_30 rfl (fun h30 => ?_) (fun h30 => ?_)
        · replace h30 := zc_ne_t h30
          refine zr_sipush (v := (nI 1000)) (pc' := 41) zi_86_38 rfl rfl ?_
          refine zr_istore (pc' := 43) zi_86_41 (Nat.le_of_ble_eq_true rfl) rfl rfl ?_
          dsimp only [zst1, zst2, zkill, List.set, List.getElem?_cons_succ, List.getElem?_cons_zero]
          refine zr_iload_n (pc' := 44) zi_86_43 rfl rfl ?_
          refine zr_iload_n (pc' := 45) zi_86_44 rfl rfl ?_
          refine zr_icmp (pc' := 48) zi_86_45 rfl (fun h45 => ?_) (fun h45 => ?_)
          · replace h45 := zc_lt_t (by omega) (by omega) h45
            omega
          · replace h45 := zc_lt_f (by omega) (by omega) h45
            refine zr_iload_n (pc' := 49) zi_86_48 rfl rfl ?_
            refine zr_iload (pc' := 51) zi_86_49 rfl rfl ?_
            refine zr_icmp (pc' := 54) zi_86_51 rfl (fun h51 => ?_) (fun h51 => ?_)
            · replace h51 := zc_le_t (by omega) (by omega) h51
              exact hexit _ _
            · replace h51 := zc_le_f (by omega) (by omega) h51
              omega
        · replace h30 := zc_ne_f h30
          first | exact absurd h30 (by decide) | exact absurd rfl h30
    · replace h5 := zc_ne_f h5
      exact absurd h5 (by decide)
  · skip
    refine zr_iload_n (pc' := 1) zi_86_0 rfl rfl ?_
    refine zr_iconst (v := (nI 3)) (pc' := 2) zi_86_1 rfl rfl ?_
    refine zr_s2 (pc' := 5) zi_86_2 rfl (c_inN _ 3 (by omega) (by omega)) rfl ?_
    refine zr_if (pc' := 8) zi_86_5 rfl (fun h5 => ?_) (fun h5 => ?_)
    · replace h5 := zc_ne_t h5
      refine zr_iload_n (pc' := 19) zi_86_18 rfl rfl ?_
      refine zr_iconst (v := (nI 2)) (pc' := 20) zi_86_19 rfl rfl ?_
      refine zr_icmp (pc' := 23) zi_86_20 rfl (fun h20 => ?_) (fun h20 => ?_)
      · replace h20 := zc_ne_t h20
        refine zr_iconst (v := (nI 0)) (pc' := 28) zi_86_27 rfl rfl ?_
        refine zr_istore_n (pc' := 29) zi_86_28 (Nat.le_of_ble_eq_true rfl) rfl rfl ?_
        dsimp only [zst1, zst2, zkill, List.set, List.getElem?_cons_succ, List.getElem?_cons_zero]
        refine zr_iload_n (pc' := 30) zi_86_29 rfl rfl ?_
        refine zr_if (pc' := 33) zi_86_30 rfl (fun h30 => ?_) (fun h30 => ?_)
        · replace h30 := zc_ne_t h30
          refine zr_sipush (v := (nI 1000)) (pc' := 41) zi_86_38 rfl rfl ?_
          refine zr_istore (pc' := 43) zi_86_41 (Nat.le_of_ble_eq_true rfl) rfl rfl ?_
          dsimp only [zst1, zst2, zkill, List.set, List.getElem?_cons_succ, List.getElem?_cons_zero]
          refine zr_iload_n (pc' := 44) zi_86_43 rfl rfl ?_
          refine zr_iload_n (pc' := 45) zi_86_44 rfl rfl ?_
          refine zr_icmp (pc' := 48) zi_86_45 rfl (fun h45 => ?_) (fun h45 => ?_)
          · replace h45 := zc_lt_t (by omega) (by omega) h45
            omega
          · replace h45 := zc_lt_f (by omega) (by omega) h45
            refine zr_iload_n (pc' := 49) zi_86_48 rfl rfl ?_
            refine zr_iload (pc' := 51) zi_86_49 rfl rfl ?_
            refine zr_icmp (pc' := 54) zi_86_51 rfl (fun h51 => ?_) (fun h51 => ?_)
            · replace h51 := zc_le_t (by omega) (by omega) h51
              exact hexit _ _
            · replace h51 := zc_le_f (by omega) (by omega) h51
              omega
        · replace h30 := zc_ne_f h30
          first | exact absurd h30 (by decide) | exact absurd rfl h30
      · replace h20 := zc_ne_f h20
        first | exact absurd h20 (by decide) | exact absurd rfl h20
    · replace h5 := zc_ne_f h5
      exact absurd h5 (by decide)
end


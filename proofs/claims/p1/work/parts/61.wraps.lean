theorem zi_157_0 : zI 157 0 = some (.aload 4, []) := by decide +kernel
theorem zi_157_2 : zI 157 2 = some (.iconst 0, []) := by decide +kernel
theorem zi_157_3 : zI 157 3 = some (.aload_n 0, []) := by decide +kernel
theorem zi_157_4 : zI 157 4 = some (.iload_n 1, []) := by decide +kernel
theorem zi_157_5 : zI 157 5 = some (.iload_n 2, []) := by decide +kernel
theorem zi_157_6 : zI 157 6 = some (.iload_n 3, []) := by decide +kernel
theorem zi_157_7 : zI 157 7 = some (.invokevirtual 7, [116, 0, 3, 6, 626, 627, 118, 625, 0, 624]) := by decide +kernel
theorem zi_157_10 : zI 157 10 = some (.i2l, []) := by decide +kernel
theorem zi_157_11 : zI 157 11 = some (.lastore, []) := by decide +kernel
theorem zi_157_12 : zI 157 12 = some (.goto 11, [23]) := by decide +kernel
theorem zi_157_23 : zI 157 23 = some (.iconst 0, []) := by decide +kernel
theorem zi_157_24 : zI 157 24 = some (.ireturn, []) := by decide +kernel
theorem zi_158_0 : zI 158 0 = some (.aload_n 2, []) := by decide +kernel
theorem zi_158_1 : zI 158 1 = some (.iconst 0, []) := by decide +kernel
theorem zi_158_2 : zI 158 2 = some (.aload_n 0, []) := by decide +kernel
theorem zi_158_3 : zI 158 3 = some (.iload_n 1, []) := by decide +kernel
theorem zi_158_4 : zI 158 4 = some (.invokevirtual 17, [117, 0, 1, 6, 630, 631, 118, 629, 0, 628]) := by decide +kernel
theorem zi_159_0 : zI 159 0 = some (.aload_n 2, []) := by decide +kernel
theorem zi_159_1 : zI 159 1 = some (.iconst 0, []) := by decide +kernel
theorem zi_159_2 : zI 159 2 = some (.aload_n 0, []) := by decide +kernel
theorem zi_159_3 : zI 159 3 = some (.iload_n 1, []) := by decide +kernel
theorem zi_159_4 : zI 159 4 = some (.invokevirtual 21, [118, 0, 1, 6, 634, 635, 118, 633, 0, 632]) := by decide +kernel
theorem zi_159_7 : zI 159 7 = some (.i2l, []) := by decide +kernel
theorem zi_159_8 : zI 159 8 = some (.lastore, []) := by decide +kernel
theorem zi_159_9 : zI 159 9 = some (.goto 6, [15]) := by decide +kernel
theorem zi_159_15 : zI 159 15 = some (.iconst 0, []) := by decide +kernel
theorem zi_159_16 : zI 159 16 = some (.ireturn, []) := by decide +kernel
theorem zi_160_0 : zI 160 0 = some (.aload_n 3, []) := by decide +kernel
theorem zi_160_1 : zI 160 1 = some (.iconst 0, []) := by decide +kernel
theorem zi_160_2 : zI 160 2 = some (.aload_n 0, []) := by decide +kernel
theorem zi_160_3 : zI 160 3 = some (.iload_n 1, []) := by decide +kernel
theorem zi_160_4 : zI 160 4 = some (.iload_n 2, []) := by decide +kernel
theorem zi_160_5 : zI 160 5 = some (.invokevirtual 24, [119, 0, 2, 6, 638, 639, 118, 637, 0, 636]) := by decide +kernel
theorem zi_160_8 : zI 160 8 = some (.i2l, []) := by decide +kernel
theorem zi_160_9 : zI 160 9 = some (.lastore, []) := by decide +kernel
theorem zi_160_10 : zI 160 10 = some (.goto 7, [17]) := by decide +kernel
theorem zi_160_17 : zI 160 17 = some (.iconst 0, []) := by decide +kernel
theorem zi_160_18 : zI 160 18 = some (.ireturn, []) := by decide +kernel
theorem zi_161_0 : zI 161 0 = some (.aload_n 2, []) := by decide +kernel
theorem zi_161_1 : zI 161 1 = some (.iconst 0, []) := by decide +kernel
theorem zi_161_2 : zI 161 2 = some (.aload_n 0, []) := by decide +kernel
theorem zi_161_3 : zI 161 3 = some (.iload_n 1, []) := by decide +kernel
theorem zi_161_4 : zI 161 4 = some (.invokevirtual 28, [94, 0, 1, 6, 539, 540, 118, 538, 0, 640]) := by decide +kernel
theorem zi_161_7 : zI 161 7 = some (.i2l, []) := by decide +kernel
theorem zi_161_8 : zI 161 8 = some (.lastore, []) := by decide +kernel
theorem zi_161_9 : zI 161 9 = some (.goto 6, [15]) := by decide +kernel
theorem zi_161_15 : zI 161 15 = some (.iconst 0, []) := by decide +kernel
theorem zi_161_16 : zI 161 16 = some (.ireturn, []) := by decide +kernel
theorem zi_162_0 : zI 162 0 = some (.aload_n 3, []) := by decide +kernel
theorem zi_162_1 : zI 162 1 = some (.iconst 0, []) := by decide +kernel
theorem zi_162_2 : zI 162 2 = some (.aload_n 0, []) := by decide +kernel
theorem zi_162_3 : zI 162 3 = some (.iload_n 1, []) := by decide +kernel
theorem zi_162_4 : zI 162 4 = some (.iload_n 2, []) := by decide +kernel
theorem zi_162_5 : zI 162 5 = some (.invokevirtual 31, [95, 0, 2, 6, 438, 439, 118, 437, 0, 641]) := by decide +kernel
theorem zi_163_0 : zI 163 0 = some (.aload_n 3, []) := by decide +kernel
theorem zi_163_1 : zI 163 1 = some (.iconst 0, []) := by decide +kernel
theorem zi_163_2 : zI 163 2 = some (.aload_n 0, []) := by decide +kernel
theorem zi_163_3 : zI 163 3 = some (.iload_n 1, []) := by decide +kernel
theorem zi_163_4 : zI 163 4 = some (.iload_n 2, []) := by decide +kernel
theorem zi_163_5 : zI 163 5 = some (.invokevirtual 36, [121, 0, 2, 6, 644, 645, 118, 643, 0, 642]) := by decide +kernel
theorem zi_164_0 : zI 164 0 = some (.aload_n 3, []) := by decide +kernel
theorem zi_164_1 : zI 164 1 = some (.iconst 0, []) := by decide +kernel
theorem zi_164_2 : zI 164 2 = some (.aload_n 0, []) := by decide +kernel
theorem zi_164_3 : zI 164 3 = some (.iload_n 1, []) := by decide +kernel
theorem zi_164_4 : zI 164 4 = some (.iload_n 2, []) := by decide +kernel
theorem zi_164_5 : zI 164 5 = some (.invokevirtual 39, [96, 0, 2, 6, 449, 450, 118, 448, 0, 646]) := by decide +kernel
theorem zi_165_0 : zI 165 0 = some (.aload_n 3, []) := by decide +kernel
theorem zi_165_1 : zI 165 1 = some (.iconst 0, []) := by decide +kernel
theorem zi_165_2 : zI 165 2 = some (.aload_n 0, []) := by decide +kernel
theorem zi_165_3 : zI 165 3 = some (.iload_n 1, []) := by decide +kernel
theorem zi_165_4 : zI 165 4 = some (.iload_n 2, []) := by decide +kernel
theorem zi_165_5 : zI 165 5 = some (.invokevirtual 42, [97, 0, 2, 6, 453, 454, 118, 452, 0, 647]) := by decide +kernel
theorem zi_166_0 : zI 166 0 = some (.aload_n 3, []) := by decide +kernel
theorem zi_166_1 : zI 166 1 = some (.iconst 0, []) := by decide +kernel
theorem zi_166_2 : zI 166 2 = some (.aload_n 0, []) := by decide +kernel
theorem zi_166_3 : zI 166 3 = some (.iload_n 1, []) := by decide +kernel
theorem zi_166_4 : zI 166 4 = some (.iload_n 2, []) := by decide +kernel
theorem zi_166_5 : zI 166 5 = some (.invokevirtual 45, [98, 0, 2, 6, 457, 458, 118, 456, 0, 648]) := by decide +kernel
theorem zi_167_0 : zI 167 0 = some (.aload_n 3, []) := by decide +kernel
theorem zi_167_1 : zI 167 1 = some (.iconst 0, []) := by decide +kernel
theorem zi_167_2 : zI 167 2 = some (.aload_n 0, []) := by decide +kernel
theorem zi_167_3 : zI 167 3 = some (.iload_n 1, []) := by decide +kernel
theorem zi_167_4 : zI 167 4 = some (.iload_n 2, []) := by decide +kernel
theorem zi_167_5 : zI 167 5 = some (.invokevirtual 48, [122, 0, 2, 6, 651, 652, 118, 650, 0, 649]) := by decide +kernel
theorem zi_168_0 : zI 168 0 = some (.aload_n 3, []) := by decide +kernel
theorem zi_168_1 : zI 168 1 = some (.iconst 0, []) := by decide +kernel
theorem zi_168_2 : zI 168 2 = some (.aload_n 0, []) := by decide +kernel
theorem zi_168_3 : zI 168 3 = some (.iload_n 1, []) := by decide +kernel
theorem zi_168_4 : zI 168 4 = some (.iload_n 2, []) := by decide +kernel
theorem zi_168_5 : zI 168 5 = some (.invokevirtual 51, [99, 0, 2, 6, 551, 552, 118, 550, 0, 653]) := by decide +kernel
theorem zi_169_0 : zI 169 0 = some (.aload_n 3, []) := by decide +kernel
theorem zi_169_1 : zI 169 1 = some (.iconst 0, []) := by decide +kernel
theorem zi_169_2 : zI 169 2 = some (.aload_n 0, []) := by decide +kernel
theorem zi_169_3 : zI 169 3 = some (.iload_n 1, []) := by decide +kernel
theorem zi_169_4 : zI 169 4 = some (.iload_n 2, []) := by decide +kernel
theorem zi_169_5 : zI 169 5 = some (.invokevirtual 54, [123, 0, 2, 6, 656, 657, 118, 655, 0, 654]) := by decide +kernel
theorem zi_170_0 : zI 170 0 = some (.aload_n 3, []) := by decide +kernel
theorem zi_170_1 : zI 170 1 = some (.iconst 0, []) := by decide +kernel
theorem zi_170_2 : zI 170 2 = some (.aload_n 0, []) := by decide +kernel
theorem zi_170_3 : zI 170 3 = some (.iload_n 1, []) := by decide +kernel
theorem zi_170_4 : zI 170 4 = some (.iload_n 2, []) := by decide +kernel
theorem zi_170_5 : zI 170 5 = some (.invokevirtual 57, [125, 0, 2, 6, 660, 661, 118, 659, 0, 658]) := by decide +kernel
theorem zi_171_0 : zI 171 0 = some (.aload_n 3, []) := by decide +kernel
theorem zi_171_1 : zI 171 1 = some (.iconst 0, []) := by decide +kernel
theorem zi_171_2 : zI 171 2 = some (.aload_n 0, []) := by decide +kernel
theorem zi_171_3 : zI 171 3 = some (.iload_n 1, []) := by decide +kernel
theorem zi_171_4 : zI 171 4 = some (.iload_n 2, []) := by decide +kernel
theorem zi_171_5 : zI 171 5 = some (.invokevirtual 60, [101, 0, 2, 6, 559, 560, 118, 558, 0, 662]) := by decide +kernel
theorem zi_172_0 : zI 172 0 = some (.aload_n 2, []) := by decide +kernel
theorem zi_172_1 : zI 172 1 = some (.iconst 0, []) := by decide +kernel
theorem zi_172_2 : zI 172 2 = some (.aload_n 0, []) := by decide +kernel
theorem zi_172_3 : zI 172 3 = some (.iload_n 1, []) := by decide +kernel
theorem zi_172_4 : zI 172 4 = some (.invokevirtual 63, [102, 0, 1, 6, 461, 462, 118, 460, 0, 663]) := by decide +kernel
theorem zi_173_0 : zI 173 0 = some (.aload 4, []) := by decide +kernel
theorem zi_173_2 : zI 173 2 = some (.iconst 0, []) := by decide +kernel
theorem zi_173_3 : zI 173 3 = some (.aload_n 0, []) := by decide +kernel
theorem zi_173_4 : zI 173 4 = some (.iload_n 1, []) := by decide +kernel
theorem zi_173_5 : zI 173 5 = some (.iload_n 2, []) := by decide +kernel
theorem zi_173_6 : zI 173 6 = some (.iload_n 3, []) := by decide +kernel
theorem zi_173_7 : zI 173 7 = some (.invokevirtual 66, [103, 0, 3, 6, 465, 466, 118, 464, 0, 664]) := by decide +kernel
theorem zi_174_0 : zI 174 0 = some (.aload_n 2, []) := by decide +kernel
theorem zi_174_1 : zI 174 1 = some (.iconst 0, []) := by decide +kernel
theorem zi_174_2 : zI 174 2 = some (.aload_n 0, []) := by decide +kernel
theorem zi_174_3 : zI 174 3 = some (.iload_n 1, []) := by decide +kernel
theorem zi_174_4 : zI 174 4 = some (.invokevirtual 69, [104, 0, 1, 6, 445, 446, 118, 444, 0, 665]) := by decide +kernel
theorem zi_175_0 : zI 175 0 = some (.aload_n 2, []) := by decide +kernel
theorem zi_175_1 : zI 175 1 = some (.iconst 0, []) := by decide +kernel
theorem zi_175_2 : zI 175 2 = some (.aload_n 0, []) := by decide +kernel
theorem zi_175_3 : zI 175 3 = some (.iload_n 1, []) := by decide +kernel
theorem zi_175_4 : zI 175 4 = some (.invokevirtual 72, [126, 0, 1, 6, 668, 669, 118, 667, 0, 666]) := by decide +kernel
theorem zi_175_7 : zI 175 7 = some (.i2l, []) := by decide +kernel
theorem zi_175_8 : zI 175 8 = some (.lastore, []) := by decide +kernel
theorem zi_175_9 : zI 175 9 = some (.goto 6, [15]) := by decide +kernel
theorem zi_175_15 : zI 175 15 = some (.iconst 0, []) := by decide +kernel
theorem zi_175_16 : zI 175 16 = some (.ireturn, []) := by decide +kernel
theorem zi_176_0 : zI 176 0 = some (.aload_n 2, []) := by decide +kernel
theorem zi_176_1 : zI 176 1 = some (.iconst 0, []) := by decide +kernel
theorem zi_176_2 : zI 176 2 = some (.aload_n 0, []) := by decide +kernel
theorem zi_176_3 : zI 176 3 = some (.iload_n 1, []) := by decide +kernel
theorem zi_176_4 : zI 176 4 = some (.invokevirtual 75, [127, 0, 1, 6, 672, 673, 118, 671, 0, 670]) := by decide +kernel
theorem zi_176_7 : zI 176 7 = some (.i2l, []) := by decide +kernel
theorem zi_176_8 : zI 176 8 = some (.lastore, []) := by decide +kernel
theorem zi_176_9 : zI 176 9 = some (.goto 6, [15]) := by decide +kernel
theorem zi_176_15 : zI 176 15 = some (.iconst 0, []) := by decide +kernel
theorem zi_176_16 : zI 176 16 = some (.ireturn, []) := by decide +kernel
theorem zi_177_0 : zI 177 0 = some (.aload_n 2, []) := by decide +kernel
theorem zi_177_1 : zI 177 1 = some (.iconst 0, []) := by decide +kernel
theorem zi_177_2 : zI 177 2 = some (.aload_n 0, []) := by decide +kernel
theorem zi_177_3 : zI 177 3 = some (.iload_n 1, []) := by decide +kernel
theorem zi_177_4 : zI 177 4 = some (.invokevirtual 78, [128, 0, 1, 6, 676, 677, 118, 675, 0, 674]) := by decide +kernel
/-! the wrappers over a fresh object: the class stands at 1, the answer's cell at 88 -/
section WR
variable {l : Launch} {H : zH} {fs : List Value}
theorem wx_line (hb : H[1]? = some (.inr (6, fs))) (x w z : Int32) (q : zMetX l 116 [.ref 1, .int x, .int w, .int z] H "java/lang/IllegalArgumentException") : ∀ (al : Nat → Nat) (CA : Nat → ClassId) (D : va_G), zal al → Met l (zMt 157).1 (zwsW 157 zhh_line) (zrmW 157) (zPcX al CA D [.ref 1, .int x, .int w, .int z, .ref 88] H) (zQX al CA D (nI 1) H) 1 6 (zA al) := by
  have k : zgt 157 0 (zentry (zMt 157).2.2.1 [.ref 1, .int x, .int w, .int z, .ref 88]) [] H (7, [some (.ref 1), some (.int x), some (.int w), some (.int z), some (.ref 88), none], ([.int x, .int w, .int z] : List Value).reverse ++ .ref 1 :: [.int (nI 0), .ref 88], H) := by
    show zgt 157 0 [some (.ref 1), some (.int x), some (.int w), some (.int z), some (.ref 88), none] [] _ _
    refine zg_aload (pc' := 2) zi_157_0 rfl rfl ?_
    refine zg_iconst (v := (nI 0)) (pc' := 3) zi_157_2 rfl rfl ?_
    refine zg_aload_n (pc' := 4) zi_157_3 rfl rfl ?_
    refine zg_iload_n (pc' := 5) zi_157_4 rfl rfl ?_
    refine zg_iload_n (pc' := 6) zi_157_5 rfl rfl ?_
    refine zg_iload_n (pc' := 7) zi_157_6 rfl rfl ?_
    exact zgt_here _ _ _ _ _
  exact zmetWX (pre := []) (x := ⟨0, 12, 15, 13⟩) (suf := [⟨0, 12, 19, 15⟩]) (nm := "java/lang/IllegalArgumentException") (i := 5) (hp2 := 17) (kz := 1) (by decide) (Nat.le_of_ble_eq_true rfl) rfl rfl rfl k zi_157_7 hb rfl q (Nat.le_of_ble_eq_true rfl) rfl (fun z hz => nomatch hz) rfl (by decide) (zw_mem (p := 963) (by decide +kernel)) (List.mem_of_getElem? (i := 0) rfl) (Or.inl ⟨by decide +kernel, rfl⟩) (Nat.le_of_ble_eq_true rfl) (by decide +kernel) rfl (by decide +kernel)
theorem wr_line {H1 : zH} {ob : Nat → Int64} {v : Int32} (hb : H[1]? = some (.inr (6, fs))) (x w z : Int32) (hc : zcalls zTB 116 [.ref 1, .int x, .int w, .int z] H (some (.int v), H1)) (ho : H1[88]? = some (.inl (1, 1, .inr (.inl ob)))) : zcalls zTB 157 [.ref 1, .int x, .int w, .int z, .ref 88] H (some (.int (nI 0)), H1.set 88 (.inl (1, 1, .inr (.inl (vp_updL ob (nI 0).toNatClampNeg v.toInt64))))) := by
  refine zcalls_of (Nat.le_of_ble_eq_true rfl) ?_
  show zruns zTB 157 0 [some (.ref 1), some (.int x), some (.int w), some (.int z), some (.ref 88), none] [] _ _
  refine zr_aload (pc' := 2) zi_157_0 rfl rfl ?_
  refine zr_iconst (v := (nI 0)) (pc' := 3) zi_157_2 rfl rfl ?_
  refine zr_aload_n (pc' := 4) zi_157_3 rfl rfl ?_
  refine zr_iload_n (pc' := 5) zi_157_4 rfl rfl ?_
  refine zr_iload_n (pc' := 6) zi_157_5 rfl rfl ?_
  refine zr_iload_n (pc' := 7) zi_157_6 rfl rfl ?_
  refine zr_v3 (pc' := 10) zi_157_7 hb rfl hc rfl ?_
  refine zr_i2l (pc' := 11) zi_157_10 rfl ?_
  refine zr_last (pc' := 12) zi_157_11 (by decide) ho (by decide) rfl rfl ?_
  refine zr_goto zi_157_12 ?_
  refine zr_iconst (v := (nI 0)) (pc' := 24) zi_157_23 rfl rfl ?_
  exact zr_ireturn zi_157_24 rfl
theorem wx_word (hb : H[1]? = some (.inr (6, fs))) (x : Int32) (q : zMetX l 117 [.ref 1, .int x] H "java/lang/IllegalArgumentException") : ∀ (al : Nat → Nat) (CA : Nat → ClassId) (D : va_G), zal al → Met l (zMt 158).1 (zwsW 158 zhh_word) (zrmW 158) (zPcX al CA D [.ref 1, .int x, .ref 88] H) (zQX al CA D (nI 1) H) 1 6 (zA al) := by
  have k : zgt 158 0 (zentry (zMt 158).2.2.1 [.ref 1, .int x, .ref 88]) [] H (4, [some (.ref 1), some (.int x), some (.ref 88), none], ([.int x] : List Value).reverse ++ .ref 1 :: [.int (nI 0), .ref 88], H) := by
    show zgt 158 0 [some (.ref 1), some (.int x), some (.ref 88), none] [] _ _
    refine zg_aload_n (pc' := 1) zi_158_0 rfl rfl ?_
    refine zg_iconst (v := (nI 0)) (pc' := 2) zi_158_1 rfl rfl ?_
    refine zg_aload_n (pc' := 3) zi_158_2 rfl rfl ?_
    refine zg_iload_n (pc' := 4) zi_158_3 rfl rfl ?_
    exact zgt_here _ _ _ _ _
  exact zmetWX (pre := []) (x := ⟨0, 9, 12, 13⟩) (suf := [⟨0, 9, 15, 15⟩]) (nm := "java/lang/IllegalArgumentException") (i := 3) (hp2 := 13) (kz := 1) (by decide) (Nat.le_of_ble_eq_true rfl) rfl rfl rfl k zi_158_4 hb rfl q (Nat.le_of_ble_eq_true rfl) rfl (fun z hz => nomatch hz) rfl (by decide) (zw_mem (p := 963) (by decide +kernel)) (List.mem_of_getElem? (i := 0) rfl) (Or.inr ⟨3, rfl, by decide +kernel, rfl⟩) (Nat.le_of_ble_eq_true rfl) (by decide +kernel) rfl (by decide +kernel)
theorem wx_word_2 (hb : H[1]? = some (.inr (6, fs))) (x : Int32) (q : zMetX l 117 [.ref 1, .int x] H "java/lang/IllegalStateException") : ∀ (al : Nat → Nat) (CA : Nat → ClassId) (D : va_G), zal al → Met l (zMt 158).1 (zwsW 158 zhh_word) (zrmW 158) (zPcX al CA D [.ref 1, .int x, .ref 88] H) (zQX al CA D (nI 2) H) 1 6 (zA al) := by
  have k : zgt 158 0 (zentry (zMt 158).2.2.1 [.ref 1, .int x, .ref 88]) [] H (4, [some (.ref 1), some (.int x), some (.ref 88), none], ([.int x] : List Value).reverse ++ .ref 1 :: [.int (nI 0), .ref 88], H) := by
    show zgt 158 0 [some (.ref 1), some (.int x), some (.ref 88), none] [] _ _
    refine zg_aload_n (pc' := 1) zi_158_0 rfl rfl ?_
    refine zg_iconst (v := (nI 0)) (pc' := 2) zi_158_1 rfl rfl ?_
    refine zg_aload_n (pc' := 3) zi_158_2 rfl rfl ?_
    refine zg_iload_n (pc' := 4) zi_158_3 rfl rfl ?_
    exact zgt_here _ _ _ _ _
  exact zmetWX (pre := [⟨0, 9, 12, 13⟩]) (x := ⟨0, 9, 15, 15⟩) (suf := []) (nm := "java/lang/IllegalStateException") (i := 3) (hp2 := 16) (kz := 2) (by decide) (Nat.le_of_ble_eq_true rfl) rfl rfl rfl k zi_158_4 hb rfl q (Nat.le_of_ble_eq_true rfl) rfl (fun z hz => by simp only [List.mem_cons, List.not_mem_nil, or_false] at hz; subst hz; exact ⟨by decide, "java/lang/IllegalArgumentException", zw_mem (p := 963) (by decide +kernel), List.mem_of_getElem? (i := 0) rfl⟩) rfl (by decide) (zw_mem (p := 964) (by decide +kernel)) (List.mem_of_getElem? (i := 2) rfl) (Or.inr ⟨3, rfl, by decide +kernel, rfl⟩) (Nat.le_of_ble_eq_true rfl) (by decide +kernel) rfl (by decide +kernel)
theorem wx_learn (hb : H[1]? = some (.inr (6, fs))) (x : Int32) (q : zMetX l 118 [.ref 1, .int x] H "java/lang/IllegalArgumentException") : ∀ (al : Nat → Nat) (CA : Nat → ClassId) (D : va_G), zal al → Met l (zMt 159).1 (zwsW 159 zhh_learn) (zrmW 159) (zPcX al CA D [.ref 1, .int x, .ref 88] H) (zQX al CA D (nI 1) H) 1 6 (zA al) := by
  have k : zgt 159 0 (zentry (zMt 159).2.2.1 [.ref 1, .int x, .ref 88]) [] H (4, [some (.ref 1), some (.int x), some (.ref 88), none], ([.int x] : List Value).reverse ++ .ref 1 :: [.int (nI 0), .ref 88], H) := by
    show zgt 159 0 [some (.ref 1), some (.int x), some (.ref 88), none] [] _ _
    refine zg_aload_n (pc' := 1) zi_159_0 rfl rfl ?_
    refine zg_iconst (v := (nI 0)) (pc' := 2) zi_159_1 rfl rfl ?_
    refine zg_aload_n (pc' := 3) zi_159_2 rfl rfl ?_
    refine zg_iload_n (pc' := 4) zi_159_3 rfl rfl ?_
    exact zgt_here _ _ _ _ _
  exact zmetWX (pre := []) (x := ⟨0, 9, 12, 13⟩) (suf := []) (nm := "java/lang/IllegalArgumentException") (i := 3) (hp2 := 13) (kz := 1) (by decide) (Nat.le_of_ble_eq_true rfl) rfl rfl rfl k zi_159_4 hb rfl q (Nat.le_of_ble_eq_true rfl) rfl (fun z hz => nomatch hz) rfl (by decide) (zw_mem (p := 963) (by decide +kernel)) (List.mem_of_getElem? (i := 0) rfl) (Or.inr ⟨3, rfl, by decide +kernel, rfl⟩) (Nat.le_of_ble_eq_true rfl) (by decide +kernel) rfl (by decide +kernel)
theorem wr_learn {H1 : zH} {ob : Nat → Int64} {v : Int32} (hb : H[1]? = some (.inr (6, fs))) (x : Int32) (hc : zcalls zTB 118 [.ref 1, .int x] H (some (.int v), H1)) (ho : H1[88]? = some (.inl (1, 1, .inr (.inl ob)))) : zcalls zTB 159 [.ref 1, .int x, .ref 88] H (some (.int (nI 0)), H1.set 88 (.inl (1, 1, .inr (.inl (vp_updL ob (nI 0).toNatClampNeg v.toInt64))))) := by
  refine zcalls_of (Nat.le_of_ble_eq_true rfl) ?_
  show zruns zTB 159 0 [some (.ref 1), some (.int x), some (.ref 88), none] [] _ _
  refine zr_aload_n (pc' := 1) zi_159_0 rfl rfl ?_
  refine zr_iconst (v := (nI 0)) (pc' := 2) zi_159_1 rfl rfl ?_
  refine zr_aload_n (pc' := 3) zi_159_2 rfl rfl ?_
  refine zr_iload_n (pc' := 4) zi_159_3 rfl rfl ?_
  refine zr_v1 (pc' := 7) zi_159_4 hb rfl hc rfl ?_
  refine zr_i2l (pc' := 8) zi_159_7 rfl ?_
  refine zr_last (pc' := 9) zi_159_8 (by decide) ho (by decide) rfl rfl ?_
  refine zr_goto zi_159_9 ?_
  refine zr_iconst (v := (nI 0)) (pc' := 16) zi_159_15 rfl rfl ?_
  exact zr_ireturn zi_159_16 rfl
theorem wx_set (hb : H[1]? = some (.inr (6, fs))) (x w : Int32) (q : zMetX l 119 [.ref 1, .int x, .int w] H "java/lang/IllegalArgumentException") : ∀ (al : Nat → Nat) (CA : Nat → ClassId) (D : va_G), zal al → Met l (zMt 160).1 (zwsW 160 zhh_set) (zrmW 160) (zPcX al CA D [.ref 1, .int x, .int w, .ref 88] H) (zQX al CA D (nI 1) H) 1 6 (zA al) := by
  have k : zgt 160 0 (zentry (zMt 160).2.2.1 [.ref 1, .int x, .int w, .ref 88]) [] H (5, [some (.ref 1), some (.int x), some (.int w), some (.ref 88), none], ([.int x, .int w] : List Value).reverse ++ .ref 1 :: [.int (nI 0), .ref 88], H) := by
    show zgt 160 0 [some (.ref 1), some (.int x), some (.int w), some (.ref 88), none] [] _ _
    refine zg_aload_n (pc' := 1) zi_160_0 rfl rfl ?_
    refine zg_iconst (v := (nI 0)) (pc' := 2) zi_160_1 rfl rfl ?_
    refine zg_aload_n (pc' := 3) zi_160_2 rfl rfl ?_
    refine zg_iload_n (pc' := 4) zi_160_3 rfl rfl ?_
    refine zg_iload_n (pc' := 5) zi_160_4 rfl rfl ?_
    exact zgt_here _ _ _ _ _
  exact zmetWX (pre := []) (x := ⟨0, 10, 13, 13⟩) (suf := []) (nm := "java/lang/IllegalArgumentException") (i := 4) (hp2 := 15) (kz := 1) (by decide) (Nat.le_of_ble_eq_true rfl) rfl rfl rfl k zi_160_5 hb rfl q (Nat.le_of_ble_eq_true rfl) rfl (fun z hz => nomatch hz) rfl (by decide) (zw_mem (p := 963) (by decide +kernel)) (List.mem_of_getElem? (i := 0) rfl) (Or.inl ⟨by decide +kernel, rfl⟩) (Nat.le_of_ble_eq_true rfl) (by decide +kernel) rfl (by decide +kernel)
theorem wr_set {H1 : zH} {ob : Nat → Int64} {v : Int32} (hb : H[1]? = some (.inr (6, fs))) (x w : Int32) (hc : zcalls zTB 119 [.ref 1, .int x, .int w] H (some (.int v), H1)) (ho : H1[88]? = some (.inl (1, 1, .inr (.inl ob)))) : zcalls zTB 160 [.ref 1, .int x, .int w, .ref 88] H (some (.int (nI 0)), H1.set 88 (.inl (1, 1, .inr (.inl (vp_updL ob (nI 0).toNatClampNeg v.toInt64))))) := by
  refine zcalls_of (Nat.le_of_ble_eq_true rfl) ?_
  show zruns zTB 160 0 [some (.ref 1), some (.int x), some (.int w), some (.ref 88), none] [] _ _
  refine zr_aload_n (pc' := 1) zi_160_0 rfl rfl ?_
  refine zr_iconst (v := (nI 0)) (pc' := 2) zi_160_1 rfl rfl ?_
  refine zr_aload_n (pc' := 3) zi_160_2 rfl rfl ?_
  refine zr_iload_n (pc' := 4) zi_160_3 rfl rfl ?_
  refine zr_iload_n (pc' := 5) zi_160_4 rfl rfl ?_
  refine zr_v2 (pc' := 8) zi_160_5 hb rfl hc rfl ?_
  refine zr_i2l (pc' := 9) zi_160_8 rfl ?_
  refine zr_last (pc' := 10) zi_160_9 (by decide) ho (by decide) rfl rfl ?_
  refine zr_goto zi_160_10 ?_
  refine zr_iconst (v := (nI 0)) (pc' := 18) zi_160_17 rfl rfl ?_
  exact zr_ireturn zi_160_18 rfl
theorem wx_many (hb : H[1]? = some (.inr (6, fs))) (x : Int32) (q : zMetX l 94 [.ref 1, .int x] H "java/lang/IllegalArgumentException") : ∀ (al : Nat → Nat) (CA : Nat → ClassId) (D : va_G), zal al → Met l (zMt 161).1 (zwsW 161 zhh_many) (zrmW 161) (zPcX al CA D [.ref 1, .int x, .ref 88] H) (zQX al CA D (nI 1) H) 1 6 (zA al) := by
  have k : zgt 161 0 (zentry (zMt 161).2.2.1 [.ref 1, .int x, .ref 88]) [] H (4, [some (.ref 1), some (.int x), some (.ref 88), none], ([.int x] : List Value).reverse ++ .ref 1 :: [.int (nI 0), .ref 88], H) := by
    show zgt 161 0 [some (.ref 1), some (.int x), some (.ref 88), none] [] _ _
    refine zg_aload_n (pc' := 1) zi_161_0 rfl rfl ?_
    refine zg_iconst (v := (nI 0)) (pc' := 2) zi_161_1 rfl rfl ?_
    refine zg_aload_n (pc' := 3) zi_161_2 rfl rfl ?_
    refine zg_iload_n (pc' := 4) zi_161_3 rfl rfl ?_
    exact zgt_here _ _ _ _ _
  exact zmetWX (pre := []) (x := ⟨0, 9, 12, 13⟩) (suf := []) (nm := "java/lang/IllegalArgumentException") (i := 3) (hp2 := 13) (kz := 1) (by decide) (Nat.le_of_ble_eq_true rfl) rfl rfl rfl k zi_161_4 hb rfl q (Nat.le_of_ble_eq_true rfl) rfl (fun z hz => nomatch hz) rfl (by decide) (zw_mem (p := 963) (by decide +kernel)) (List.mem_of_getElem? (i := 0) rfl) (Or.inr ⟨3, rfl, by decide +kernel, rfl⟩) (Nat.le_of_ble_eq_true rfl) (by decide +kernel) rfl (by decide +kernel)
theorem wr_many {H1 : zH} {ob : Nat → Int64} {v : Int32} (hb : H[1]? = some (.inr (6, fs))) (x : Int32) (hc : zcalls zTB 94 [.ref 1, .int x] H (some (.int v), H1)) (ho : H1[88]? = some (.inl (1, 1, .inr (.inl ob)))) : zcalls zTB 161 [.ref 1, .int x, .ref 88] H (some (.int (nI 0)), H1.set 88 (.inl (1, 1, .inr (.inl (vp_updL ob (nI 0).toNatClampNeg v.toInt64))))) := by
  refine zcalls_of (Nat.le_of_ble_eq_true rfl) ?_
  show zruns zTB 161 0 [some (.ref 1), some (.int x), some (.ref 88), none] [] _ _
  refine zr_aload_n (pc' := 1) zi_161_0 rfl rfl ?_
  refine zr_iconst (v := (nI 0)) (pc' := 2) zi_161_1 rfl rfl ?_
  refine zr_aload_n (pc' := 3) zi_161_2 rfl rfl ?_
  refine zr_iload_n (pc' := 4) zi_161_3 rfl rfl ?_
  refine zr_v1 (pc' := 7) zi_161_4 hb rfl hc rfl ?_
  refine zr_i2l (pc' := 8) zi_161_7 rfl ?_
  refine zr_last (pc' := 9) zi_161_8 (by decide) ho (by decide) rfl rfl ?_
  refine zr_goto zi_161_9 ?_
  refine zr_iconst (v := (nI 0)) (pc' := 16) zi_161_15 rfl rfl ?_
  exact zr_ireturn zi_161_16 rfl
theorem wx_ofLine (hb : H[1]? = some (.inr (6, fs))) (x w : Int32) (q : zMetX l 95 [.ref 1, .int x, .int w] H "java/lang/IndexOutOfBoundsException") : ∀ (al : Nat → Nat) (CA : Nat → ClassId) (D : va_G), zal al → Met l (zMt 162).1 (zwsW 162 zhh_ofLine) (zrmW 162) (zPcX al CA D [.ref 1, .int x, .int w, .ref 88] H) (zQX al CA D (nI 1) H) 1 6 (zA al) := by
  have k : zgt 162 0 (zentry (zMt 162).2.2.1 [.ref 1, .int x, .int w, .ref 88]) [] H (5, [some (.ref 1), some (.int x), some (.int w), some (.ref 88), none], ([.int x, .int w] : List Value).reverse ++ .ref 1 :: [.int (nI 0), .ref 88], H) := by
    show zgt 162 0 [some (.ref 1), some (.int x), some (.int w), some (.ref 88), none] [] _ _
    refine zg_aload_n (pc' := 1) zi_162_0 rfl rfl ?_
    refine zg_iconst (v := (nI 0)) (pc' := 2) zi_162_1 rfl rfl ?_
    refine zg_aload_n (pc' := 3) zi_162_2 rfl rfl ?_
    refine zg_iload_n (pc' := 4) zi_162_3 rfl rfl ?_
    refine zg_iload_n (pc' := 5) zi_162_4 rfl rfl ?_
    exact zgt_here _ _ _ _ _
  exact zmetWX (pre := []) (x := ⟨0, 10, 13, 34⟩) (suf := [⟨0, 10, 17, 13⟩]) (nm := "java/lang/IndexOutOfBoundsException") (i := 4) (hp2 := 15) (kz := 1) (by decide) (Nat.le_of_ble_eq_true rfl) rfl rfl rfl k zi_162_5 hb rfl q (Nat.le_of_ble_eq_true rfl) rfl (fun z hz => nomatch hz) rfl (by decide) (zw_mem (p := 989) (by decide +kernel)) (List.mem_of_getElem? (i := 1) rfl) (Or.inl ⟨by decide +kernel, rfl⟩) (Nat.le_of_ble_eq_true rfl) (by decide +kernel) rfl (by decide +kernel)
theorem wx_wordAt (hb : H[1]? = some (.inr (6, fs))) (x w : Int32) (q : zMetX l 121 [.ref 1, .int x, .int w] H "java/lang/IndexOutOfBoundsException") : ∀ (al : Nat → Nat) (CA : Nat → ClassId) (D : va_G), zal al → Met l (zMt 163).1 (zwsW 163 zhh_wordAt) (zrmW 163) (zPcX al CA D [.ref 1, .int x, .int w, .ref 88] H) (zQX al CA D (nI 1) H) 1 6 (zA al) := by
  have k : zgt 163 0 (zentry (zMt 163).2.2.1 [.ref 1, .int x, .int w, .ref 88]) [] H (5, [some (.ref 1), some (.int x), some (.int w), some (.ref 88), none], ([.int x, .int w] : List Value).reverse ++ .ref 1 :: [.int (nI 0), .ref 88], H) := by
    show zgt 163 0 [some (.ref 1), some (.int x), some (.int w), some (.ref 88), none] [] _ _
    refine zg_aload_n (pc' := 1) zi_163_0 rfl rfl ?_
    refine zg_iconst (v := (nI 0)) (pc' := 2) zi_163_1 rfl rfl ?_
    refine zg_aload_n (pc' := 3) zi_163_2 rfl rfl ?_
    refine zg_iload_n (pc' := 4) zi_163_3 rfl rfl ?_
    refine zg_iload_n (pc' := 5) zi_163_4 rfl rfl ?_
    exact zgt_here _ _ _ _ _
  exact zmetWX (pre := []) (x := ⟨0, 10, 13, 34⟩) (suf := []) (nm := "java/lang/IndexOutOfBoundsException") (i := 4) (hp2 := 15) (kz := 1) (by decide) (Nat.le_of_ble_eq_true rfl) rfl rfl rfl k zi_163_5 hb rfl q (Nat.le_of_ble_eq_true rfl) rfl (fun z hz => nomatch hz) rfl (by decide) (zw_mem (p := 989) (by decide +kernel)) (List.mem_of_getElem? (i := 1) rfl) (Or.inl ⟨by decide +kernel, rfl⟩) (Nat.le_of_ble_eq_true rfl) (by decide +kernel) rfl (by decide +kernel)
theorem wx_ofTemplate (hb : H[1]? = some (.inr (6, fs))) (x w : Int32) (q : zMetX l 96 [.ref 1, .int x, .int w] H "java/lang/IndexOutOfBoundsException") : ∀ (al : Nat → Nat) (CA : Nat → ClassId) (D : va_G), zal al → Met l (zMt 164).1 (zwsW 164 zhh_ofTemplate) (zrmW 164) (zPcX al CA D [.ref 1, .int x, .int w, .ref 88] H) (zQX al CA D (nI 1) H) 1 6 (zA al) := by
  have k : zgt 164 0 (zentry (zMt 164).2.2.1 [.ref 1, .int x, .int w, .ref 88]) [] H (5, [some (.ref 1), some (.int x), some (.int w), some (.ref 88), none], ([.int x, .int w] : List Value).reverse ++ .ref 1 :: [.int (nI 0), .ref 88], H) := by
    show zgt 164 0 [some (.ref 1), some (.int x), some (.int w), some (.ref 88), none] [] _ _
    refine zg_aload_n (pc' := 1) zi_164_0 rfl rfl ?_
    refine zg_iconst (v := (nI 0)) (pc' := 2) zi_164_1 rfl rfl ?_
    refine zg_aload_n (pc' := 3) zi_164_2 rfl rfl ?_
    refine zg_iload_n (pc' := 4) zi_164_3 rfl rfl ?_
    refine zg_iload_n (pc' := 5) zi_164_4 rfl rfl ?_
    exact zgt_here _ _ _ _ _
  exact zmetWX (pre := []) (x := ⟨0, 10, 13, 34⟩) (suf := [⟨0, 10, 17, 13⟩]) (nm := "java/lang/IndexOutOfBoundsException") (i := 4) (hp2 := 15) (kz := 1) (by decide) (Nat.le_of_ble_eq_true rfl) rfl rfl rfl k zi_164_5 hb rfl q (Nat.le_of_ble_eq_true rfl) rfl (fun z hz => nomatch hz) rfl (by decide) (zw_mem (p := 989) (by decide +kernel)) (List.mem_of_getElem? (i := 1) rfl) (Or.inl ⟨by decide +kernel, rfl⟩) (Nat.le_of_ble_eq_true rfl) (by decide +kernel) rfl (by decide +kernel)
theorem wx_slot (hb : H[1]? = some (.inr (6, fs))) (x w : Int32) (q : zMetX l 97 [.ref 1, .int x, .int w] H "java/lang/IndexOutOfBoundsException") : ∀ (al : Nat → Nat) (CA : Nat → ClassId) (D : va_G), zal al → Met l (zMt 165).1 (zwsW 165 zhh_slot) (zrmW 165) (zPcX al CA D [.ref 1, .int x, .int w, .ref 88] H) (zQX al CA D (nI 1) H) 1 6 (zA al) := by
  have k : zgt 165 0 (zentry (zMt 165).2.2.1 [.ref 1, .int x, .int w, .ref 88]) [] H (5, [some (.ref 1), some (.int x), some (.int w), some (.ref 88), none], ([.int x, .int w] : List Value).reverse ++ .ref 1 :: [.int (nI 0), .ref 88], H) := by
    show zgt 165 0 [some (.ref 1), some (.int x), some (.int w), some (.ref 88), none] [] _ _
    refine zg_aload_n (pc' := 1) zi_165_0 rfl rfl ?_
    refine zg_iconst (v := (nI 0)) (pc' := 2) zi_165_1 rfl rfl ?_
    refine zg_aload_n (pc' := 3) zi_165_2 rfl rfl ?_
    refine zg_iload_n (pc' := 4) zi_165_3 rfl rfl ?_
    refine zg_iload_n (pc' := 5) zi_165_4 rfl rfl ?_
    exact zgt_here _ _ _ _ _
  exact zmetWX (pre := []) (x := ⟨0, 10, 13, 34⟩) (suf := []) (nm := "java/lang/IndexOutOfBoundsException") (i := 4) (hp2 := 15) (kz := 1) (by decide) (Nat.le_of_ble_eq_true rfl) rfl rfl rfl k zi_165_5 hb rfl q (Nat.le_of_ble_eq_true rfl) rfl (fun z hz => nomatch hz) rfl (by decide) (zw_mem (p := 989) (by decide +kernel)) (List.mem_of_getElem? (i := 1) rfl) (Or.inl ⟨by decide +kernel, rfl⟩) (Nat.le_of_ble_eq_true rfl) (by decide +kernel) rfl (by decide +kernel)
theorem wx_values (hb : H[1]? = some (.inr (6, fs))) (x w : Int32) (q : zMetX l 98 [.ref 1, .int x, .int w] H "java/lang/IndexOutOfBoundsException") : ∀ (al : Nat → Nat) (CA : Nat → ClassId) (D : va_G), zal al → Met l (zMt 166).1 (zwsW 166 zhh_values) (zrmW 166) (zPcX al CA D [.ref 1, .int x, .int w, .ref 88] H) (zQX al CA D (nI 1) H) 1 6 (zA al) := by
  have k : zgt 166 0 (zentry (zMt 166).2.2.1 [.ref 1, .int x, .int w, .ref 88]) [] H (5, [some (.ref 1), some (.int x), some (.int w), some (.ref 88), none], ([.int x, .int w] : List Value).reverse ++ .ref 1 :: [.int (nI 0), .ref 88], H) := by
    show zgt 166 0 [some (.ref 1), some (.int x), some (.int w), some (.ref 88), none] [] _ _
    refine zg_aload_n (pc' := 1) zi_166_0 rfl rfl ?_
    refine zg_iconst (v := (nI 0)) (pc' := 2) zi_166_1 rfl rfl ?_
    refine zg_aload_n (pc' := 3) zi_166_2 rfl rfl ?_
    refine zg_iload_n (pc' := 4) zi_166_3 rfl rfl ?_
    refine zg_iload_n (pc' := 5) zi_166_4 rfl rfl ?_
    exact zgt_here _ _ _ _ _
  exact zmetWX (pre := []) (x := ⟨0, 10, 13, 34⟩) (suf := []) (nm := "java/lang/IndexOutOfBoundsException") (i := 4) (hp2 := 15) (kz := 1) (by decide) (Nat.le_of_ble_eq_true rfl) rfl rfl rfl k zi_166_5 hb rfl q (Nat.le_of_ble_eq_true rfl) rfl (fun z hz => nomatch hz) rfl (by decide) (zw_mem (p := 989) (by decide +kernel)) (List.mem_of_getElem? (i := 1) rfl) (Or.inl ⟨by decide +kernel, rfl⟩) (Nat.le_of_ble_eq_true rfl) (by decide +kernel) rfl (by decide +kernel)
theorem wx_alike (hb : H[1]? = some (.inr (6, fs))) (x w : Int32) (q : zMetX l 122 [.ref 1, .int x, .int w] H "java/lang/IndexOutOfBoundsException") : ∀ (al : Nat → Nat) (CA : Nat → ClassId) (D : va_G), zal al → Met l (zMt 167).1 (zwsW 167 zhh_alike) (zrmW 167) (zPcX al CA D [.ref 1, .int x, .int w, .ref 88] H) (zQX al CA D (nI 1) H) 1 6 (zA al) := by
  have k : zgt 167 0 (zentry (zMt 167).2.2.1 [.ref 1, .int x, .int w, .ref 88]) [] H (5, [some (.ref 1), some (.int x), some (.int w), some (.ref 88), none], ([.int x, .int w] : List Value).reverse ++ .ref 1 :: [.int (nI 0), .ref 88], H) := by
    show zgt 167 0 [some (.ref 1), some (.int x), some (.int w), some (.ref 88), none] [] _ _
    refine zg_aload_n (pc' := 1) zi_167_0 rfl rfl ?_
    refine zg_iconst (v := (nI 0)) (pc' := 2) zi_167_1 rfl rfl ?_
    refine zg_aload_n (pc' := 3) zi_167_2 rfl rfl ?_
    refine zg_iload_n (pc' := 4) zi_167_3 rfl rfl ?_
    refine zg_iload_n (pc' := 5) zi_167_4 rfl rfl ?_
    exact zgt_here _ _ _ _ _
  exact zmetWX (pre := []) (x := ⟨0, 10, 13, 34⟩) (suf := []) (nm := "java/lang/IndexOutOfBoundsException") (i := 4) (hp2 := 15) (kz := 1) (by decide) (Nat.le_of_ble_eq_true rfl) rfl rfl rfl k zi_167_5 hb rfl q (Nat.le_of_ble_eq_true rfl) rfl (fun z hz => nomatch hz) rfl (by decide) (zw_mem (p := 989) (by decide +kernel)) (List.mem_of_getElem? (i := 1) rfl) (Or.inl ⟨by decide +kernel, rfl⟩) (Nat.le_of_ble_eq_true rfl) (by decide +kernel) rfl (by decide +kernel)
theorem wx_ofSession (hb : H[1]? = some (.inr (6, fs))) (x w : Int32) (q : zMetX l 99 [.ref 1, .int x, .int w] H "java/lang/IndexOutOfBoundsException") : ∀ (al : Nat → Nat) (CA : Nat → ClassId) (D : va_G), zal al → Met l (zMt 168).1 (zwsW 168 zhh_ofSession) (zrmW 168) (zPcX al CA D [.ref 1, .int x, .int w, .ref 88] H) (zQX al CA D (nI 1) H) 1 6 (zA al) := by
  have k : zgt 168 0 (zentry (zMt 168).2.2.1 [.ref 1, .int x, .int w, .ref 88]) [] H (5, [some (.ref 1), some (.int x), some (.int w), some (.ref 88), none], ([.int x, .int w] : List Value).reverse ++ .ref 1 :: [.int (nI 0), .ref 88], H) := by
    show zgt 168 0 [some (.ref 1), some (.int x), some (.int w), some (.ref 88), none] [] _ _
    refine zg_aload_n (pc' := 1) zi_168_0 rfl rfl ?_
    refine zg_iconst (v := (nI 0)) (pc' := 2) zi_168_1 rfl rfl ?_
    refine zg_aload_n (pc' := 3) zi_168_2 rfl rfl ?_
    refine zg_iload_n (pc' := 4) zi_168_3 rfl rfl ?_
    refine zg_iload_n (pc' := 5) zi_168_4 rfl rfl ?_
    exact zgt_here _ _ _ _ _
  exact zmetWX (pre := []) (x := ⟨0, 10, 13, 34⟩) (suf := [⟨0, 10, 17, 13⟩]) (nm := "java/lang/IndexOutOfBoundsException") (i := 4) (hp2 := 15) (kz := 1) (by decide) (Nat.le_of_ble_eq_true rfl) rfl rfl rfl k zi_168_5 hb rfl q (Nat.le_of_ble_eq_true rfl) rfl (fun z hz => nomatch hz) rfl (by decide) (zw_mem (p := 989) (by decide +kernel)) (List.mem_of_getElem? (i := 1) rfl) (Or.inl ⟨by decide +kernel, rfl⟩) (Nat.le_of_ble_eq_true rfl) (by decide +kernel) rfl (by decide +kernel)
theorem wx_inSession (hb : H[1]? = some (.inr (6, fs))) (x w : Int32) (q : zMetX l 123 [.ref 1, .int x, .int w] H "java/lang/IndexOutOfBoundsException") : ∀ (al : Nat → Nat) (CA : Nat → ClassId) (D : va_G), zal al → Met l (zMt 169).1 (zwsW 169 zhh_inSession) (zrmW 169) (zPcX al CA D [.ref 1, .int x, .int w, .ref 88] H) (zQX al CA D (nI 1) H) 1 6 (zA al) := by
  have k : zgt 169 0 (zentry (zMt 169).2.2.1 [.ref 1, .int x, .int w, .ref 88]) [] H (5, [some (.ref 1), some (.int x), some (.int w), some (.ref 88), none], ([.int x, .int w] : List Value).reverse ++ .ref 1 :: [.int (nI 0), .ref 88], H) := by
    show zgt 169 0 [some (.ref 1), some (.int x), some (.int w), some (.ref 88), none] [] _ _
    refine zg_aload_n (pc' := 1) zi_169_0 rfl rfl ?_
    refine zg_iconst (v := (nI 0)) (pc' := 2) zi_169_1 rfl rfl ?_
    refine zg_aload_n (pc' := 3) zi_169_2 rfl rfl ?_
    refine zg_iload_n (pc' := 4) zi_169_3 rfl rfl ?_
    refine zg_iload_n (pc' := 5) zi_169_4 rfl rfl ?_
    exact zgt_here _ _ _ _ _
  exact zmetWX (pre := []) (x := ⟨0, 10, 13, 34⟩) (suf := []) (nm := "java/lang/IndexOutOfBoundsException") (i := 4) (hp2 := 15) (kz := 1) (by decide) (Nat.le_of_ble_eq_true rfl) rfl rfl rfl k zi_169_5 hb rfl q (Nat.le_of_ble_eq_true rfl) rfl (fun z hz => nomatch hz) rfl (by decide) (zw_mem (p := 989) (by decide +kernel)) (List.mem_of_getElem? (i := 1) rfl) (Or.inl ⟨by decide +kernel, rfl⟩) (Nat.le_of_ble_eq_true rfl) (by decide +kernel) rfl (by decide +kernel)
theorem wx_count (hb : H[1]? = some (.inr (6, fs))) (x w : Int32) (q : zMetX l 125 [.ref 1, .int x, .int w] H "java/lang/IndexOutOfBoundsException") : ∀ (al : Nat → Nat) (CA : Nat → ClassId) (D : va_G), zal al → Met l (zMt 170).1 (zwsW 170 zhh_count) (zrmW 170) (zPcX al CA D [.ref 1, .int x, .int w, .ref 88] H) (zQX al CA D (nI 1) H) 1 6 (zA al) := by
  have k : zgt 170 0 (zentry (zMt 170).2.2.1 [.ref 1, .int x, .int w, .ref 88]) [] H (5, [some (.ref 1), some (.int x), some (.int w), some (.ref 88), none], ([.int x, .int w] : List Value).reverse ++ .ref 1 :: [.int (nI 0), .ref 88], H) := by
    show zgt 170 0 [some (.ref 1), some (.int x), some (.int w), some (.ref 88), none] [] _ _
    refine zg_aload_n (pc' := 1) zi_170_0 rfl rfl ?_
    refine zg_iconst (v := (nI 0)) (pc' := 2) zi_170_1 rfl rfl ?_
    refine zg_aload_n (pc' := 3) zi_170_2 rfl rfl ?_
    refine zg_iload_n (pc' := 4) zi_170_3 rfl rfl ?_
    refine zg_iload_n (pc' := 5) zi_170_4 rfl rfl ?_
    exact zgt_here _ _ _ _ _
  exact zmetWX (pre := []) (x := ⟨0, 10, 13, 34⟩) (suf := [⟨0, 10, 17, 13⟩]) (nm := "java/lang/IndexOutOfBoundsException") (i := 4) (hp2 := 15) (kz := 1) (by decide) (Nat.le_of_ble_eq_true rfl) rfl rfl rfl k zi_170_5 hb rfl q (Nat.le_of_ble_eq_true rfl) rfl (fun z hz => nomatch hz) rfl (by decide) (zw_mem (p := 989) (by decide +kernel)) (List.mem_of_getElem? (i := 1) rfl) (Or.inl ⟨by decide +kernel, rfl⟩) (Nat.le_of_ble_eq_true rfl) (by decide +kernel) rfl (by decide +kernel)
theorem wx_spike (hb : H[1]? = some (.inr (6, fs))) (x w : Int32) (q : zMetX l 101 [.ref 1, .int x, .int w] H "java/lang/IndexOutOfBoundsException") : ∀ (al : Nat → Nat) (CA : Nat → ClassId) (D : va_G), zal al → Met l (zMt 171).1 (zwsW 171 zhh_spike) (zrmW 171) (zPcX al CA D [.ref 1, .int x, .int w, .ref 88] H) (zQX al CA D (nI 1) H) 1 6 (zA al) := by
  have k : zgt 171 0 (zentry (zMt 171).2.2.1 [.ref 1, .int x, .int w, .ref 88]) [] H (5, [some (.ref 1), some (.int x), some (.int w), some (.ref 88), none], ([.int x, .int w] : List Value).reverse ++ .ref 1 :: [.int (nI 0), .ref 88], H) := by
    show zgt 171 0 [some (.ref 1), some (.int x), some (.int w), some (.ref 88), none] [] _ _
    refine zg_aload_n (pc' := 1) zi_171_0 rfl rfl ?_
    refine zg_iconst (v := (nI 0)) (pc' := 2) zi_171_1 rfl rfl ?_
    refine zg_aload_n (pc' := 3) zi_171_2 rfl rfl ?_
    refine zg_iload_n (pc' := 4) zi_171_3 rfl rfl ?_
    refine zg_iload_n (pc' := 5) zi_171_4 rfl rfl ?_
    exact zgt_here _ _ _ _ _
  exact zmetWX (pre := []) (x := ⟨0, 10, 13, 34⟩) (suf := [⟨0, 10, 17, 13⟩]) (nm := "java/lang/IndexOutOfBoundsException") (i := 4) (hp2 := 15) (kz := 1) (by decide) (Nat.le_of_ble_eq_true rfl) rfl rfl rfl k zi_171_5 hb rfl q (Nat.le_of_ble_eq_true rfl) rfl (fun z hz => nomatch hz) rfl (by decide) (zw_mem (p := 989) (by decide +kernel)) (List.mem_of_getElem? (i := 1) rfl) (Or.inl ⟨by decide +kernel, rfl⟩) (Nat.le_of_ble_eq_true rfl) (by decide +kernel) rfl (by decide +kernel)
theorem wx_causes (hb : H[1]? = some (.inr (6, fs))) (x : Int32) (q : zMetX l 102 [.ref 1, .int x] H "java/lang/IndexOutOfBoundsException") : ∀ (al : Nat → Nat) (CA : Nat → ClassId) (D : va_G), zal al → Met l (zMt 172).1 (zwsW 172 zhh_causes) (zrmW 172) (zPcX al CA D [.ref 1, .int x, .ref 88] H) (zQX al CA D (nI 1) H) 1 6 (zA al) := by
  have k : zgt 172 0 (zentry (zMt 172).2.2.1 [.ref 1, .int x, .ref 88]) [] H (4, [some (.ref 1), some (.int x), some (.ref 88), none], ([.int x] : List Value).reverse ++ .ref 1 :: [.int (nI 0), .ref 88], H) := by
    show zgt 172 0 [some (.ref 1), some (.int x), some (.ref 88), none] [] _ _
    refine zg_aload_n (pc' := 1) zi_172_0 rfl rfl ?_
    refine zg_iconst (v := (nI 0)) (pc' := 2) zi_172_1 rfl rfl ?_
    refine zg_aload_n (pc' := 3) zi_172_2 rfl rfl ?_
    refine zg_iload_n (pc' := 4) zi_172_3 rfl rfl ?_
    exact zgt_here _ _ _ _ _
  exact zmetWX (pre := []) (x := ⟨0, 9, 12, 34⟩) (suf := []) (nm := "java/lang/IndexOutOfBoundsException") (i := 3) (hp2 := 13) (kz := 1) (by decide) (Nat.le_of_ble_eq_true rfl) rfl rfl rfl k zi_172_4 hb rfl q (Nat.le_of_ble_eq_true rfl) rfl (fun z hz => nomatch hz) rfl (by decide) (zw_mem (p := 989) (by decide +kernel)) (List.mem_of_getElem? (i := 1) rfl) (Or.inr ⟨3, rfl, by decide +kernel, rfl⟩) (Nat.le_of_ble_eq_true rfl) (by decide +kernel) rfl (by decide +kernel)
theorem wx_cause (hb : H[1]? = some (.inr (6, fs))) (x w z : Int32) (q : zMetX l 103 [.ref 1, .int x, .int w, .int z] H "java/lang/IndexOutOfBoundsException") : ∀ (al : Nat → Nat) (CA : Nat → ClassId) (D : va_G), zal al → Met l (zMt 173).1 (zwsW 173 zhh_cause) (zrmW 173) (zPcX al CA D [.ref 1, .int x, .int w, .int z, .ref 88] H) (zQX al CA D (nI 1) H) 1 6 (zA al) := by
  have k : zgt 173 0 (zentry (zMt 173).2.2.1 [.ref 1, .int x, .int w, .int z, .ref 88]) [] H (7, [some (.ref 1), some (.int x), some (.int w), some (.int z), some (.ref 88), none], ([.int x, .int w, .int z] : List Value).reverse ++ .ref 1 :: [.int (nI 0), .ref 88], H) := by
    show zgt 173 0 [some (.ref 1), some (.int x), some (.int w), some (.int z), some (.ref 88), none] [] _ _
    refine zg_aload (pc' := 2) zi_173_0 rfl rfl ?_
    refine zg_iconst (v := (nI 0)) (pc' := 3) zi_173_2 rfl rfl ?_
    refine zg_aload_n (pc' := 4) zi_173_3 rfl rfl ?_
    refine zg_iload_n (pc' := 5) zi_173_4 rfl rfl ?_
    refine zg_iload_n (pc' := 6) zi_173_5 rfl rfl ?_
    refine zg_iload_n (pc' := 7) zi_173_6 rfl rfl ?_
    exact zgt_here _ _ _ _ _
  exact zmetWX (pre := []) (x := ⟨0, 12, 15, 34⟩) (suf := [⟨0, 12, 19, 13⟩]) (nm := "java/lang/IndexOutOfBoundsException") (i := 5) (hp2 := 17) (kz := 1) (by decide) (Nat.le_of_ble_eq_true rfl) rfl rfl rfl k zi_173_7 hb rfl q (Nat.le_of_ble_eq_true rfl) rfl (fun z hz => nomatch hz) rfl (by decide) (zw_mem (p := 989) (by decide +kernel)) (List.mem_of_getElem? (i := 1) rfl) (Or.inl ⟨by decide +kernel, rfl⟩) (Nat.le_of_ble_eq_true rfl) (by decide +kernel) rfl (by decide +kernel)
theorem wx_because (hb : H[1]? = some (.inr (6, fs))) (x : Int32) (q : zMetX l 104 [.ref 1, .int x] H "java/lang/IndexOutOfBoundsException") : ∀ (al : Nat → Nat) (CA : Nat → ClassId) (D : va_G), zal al → Met l (zMt 174).1 (zwsW 174 zhh_because) (zrmW 174) (zPcX al CA D [.ref 1, .int x, .ref 88] H) (zQX al CA D (nI 1) H) 1 6 (zA al) := by
  have k : zgt 174 0 (zentry (zMt 174).2.2.1 [.ref 1, .int x, .ref 88]) [] H (4, [some (.ref 1), some (.int x), some (.ref 88), none], ([.int x] : List Value).reverse ++ .ref 1 :: [.int (nI 0), .ref 88], H) := by
    show zgt 174 0 [some (.ref 1), some (.int x), some (.ref 88), none] [] _ _
    refine zg_aload_n (pc' := 1) zi_174_0 rfl rfl ?_
    refine zg_iconst (v := (nI 0)) (pc' := 2) zi_174_1 rfl rfl ?_
    refine zg_aload_n (pc' := 3) zi_174_2 rfl rfl ?_
    refine zg_iload_n (pc' := 4) zi_174_3 rfl rfl ?_
    exact zgt_here _ _ _ _ _
  exact zmetWX (pre := []) (x := ⟨0, 9, 12, 34⟩) (suf := []) (nm := "java/lang/IndexOutOfBoundsException") (i := 3) (hp2 := 13) (kz := 1) (by decide) (Nat.le_of_ble_eq_true rfl) rfl rfl rfl k zi_174_4 hb rfl q (Nat.le_of_ble_eq_true rfl) rfl (fun z hz => nomatch hz) rfl (by decide) (zw_mem (p := 989) (by decide +kernel)) (List.mem_of_getElem? (i := 1) rfl) (Or.inr ⟨3, rfl, by decide +kernel, rfl⟩) (Nat.le_of_ble_eq_true rfl) (by decide +kernel) rfl (by decide +kernel)
theorem wx_templatesWith (hb : H[1]? = some (.inr (6, fs))) (x : Int32) (q : zMetX l 126 [.ref 1, .int x] H "java/lang/IllegalArgumentException") : ∀ (al : Nat → Nat) (CA : Nat → ClassId) (D : va_G), zal al → Met l (zMt 175).1 (zwsW 175 zhh_templatesWith) (zrmW 175) (zPcX al CA D [.ref 1, .int x, .ref 88] H) (zQX al CA D (nI 1) H) 1 6 (zA al) := by
  have k : zgt 175 0 (zentry (zMt 175).2.2.1 [.ref 1, .int x, .ref 88]) [] H (4, [some (.ref 1), some (.int x), some (.ref 88), none], ([.int x] : List Value).reverse ++ .ref 1 :: [.int (nI 0), .ref 88], H) := by
    show zgt 175 0 [some (.ref 1), some (.int x), some (.ref 88), none] [] _ _
    refine zg_aload_n (pc' := 1) zi_175_0 rfl rfl ?_
    refine zg_iconst (v := (nI 0)) (pc' := 2) zi_175_1 rfl rfl ?_
    refine zg_aload_n (pc' := 3) zi_175_2 rfl rfl ?_
    refine zg_iload_n (pc' := 4) zi_175_3 rfl rfl ?_
    exact zgt_here _ _ _ _ _
  exact zmetWX (pre := []) (x := ⟨0, 9, 12, 13⟩) (suf := []) (nm := "java/lang/IllegalArgumentException") (i := 3) (hp2 := 13) (kz := 1) (by decide) (Nat.le_of_ble_eq_true rfl) rfl rfl rfl k zi_175_4 hb rfl q (Nat.le_of_ble_eq_true rfl) rfl (fun z hz => nomatch hz) rfl (by decide) (zw_mem (p := 963) (by decide +kernel)) (List.mem_of_getElem? (i := 0) rfl) (Or.inr ⟨3, rfl, by decide +kernel, rfl⟩) (Nat.le_of_ble_eq_true rfl) (by decide +kernel) rfl (by decide +kernel)
theorem wr_templatesWith {H1 : zH} {ob : Nat → Int64} {v : Int32} (hb : H[1]? = some (.inr (6, fs))) (x : Int32) (hc : zcalls zTB 126 [.ref 1, .int x] H (some (.int v), H1)) (ho : H1[88]? = some (.inl (1, 1, .inr (.inl ob)))) : zcalls zTB 175 [.ref 1, .int x, .ref 88] H (some (.int (nI 0)), H1.set 88 (.inl (1, 1, .inr (.inl (vp_updL ob (nI 0).toNatClampNeg v.toInt64))))) := by
  refine zcalls_of (Nat.le_of_ble_eq_true rfl) ?_
  show zruns zTB 175 0 [some (.ref 1), some (.int x), some (.ref 88), none] [] _ _
  refine zr_aload_n (pc' := 1) zi_175_0 rfl rfl ?_
  refine zr_iconst (v := (nI 0)) (pc' := 2) zi_175_1 rfl rfl ?_
  refine zr_aload_n (pc' := 3) zi_175_2 rfl rfl ?_
  refine zr_iload_n (pc' := 4) zi_175_3 rfl rfl ?_
  refine zr_v1 (pc' := 7) zi_175_4 hb rfl hc rfl ?_
  refine zr_i2l (pc' := 8) zi_175_7 rfl ?_
  refine zr_last (pc' := 9) zi_175_8 (by decide) ho (by decide) rfl rfl ?_
  refine zr_goto zi_175_9 ?_
  refine zr_iconst (v := (nI 0)) (pc' := 16) zi_175_15 rfl rfl ?_
  exact zr_ireturn zi_175_16 rfl
theorem wx_sessionsWith (hb : H[1]? = some (.inr (6, fs))) (x : Int32) (q : zMetX l 127 [.ref 1, .int x] H "java/lang/IllegalArgumentException") : ∀ (al : Nat → Nat) (CA : Nat → ClassId) (D : va_G), zal al → Met l (zMt 176).1 (zwsW 176 zhh_sessionsWith) (zrmW 176) (zPcX al CA D [.ref 1, .int x, .ref 88] H) (zQX al CA D (nI 1) H) 1 6 (zA al) := by
  have k : zgt 176 0 (zentry (zMt 176).2.2.1 [.ref 1, .int x, .ref 88]) [] H (4, [some (.ref 1), some (.int x), some (.ref 88), none], ([.int x] : List Value).reverse ++ .ref 1 :: [.int (nI 0), .ref 88], H) := by
    show zgt 176 0 [some (.ref 1), some (.int x), some (.ref 88), none] [] _ _
    refine zg_aload_n (pc' := 1) zi_176_0 rfl rfl ?_
    refine zg_iconst (v := (nI 0)) (pc' := 2) zi_176_1 rfl rfl ?_
    refine zg_aload_n (pc' := 3) zi_176_2 rfl rfl ?_
    refine zg_iload_n (pc' := 4) zi_176_3 rfl rfl ?_
    exact zgt_here _ _ _ _ _
  exact zmetWX (pre := []) (x := ⟨0, 9, 12, 13⟩) (suf := []) (nm := "java/lang/IllegalArgumentException") (i := 3) (hp2 := 13) (kz := 1) (by decide) (Nat.le_of_ble_eq_true rfl) rfl rfl rfl k zi_176_4 hb rfl q (Nat.le_of_ble_eq_true rfl) rfl (fun z hz => nomatch hz) rfl (by decide) (zw_mem (p := 963) (by decide +kernel)) (List.mem_of_getElem? (i := 0) rfl) (Or.inr ⟨3, rfl, by decide +kernel, rfl⟩) (Nat.le_of_ble_eq_true rfl) (by decide +kernel) rfl (by decide +kernel)
theorem wr_sessionsWith {H1 : zH} {ob : Nat → Int64} {v : Int32} (hb : H[1]? = some (.inr (6, fs))) (x : Int32) (hc : zcalls zTB 127 [.ref 1, .int x] H (some (.int v), H1)) (ho : H1[88]? = some (.inl (1, 1, .inr (.inl ob)))) : zcalls zTB 176 [.ref 1, .int x, .ref 88] H (some (.int (nI 0)), H1.set 88 (.inl (1, 1, .inr (.inl (vp_updL ob (nI 0).toNatClampNeg v.toInt64))))) := by
  refine zcalls_of (Nat.le_of_ble_eq_true rfl) ?_
  show zruns zTB 176 0 [some (.ref 1), some (.int x), some (.ref 88), none] [] _ _
  refine zr_aload_n (pc' := 1) zi_176_0 rfl rfl ?_
  refine zr_iconst (v := (nI 0)) (pc' := 2) zi_176_1 rfl rfl ?_
  refine zr_aload_n (pc' := 3) zi_176_2 rfl rfl ?_
  refine zr_iload_n (pc' := 4) zi_176_3 rfl rfl ?_
  refine zr_v1 (pc' := 7) zi_176_4 hb rfl hc rfl ?_
  refine zr_i2l (pc' := 8) zi_176_7 rfl ?_
  refine zr_last (pc' := 9) zi_176_8 (by decide) ho (by decide) rfl rfl ?_
  refine zr_goto zi_176_9 ?_
  refine zr_iconst (v := (nI 0)) (pc' := 16) zi_176_15 rfl rfl ?_
  exact zr_ireturn zi_176_16 rfl
theorem wx_wouldBe (hb : H[1]? = some (.inr (6, fs))) (x : Int32) (q : zMetX l 128 [.ref 1, .int x] H "java/lang/IndexOutOfBoundsException") : ∀ (al : Nat → Nat) (CA : Nat → ClassId) (D : va_G), zal al → Met l (zMt 177).1 (zwsW 177 zhh_wouldBe) (zrmW 177) (zPcX al CA D [.ref 1, .int x, .ref 88] H) (zQX al CA D (nI 1) H) 1 6 (zA al) := by
  have k : zgt 177 0 (zentry (zMt 177).2.2.1 [.ref 1, .int x, .ref 88]) [] H (4, [some (.ref 1), some (.int x), some (.ref 88), none], ([.int x] : List Value).reverse ++ .ref 1 :: [.int (nI 0), .ref 88], H) := by
    show zgt 177 0 [some (.ref 1), some (.int x), some (.ref 88), none] [] _ _
    refine zg_aload_n (pc' := 1) zi_177_0 rfl rfl ?_
    refine zg_iconst (v := (nI 0)) (pc' := 2) zi_177_1 rfl rfl ?_
    refine zg_aload_n (pc' := 3) zi_177_2 rfl rfl ?_
    refine zg_iload_n (pc' := 4) zi_177_3 rfl rfl ?_
    exact zgt_here _ _ _ _ _
  exact zmetWX (pre := []) (x := ⟨0, 9, 12, 34⟩) (suf := [⟨0, 9, 15, 15⟩]) (nm := "java/lang/IndexOutOfBoundsException") (i := 3) (hp2 := 13) (kz := 1) (by decide) (Nat.le_of_ble_eq_true rfl) rfl rfl rfl k zi_177_4 hb rfl q (Nat.le_of_ble_eq_true rfl) rfl (fun z hz => nomatch hz) rfl (by decide) (zw_mem (p := 989) (by decide +kernel)) (List.mem_of_getElem? (i := 1) rfl) (Or.inr ⟨3, rfl, by decide +kernel, rfl⟩) (Nat.le_of_ble_eq_true rfl) (by decide +kernel) rfl (by decide +kernel)
end WR
theorem wk_line : zWok 157 85 172 5 zhh_line := ⟨by decide, zw_mem (p := 689) (by decide +kernel), zw_mem (p := 961) (by decide +kernel), zw_mem (p := 892) (by decide +kernel), zw_mem (p := 962) (by decide +kernel), by decide +kernel, by decide +kernel, by decide, by decide, by decide⟩
theorem wk_word : zWok 158 95 240 3 zhh_word := ⟨by decide, zw_mem (p := 698) (by decide +kernel), zw_mem (p := 979) (by decide +kernel), zw_mem (p := 892) (by decide +kernel), zw_mem (p := 980) (by decide +kernel), by decide +kernel, by decide +kernel, by decide, by decide, by decide⟩
theorem wk_learn : zWok 159 99 296 3 zhh_learn := ⟨by decide, zw_mem (p := 703) (by decide +kernel), zw_mem (p := 981) (by decide +kernel), zw_mem (p := 892) (by decide +kernel), zw_mem (p := 982) (by decide +kernel), by decide +kernel, by decide +kernel, by decide, by decide, by decide⟩
theorem wk_set : zWok 160 102 358 4 zhh_set := ⟨by decide, zw_mem (p := 708) (by decide +kernel), zw_mem (p := 983) (by decide +kernel), zw_mem (p := 892) (by decide +kernel), zw_mem (p := 984) (by decide +kernel), by decide +kernel, by decide +kernel, by decide, by decide, by decide⟩
theorem wk_many : zWok 161 110 433 3 zhh_many := ⟨by decide, zw_mem (p := 721) (by decide +kernel), zw_mem (p := 985) (by decide +kernel), zw_mem (p := 892) (by decide +kernel), zw_mem (p := 986) (by decide +kernel), by decide +kernel, by decide +kernel, by decide, by decide, by decide⟩
theorem wk_ofLine : zWok 162 113 495 4 zhh_ofLine := ⟨by decide, zw_mem (p := 726) (by decide +kernel), zw_mem (p := 987) (by decide +kernel), zw_mem (p := 892) (by decide +kernel), zw_mem (p := 988) (by decide +kernel), by decide +kernel, by decide +kernel, by decide, by decide, by decide⟩
theorem wk_wordAt : zWok 163 116 563 4 zhh_wordAt := ⟨by decide, zw_mem (p := 731) (by decide +kernel), zw_mem (p := 990) (by decide +kernel), zw_mem (p := 892) (by decide +kernel), zw_mem (p := 991) (by decide +kernel), by decide +kernel, by decide +kernel, by decide, by decide, by decide⟩
theorem wk_ofTemplate : zWok 164 119 631 4 zhh_ofTemplate := ⟨by decide, zw_mem (p := 736) (by decide +kernel), zw_mem (p := 992) (by decide +kernel), zw_mem (p := 892) (by decide +kernel), zw_mem (p := 993) (by decide +kernel), by decide +kernel, by decide +kernel, by decide, by decide, by decide⟩
theorem wk_slot : zWok 165 122 699 4 zhh_slot := ⟨by decide, zw_mem (p := 741) (by decide +kernel), zw_mem (p := 994) (by decide +kernel), zw_mem (p := 892) (by decide +kernel), zw_mem (p := 995) (by decide +kernel), by decide +kernel, by decide +kernel, by decide, by decide, by decide⟩
theorem wk_values : zWok 166 125 767 4 zhh_values := ⟨by decide, zw_mem (p := 746) (by decide +kernel), zw_mem (p := 996) (by decide +kernel), zw_mem (p := 892) (by decide +kernel), zw_mem (p := 997) (by decide +kernel), by decide +kernel, by decide +kernel, by decide, by decide, by decide⟩
theorem wk_alike : zWok 167 128 835 4 zhh_alike := ⟨by decide, zw_mem (p := 751) (by decide +kernel), zw_mem (p := 998) (by decide +kernel), zw_mem (p := 892) (by decide +kernel), zw_mem (p := 999) (by decide +kernel), by decide +kernel, by decide +kernel, by decide, by decide, by decide⟩
theorem wk_ofSession : zWok 168 131 903 4 zhh_ofSession := ⟨by decide, zw_mem (p := 756) (by decide +kernel), zw_mem (p := 1000) (by decide +kernel), zw_mem (p := 892) (by decide +kernel), zw_mem (p := 1001) (by decide +kernel), by decide +kernel, by decide +kernel, by decide, by decide, by decide⟩
theorem wk_inSession : zWok 169 134 971 4 zhh_inSession := ⟨by decide, zw_mem (p := 761) (by decide +kernel), zw_mem (p := 1002) (by decide +kernel), zw_mem (p := 892) (by decide +kernel), zw_mem (p := 1003) (by decide +kernel), by decide +kernel, by decide +kernel, by decide, by decide, by decide⟩
theorem wk_count : zWok 170 146 1093 4 zhh_count := ⟨by decide, zw_mem (p := 779) (by decide +kernel), zw_mem (p := 1004) (by decide +kernel), zw_mem (p := 892) (by decide +kernel), zw_mem (p := 1005) (by decide +kernel), by decide +kernel, by decide +kernel, by decide, by decide, by decide⟩
theorem wk_spike : zWok 171 149 1161 4 zhh_spike := ⟨by decide, zw_mem (p := 784) (by decide +kernel), zw_mem (p := 1006) (by decide +kernel), zw_mem (p := 892) (by decide +kernel), zw_mem (p := 1007) (by decide +kernel), by decide +kernel, by decide +kernel, by decide, by decide, by decide⟩
theorem wk_causes : zWok 172 152 1223 3 zhh_causes := ⟨by decide, zw_mem (p := 789) (by decide +kernel), zw_mem (p := 1008) (by decide +kernel), zw_mem (p := 892) (by decide +kernel), zw_mem (p := 1009) (by decide +kernel), by decide +kernel, by decide +kernel, by decide, by decide, by decide⟩
theorem wk_cause : zWok 173 155 1291 5 zhh_cause := ⟨by decide, zw_mem (p := 794) (by decide +kernel), zw_mem (p := 1010) (by decide +kernel), zw_mem (p := 892) (by decide +kernel), zw_mem (p := 1011) (by decide +kernel), by decide +kernel, by decide +kernel, by decide, by decide, by decide⟩
theorem wk_because : zWok 174 158 1359 3 zhh_because := ⟨by decide, zw_mem (p := 799) (by decide +kernel), zw_mem (p := 1012) (by decide +kernel), zw_mem (p := 892) (by decide +kernel), zw_mem (p := 1013) (by decide +kernel), by decide +kernel, by decide +kernel, by decide, by decide, by decide⟩
theorem wk_templatesWith : zWok 175 161 1415 3 zhh_templatesWith := ⟨by decide, zw_mem (p := 804) (by decide +kernel), zw_mem (p := 1014) (by decide +kernel), zw_mem (p := 892) (by decide +kernel), zw_mem (p := 1015) (by decide +kernel), by decide +kernel, by decide +kernel, by decide, by decide, by decide⟩
theorem wk_sessionsWith : zWok 176 164 1471 3 zhh_sessionsWith := ⟨by decide, zw_mem (p := 809) (by decide +kernel), zw_mem (p := 1016) (by decide +kernel), zw_mem (p := 892) (by decide +kernel), zw_mem (p := 1017) (by decide +kernel), by decide +kernel, by decide +kernel, by decide, by decide, by decide⟩
theorem wk_wouldBe : zWok 177 167 1527 3 zhh_wouldBe := ⟨by decide, zw_mem (p := 814) (by decide +kernel), zw_mem (p := 1018) (by decide +kernel), zw_mem (p := 892) (by decide +kernel), zw_mem (p := 1019) (by decide +kernel), by decide +kernel, by decide +kernel, by decide, by decide, by decide⟩


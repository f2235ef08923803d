theorem zi_101_95 : zI 101 95 = some (.iload 11, []) := by decide +kernel
theorem zi_101_97 : zI 101 97 = some (.iload 7, []) := by decide +kernel
theorem zi_101_99 : zI 101 99 = some (.if_icmp .ge 371, [470]) := by decide +kernel
theorem zi_101_102 : zI 101 102 = some (.aload_n 3, []) := by decide +kernel
theorem zi_101_103 : zI 101 103 = some (.iload 11, []) := by decide +kernel
theorem zi_101_105 : zI 101 105 = some (.iconst 4, []) := by decide +kernel
theorem zi_101_106 : zI 101 106 = some (.invokevirtual 35, [3, 0, 2, 6, 460, 461, 9, 459, 0, 524]) := by decide +kernel
theorem zi_101_109 : zI 101 109 = some (.istore 12, []) := by decide +kernel
theorem zi_101_111 : zI 101 111 = some (.aload_n 3, []) := by decide +kernel
theorem zi_101_112 : zI 101 112 = some (.iload 11, []) := by decide +kernel
theorem zi_101_114 : zI 101 114 = some (.iconst 5, []) := by decide +kernel
theorem zi_101_115 : zI 101 115 = some (.invokevirtual 35, [3, 0, 2, 6, 460, 461, 9, 459, 0, 524]) := by decide +kernel
theorem zi_101_118 : zI 101 118 = some (.istore 13, []) := by decide +kernel
theorem zi_101_120 : zI 101 120 = some (.iload 10, []) := by decide +kernel
theorem zi_101_122 : zI 101 122 = some (.iload 13, []) := by decide +kernel
theorem zi_101_124 : zI 101 124 = some (.ifCond .lt 7, [131]) := by decide +kernel
theorem zi_101_127 : zI 101 127 = some (.iconst 1, []) := by decide +kernel
theorem zi_101_128 : zI 101 128 = some (.goto 4, [132]) := by decide +kernel
theorem zi_101_131 : zI 101 131 = some (.iconst 0, []) := by decide +kernel
theorem zi_101_132 : zI 101 132 = some (.iadd, []) := by decide +kernel
theorem zi_101_133 : zI 101 133 = some (.istore 10, []) := by decide +kernel
theorem zi_101_135 : zI 101 135 = some (.iload 11, []) := by decide +kernel
theorem zi_101_137 : zI 101 137 = some (.iload 8, []) := by decide +kernel
theorem zi_101_139 : zI 101 139 = some (.if_icmp .lt 8, [147]) := by decide +kernel
theorem zi_101_142 : zI 101 142 = some (.iload 12, []) := by decide +kernel
theorem zi_101_144 : zI 101 144 = some (.ifCond .ge 80, [224]) := by decide +kernel
theorem zi_101_147 : zI 101 147 = some (.iload 12, []) := by decide +kernel
theorem zi_101_149 : zI 101 149 = some (.ifCond .ge 8, [157]) := by decide +kernel
theorem zi_101_152 : zI 101 152 = some (.iload 13, []) := by decide +kernel
theorem zi_101_154 : zI 101 154 = some (.ifCond .ge 70, [224]) := by decide +kernel
theorem zi_101_157 : zI 101 157 = some (.iload 13, []) := by decide +kernel
theorem zi_101_159 : zI 101 159 = some (.ifCond .ge 7, [166]) := by decide +kernel
theorem zi_101_162 : zI 101 162 = some (.iconst 1, []) := by decide +kernel
theorem zi_101_163 : zI 101 163 = some (.goto 4, [167]) := by decide +kernel
theorem zi_101_166 : zI 101 166 = some (.iconst 0, []) := by decide +kernel
theorem zi_101_167 : zI 101 167 = some (.aload_n 3, []) := by decide +kernel
theorem zi_101_168 : zI 101 168 = some (.iload 11, []) := by decide +kernel
theorem zi_101_170 : zI 101 170 = some (.bipush 6, []) := by decide +kernel
theorem zi_101_172 : zI 101 172 = some (.invokevirtual 35, [3, 0, 2, 6, 460, 461, 9, 459, 0, 524]) := by decide +kernel
theorem zi_101_175 : zI 101 175 = some (.ifCond .ge 7, [182]) := by decide +kernel
theorem zi_101_178 : zI 101 178 = some (.iconst 1, []) := by decide +kernel
theorem zi_101_179 : zI 101 179 = some (.goto 4, [183]) := by decide +kernel
theorem zi_101_182 : zI 101 182 = some (.iconst 0, []) := by decide +kernel
theorem zi_101_183 : zI 101 183 = some (.if_icmp .ne 41, [224]) := by decide +kernel
theorem zi_101_186 : zI 101 186 = some (.aload_n 3, []) := by decide +kernel
theorem zi_101_187 : zI 101 187 = some (.iload 11, []) := by decide +kernel
theorem zi_101_189 : zI 101 189 = some (.bipush 7, []) := by decide +kernel
theorem zi_101_191 : zI 101 191 = some (.invokevirtual 35, [3, 0, 2, 6, 460, 461, 9, 459, 0, 524]) := by decide +kernel
theorem zi_101_194 : zI 101 194 = some (.aload_n 3, []) := by decide +kernel
theorem zi_101_195 : zI 101 195 = some (.iload 11, []) := by decide +kernel
theorem zi_101_197 : zI 101 197 = some (.iconst 0, []) := by decide +kernel
theorem zi_101_198 : zI 101 198 = some (.invokevirtual 35, [3, 0, 2, 6, 460, 461, 9, 459, 0, 524]) := by decide +kernel
theorem zi_101_201 : zI 101 201 = some (.aload_n 2, []) := by decide +kernel
theorem zi_101_202 : zI 101 202 = some (.getfield 39, [7, 7, 525]) := by decide +kernel
theorem zi_101_205 : zI 101 205 = some (.iconst 2, []) := by decide +kernel
theorem zi_101_206 : zI 101 206 = some (.iaload, []) := by decide +kernel
theorem zi_101_207 : zI 101 207 = some (.idiv, []) := by decide +kernel
theorem zi_101_208 : zI 101 208 = some (.if_icmp .ne 16, [224]) := by decide +kernel
theorem zi_101_211 : zI 101 211 = some (.aload_n 3, []) := by decide +kernel
theorem zi_101_212 : zI 101 212 = some (.iload 11, []) := by decide +kernel
theorem zi_101_214 : zI 101 214 = some (.bipush 8, []) := by decide +kernel
theorem zi_101_216 : zI 101 216 = some (.invokevirtual 35, [3, 0, 2, 6, 460, 461, 9, 459, 0, 524]) := by decide +kernel
theorem zi_101_219 : zI 101 219 = some (.iload 11, []) := by decide +kernel
theorem zi_101_221 : zI 101 221 = some (.if_icmp .le 5, [226]) := by decide +kernel
theorem zi_101_226 : zI 101 226 = some (.iload 12, []) := by decide +kernel
theorem zi_101_228 : zI 101 228 = some (.ifCond .ge 6, [234]) := by decide +kernel
theorem zi_101_231 : zI 101 231 = some (.goto 233, [464]) := by decide +kernel
theorem zi_101_234 : zI 101 234 = some (.aload_n 3, []) := by decide +kernel
theorem zi_101_235 : zI 101 235 = some (.iload 12, []) := by decide +kernel
theorem zi_101_237 : zI 101 237 = some (.iconst 1, []) := by decide +kernel
theorem zi_101_238 : zI 101 238 = some (.invokevirtual 43, [10, 0, 2, 6, 468, 469, 9, 467, 0, 526]) := by decide +kernel
theorem zi_101_241 : zI 101 241 = some (.istore 14, []) := by decide +kernel
theorem zi_101_243 : zI 101 243 = some (.aload_n 3, []) := by decide +kernel
theorem zi_101_244 : zI 101 244 = some (.iload 12, []) := by decide +kernel
theorem zi_101_246 : zI 101 246 = some (.iconst 0, []) := by decide +kernel
theorem zi_101_247 : zI 101 247 = some (.invokevirtual 43, [10, 0, 2, 6, 468, 469, 9, 467, 0, 526]) := by decide +kernel
theorem zi_101_250 : zI 101 250 = some (.aload_n 3, []) := by decide +kernel
theorem zi_101_251 : zI 101 251 = some (.iload 11, []) := by decide +kernel
theorem zi_101_253 : zI 101 253 = some (.iconst 3, []) := by decide +kernel
theorem zi_101_254 : zI 101 254 = some (.invokevirtual 35, [3, 0, 2, 6, 460, 461, 9, 459, 0, 524]) := by decide +kernel
theorem zi_101_257 : zI 101 257 = some (.if_icmp .ne 76, [333]) := by decide +kernel
theorem zi_101_260 : zI 101 260 = some (.aload_n 3, []) := by decide +kernel
theorem zi_101_261 : zI 101 261 = some (.iload 11, []) := by decide +kernel
theorem zi_101_263 : zI 101 263 = some (.iload 12, []) := by decide +kernel
theorem zi_101_265 : zI 101 265 = some (.invokevirtual 46, [88, 0, 2, 6, 529, 530, 9, 528, 0, 527]) := by decide +kernel
theorem zi_101_268 : zI 101 268 = some (.iload 14, []) := by decide +kernel
theorem zi_101_270 : zI 101 270 = some (.iadd, []) := by decide +kernel
theorem zi_101_271 : zI 101 271 = some (.aload_n 3, []) := by decide +kernel
theorem zi_101_272 : zI 101 272 = some (.iload 11, []) := by decide +kernel
theorem zi_101_274 : zI 101 274 = some (.iconst 3, []) := by decide +kernel
theorem zi_101_275 : zI 101 275 = some (.invokevirtual 35, [3, 0, 2, 6, 460, 461, 9, 459, 0, 524]) := by decide +kernel
theorem zi_101_278 : zI 101 278 = some (.if_icmp .ne 55, [333]) := by decide +kernel
theorem zi_101_281 : zI 101 281 = some (.iload 14, []) := by decide +kernel
theorem zi_101_283 : zI 101 283 = some (.ifCond .le 7, [290]) := by decide +kernel
theorem zi_101_286 : zI 101 286 = some (.iconst 1, []) := by decide +kernel
theorem zi_101_287 : zI 101 287 = some (.goto 4, [291]) := by decide +kernel
theorem zi_101_290 : zI 101 290 = some (.iconst 0, []) := by decide +kernel
theorem zi_101_291 : zI 101 291 = some (.iload 13, []) := by decide +kernel
theorem zi_101_293 : zI 101 293 = some (.ifCond .lt 7, [300]) := by decide +kernel
theorem zi_101_296 : zI 101 296 = some (.iconst 1, []) := by decide +kernel
theorem zi_101_297 : zI 101 297 = some (.goto 4, [301]) := by decide +kernel
theorem zi_101_300 : zI 101 300 = some (.iconst 0, []) := by decide +kernel
theorem zi_101_301 : zI 101 301 = some (.if_icmp .ne 32, [333]) := by decide +kernel
theorem zi_101_304 : zI 101 304 = some (.aload_n 3, []) := by decide +kernel
theorem zi_101_305 : zI 101 305 = some (.iload 12, []) := by decide +kernel
theorem zi_101_307 : zI 101 307 = some (.iconst 3, []) := by decide +kernel
theorem zi_101_308 : zI 101 308 = some (.invokevirtual 43, [10, 0, 2, 6, 468, 469, 9, 467, 0, 526]) := by decide +kernel
theorem zi_101_311 : zI 101 311 = some (.iload 11, []) := by decide +kernel
theorem zi_101_313 : zI 101 313 = some (.if_icmp .gt 20, [333]) := by decide +kernel
theorem zi_101_316 : zI 101 316 = some (.aload_n 3, []) := by decide +kernel
theorem zi_101_317 : zI 101 317 = some (.iload 12, []) := by decide +kernel
theorem zi_101_319 : zI 101 319 = some (.iconst 4, []) := by decide +kernel
theorem zi_101_320 : zI 101 320 = some (.invokevirtual 43, [10, 0, 2, 6, 468, 469, 9, 467, 0, 526]) := by decide +kernel
theorem zi_101_323 : zI 101 323 = some (.aload_n 3, []) := by decide +kernel
theorem zi_101_324 : zI 101 324 = some (.iload 11, []) := by decide +kernel
theorem zi_101_326 : zI 101 326 = some (.iconst 2, []) := by decide +kernel
theorem zi_101_327 : zI 101 327 = some (.invokevirtual 35, [3, 0, 2, 6, 460, 461, 9, 459, 0, 524]) := by decide +kernel
theorem zi_101_330 : zI 101 330 = some (.if_icmp .ge 5, [335]) := by decide +kernel
theorem zi_101_335 : zI 101 335 = some (.iconst 0, []) := by decide +kernel
theorem zi_101_336 : zI 101 336 = some (.istore 15, []) := by decide +kernel
theorem zi_101_338 : zI 101 338 = some (.iload 14, []) := by decide +kernel
theorem zi_101_340 : zI 101 340 = some (.ifCond .le 20, [360]) := by decide +kernel
theorem zi_101_343 : zI 101 343 = some (.aload_n 3, []) := by decide +kernel
theorem zi_101_344 : zI 101 344 = some (.iload 12, []) := by decide +kernel
theorem zi_101_346 : zI 101 346 = some (.iload 15, []) := by decide +kernel
theorem zi_101_348 : zI 101 348 = some (.invokevirtual 49, [40, 0, 2, 6, 472, 473, 9, 471, 0, 531]) := by decide +kernel
theorem zi_101_351 : zI 101 351 = some (.ifCond .lt 9, [360]) := by decide +kernel
theorem zi_101_354 : zI 101 354 = some (.iinc 15 1, []) := by decide +kernel
theorem zi_101_357 : zI 101 357 = some (.goto (-19), [338]) := by decide +kernel
theorem zi_101_360 : zI 101 360 = some (.iload 14, []) := by decide +kernel
theorem zi_101_362 : zI 101 362 = some (.ifCond .le 35, [397]) := by decide +kernel
theorem zi_101_365 : zI 101 365 = some (.aload_n 3, []) := by decide +kernel
theorem zi_101_366 : zI 101 366 = some (.iload 11, []) := by decide +kernel
theorem zi_101_368 : zI 101 368 = some (.iload 15, []) := by decide +kernel
theorem zi_101_370 : zI 101 370 = some (.invokevirtual 52, [87, 0, 2, 6, 534, 535, 9, 533, 0, 532]) := by decide +kernel
theorem zi_101_373 : zI 101 373 = some (.iload 13, []) := by decide +kernel
theorem zi_101_375 : zI 101 375 = some (.if_icmp .ne 20, [395]) := by decide +kernel
theorem zi_101_378 : zI 101 378 = some (.aload_n 3, []) := by decide +kernel
theorem zi_101_379 : zI 101 379 = some (.iload 12, []) := by decide +kernel
theorem zi_101_381 : zI 101 381 = some (.iconst 0, []) := by decide +kernel
theorem zi_101_382 : zI 101 382 = some (.invokevirtual 55, [41, 0, 2, 6, 476, 477, 9, 475, 0, 536]) := by decide +kernel
theorem zi_101_385 : zI 101 385 = some (.aload_n 3, []) := by decide +kernel
theorem zi_101_386 : zI 101 386 = some (.iload 12, []) := by decide +kernel
theorem zi_101_388 : zI 101 388 = some (.iconst 2, []) := by decide +kernel
theorem zi_101_389 : zI 101 389 = some (.invokevirtual 43, [10, 0, 2, 6, 468, 469, 9, 467, 0, 526]) := by decide +kernel
theorem zi_101_392 : zI 101 392 = some (.if_icmp .le 5, [397]) := by decide +kernel
theorem zi_101_397 : zI 101 397 = some (.aload_n 3, []) := by decide +kernel
theorem zi_101_398 : zI 101 398 = some (.iload 11, []) := by decide +kernel
theorem zi_101_400 : zI 101 400 = some (.invokevirtual 58, [42, 0, 1, 6, 464, 465, 9, 463, 0, 537]) := by decide +kernel
theorem zi_101_403 : zI 101 403 = some (.istore 16, []) := by decide +kernel
theorem zi_101_405 : zI 101 405 = some (.iload 16, []) := by decide +kernel
theorem zi_101_407 : zI 101 407 = some (.iload 11, []) := by decide +kernel
theorem zi_101_409 : zI 101 409 = some (.if_icmp .ge 53, [462]) := by decide +kernel
theorem zi_101_412 : zI 101 412 = some (.iload 16, []) := by decide +kernel
theorem zi_101_414 : zI 101 414 = some (.ifCond .lt 50, [464]) := by decide +kernel
theorem zi_101_417 : zI 101 417 = some (.aload_n 3, []) := by decide +kernel
theorem zi_101_418 : zI 101 418 = some (.iload 16, []) := by decide +kernel
theorem zi_101_420 : zI 101 420 = some (.iconst 4, []) := by decide +kernel
theorem zi_101_421 : zI 101 421 = some (.invokevirtual 35, [3, 0, 2, 6, 460, 461, 9, 459, 0, 524]) := by decide +kernel
theorem zi_101_424 : zI 101 424 = some (.iload 12, []) := by decide +kernel
theorem zi_101_426 : zI 101 426 = some (.if_icmp .eq 36, [462]) := by decide +kernel
theorem zi_101_429 : zI 101 429 = some (.aload_n 3, []) := by decide +kernel
theorem zi_101_430 : zI 101 430 = some (.iload 12, []) := by decide +kernel
theorem zi_101_432 : zI 101 432 = some (.invokevirtual 61, [28, 0, 1, 6, 480, 481, 9, 479, 0, 538]) := by decide +kernel
theorem zi_101_435 : zI 101 435 = some (.ifCond .eq 27, [462]) := by decide +kernel
theorem zi_101_438 : zI 101 438 = some (.aload_n 3, []) := by decide +kernel
theorem zi_101_439 : zI 101 439 = some (.iload 16, []) := by decide +kernel
theorem zi_101_441 : zI 101 441 = some (.iconst 0, []) := by decide +kernel
theorem zi_101_442 : zI 101 442 = some (.invokevirtual 35, [3, 0, 2, 6, 460, 461, 9, 459, 0, 524]) := by decide +kernel
theorem zi_101_445 : zI 101 445 = some (.aload_n 2, []) := by decide +kernel
theorem zi_101_446 : zI 101 446 = some (.getfield 39, [7, 7, 525]) := by decide +kernel
theorem zi_101_449 : zI 101 449 = some (.iconst 3, []) := by decide +kernel
theorem zi_101_450 : zI 101 450 = some (.iaload, []) := by decide +kernel
theorem zi_101_451 : zI 101 451 = some (.iadd, []) := by decide +kernel
theorem zi_101_452 : zI 101 452 = some (.aload_n 3, []) := by decide +kernel
theorem zi_101_453 : zI 101 453 = some (.iload 11, []) := by decide +kernel
theorem zi_101_455 : zI 101 455 = some (.iconst 0, []) := by decide +kernel
theorem zi_101_456 : zI 101 456 = some (.invokevirtual 35, [3, 0, 2, 6, 460, 461, 9, 459, 0, 524]) := by decide +kernel
theorem zi_101_459 : zI 101 459 = some (.if_icmp .ge 5, [464]) := by decide +kernel
theorem zi_101_464 : zI 101 464 = some (.iinc 11 1, []) := by decide +kernel
theorem zi_101_467 : zI 101 467 = some (.goto (-372), [95]) := by decide +kernel
/-! the law: what it asks of each line -/
/-- holes and words make up a template of the line -/
theorem zsm_hol {F : Nat → Nat → Int32} {l t a : Nat} (h : ∀ p, p < a → F 8 (t * 8 + p) = -1 ∨ F 8 (t * 8 + p) = F 4 (l * 8 + p)) (hw : ∀ p, p < a → ∃ v, v ≤ 999 ∧ F 4 (l * 8 + p) = nI v) : zsm F l t a + zhol F t a = a := by
  have h1 := zcnt_add (p := fun _ => true) (q := fun p => decide (F 4 (l * 8 + p) = F 8 (t * 8 + p))) (r := fun p => decide (F 8 (t * 8 + p) = -1)) (n := a) (fun j hj => by
    obtain ⟨v, hv, e⟩ := hw j hj
    rcases h j hj with w | w
    · rw [w, e]
      have : nI v ≠ -1 := nI_neg (by omega)
      simp [this]
    · rw [w, e]
      have : nI v ≠ -1 := nI_neg (by omega)
      simp [this])
  have h2 : zcnt (fun _ => true) a = a := by
    clear h hw h1
    induction a with
    | zero => rfl
    | succ a ih => rw [zcnt_t rfl, ih]
  rw [h2] at h1
  exact h1
section
theorem l_c1 {o : Nat} {h : zH} {F : Nat → Nat → Int32} {g : Nat → Nat} {x : Nat → Nat} {sh gp wi bk rl rt e u d : Nat} {T1 T4 : Int32} {D : Int64} {Q : zR → Prop} (w : zOw o h F (g 0) (g 1) (g 2) sh gp wi bk rl rt e u d) (q : zOk F g x sh gp wi bk) {l : Nat} {tv key sv : Int32} (hl : l < g 0) (ht : F 5 l = tv) (hk : F 6 l = key) (hs : F 11 l = sv) (hks : 0 ≤ key ↔ 0 ≤ sv) (hlm : g 1 ≤ l → ¬ 0 ≤ tv) (htk : ¬ 0 ≤ tv → ¬ 0 ≤ key) (X14 X15 X16 X17 : Option Value) (k : zev 101 226 [some (.ref 0), some (.int T1), some (.ref o), some (.ref (o + 1)), some (.int T4), some (.long D), none, some (.int (nI (g 0))), some (.int (nI (g 1))), some (.int (nI (g 4))), some (.int (nI (zkeys F (l + 1)))), some (.int (nI l)), some (.int tv), some (.int key), X14, X15, X16, X17] [] (nput (o + 1) F g h) Q) (X12 X13 : Option Value) : zev 101 102 [some (.ref 0), some (.int T1), some (.ref o), some (.ref (o + 1)), some (.int T4), some (.long D), none, some (.int (nI (g 0))), some (.int (nI (g 1))), some (.int (nI (g 4))), some (.int (nI (zkeys F l))), some (.int (nI l)), X12, X13, X14, X15, X16, X17] [] (nput (o + 1) F g h) Q := by
  have hb := w.hb
  have hb2 := w.hb2
  have hn := q.nb.n70
  have hmn := q.nb.mn
  obtain ⟨dr, hdr, hO⟩ := w.ob
  obtain ⟨sf, s1, s2, s3, s4, s5⟩ := w.se
  obtain ⟨c, hc, hsc⟩ := q.to.sc l hl
  obtain ⟨hx1, hx2⟩ := q.nb.tm l hl
  have hwi := q.nb.s2
  have a4 := c_ofLine4 hb q l hl
  have a5 := c_ofLine5 hb q l hl
  have a6 := c_ofLine6 hb q l hl
  have a7 := c_ofLine7 hb q l hl
  have a0 := c_ofLine0 hb q l hl
  have a8 := c_ofLine8 hb q l hl
  rw [ht] at a4
  rw [hk] at a5
  rw [hs] at a6
  rw [hx1] at a0
  rw [hsc] at a8
  have h186 : zev 101 186 [some (.ref 0), some (.int T1), some (.ref o), some (.ref (o + 1)), some (.int T4), some (.long D), none, some (.int (nI (g 0))), some (.int (nI (g 1))), some (.int (nI (g 4))), some (.int (nI (zkeys F (l + 1)))), some (.int (nI l)), some (.int tv), some (.int key), X14, X15, X16, X17] [] (nput (o + 1) F g h) Q := by
    have hdv : nI (x l) / nI wi = nI (x l / wi) := pk_div (by omega) (by omega) (by omega)
    refine zev_of (fun _ kk => zr_aload_n (pc' := 187) zi_101_186 rfl rfl kk) ?_
    refine zev_of (fun _ kk => zr_iload (pc' := 189) zi_101_187 rfl rfl kk) ?_
    refine zev_of (fun _ kk => zr_bipush (v := (nI 7)) (pc' := 191) zi_101_189 rfl rfl kk) ?_
    refine zev_of (fun _ kk => zr_v2 (pc' := 194) zi_101_191 (nput_at hb (k := 0) rfl) rfl a7 rfl kk) ?_
    refine zev_of (fun _ kk => zr_aload_n (pc' := 195) zi_101_194 rfl rfl kk) ?_
    refine zev_of (fun _ kk => zr_iload (pc' := 197) zi_101_195 rfl rfl kk) ?_
    refine zev_of (fun _ kk => zr_iconst (v := (nI 0)) (pc' := 198) zi_101_197 rfl rfl kk) ?_
    refine zev_of (fun _ kk => zr_v2 (pc' := 201) zi_101_198 (nput_at hb (k := 0) rfl) rfl a0 rfl kk) ?_
    refine zev_of (fun _ kk => zr_aload_n (pc' := 202) zi_101_201 rfl rfl kk) ?_
    refine zev_of (fun _ kk => zo_get (pc' := 205) zi_101_202 hb hO rfl rfl kk) ?_
    refine zev_of (fun _ kk => zr_iconst (v := (nI 2)) (pc' := 206) zi_101_205 rfl rfl kk) ?_
    refine zev_of (fun _ kk => zo_iald (j := 2) (v := nI wi) (pc' := 207) zi_101_206 hb s1 (by omega) (by omega) (by omega) s4 rfl kk) ?_
    refine zev_of (fun _ kk => zr_idiv (pc' := 208) zi_101_207 (nI_ne0 (by omega) (by omega)) hdv rfl kk) ?_
    refine zv_icmp (pc' := 211) zi_101_208 rfl (fun h208 => ?_) (fun h208 => ?_)
    · replace h208 := zc_ne_t h208
      exact absurd rfl h208
    · replace h208 := zc_ne_f h208
      refine zev_of (fun _ kk => zr_aload_n (pc' := 212) zi_101_211 rfl rfl kk) ?_
      refine zev_of (fun _ kk => zr_iload (pc' := 214) zi_101_212 rfl rfl kk) ?_
      refine zev_of (fun _ kk => zr_bipush (v := (nI 8)) (pc' := 216) zi_101_214 rfl rfl kk) ?_
      refine zev_of (fun _ kk => zr_v2 (pc' := 219) zi_101_216 (nput_at hb (k := 0) rfl) rfl a8 rfl kk) ?_
      refine zev_of (fun _ kk => zr_iload (pc' := 221) zi_101_219 rfl rfl kk) ?_
      refine zv_icmp (pc' := 224) zi_101_221 rfl (fun h221 => ?_) (fun h221 => ?_)
      · replace h221 := zc_le_t (by omega) (by omega) h221
        exact k
      · replace h221 := zc_le_f (by omega) (by omega) h221
        omega
  have h157 : zev 101 157 [some (.ref 0), some (.int T1), some (.ref o), some (.ref (o + 1)), some (.int T4), some (.long D), none, some (.int (nI (g 0))), some (.int (nI (g 1))), some (.int (nI (g 4))), some (.int (nI (zkeys F (l + 1)))), some (.int (nI l)), some (.int tv), some (.int key), X14, X15, X16, X17] [] (nput (o + 1) F g h) Q := by
    refine zev_of (fun _ kk => zr_iload (pc' := 159) zi_101_157 rfl rfl kk) ?_
    refine zv_if (pc' := 162) zi_101_159 rfl (fun h159 => ?_) (fun h159 => ?_)
    · replace h159 := zx_ge_t h159
      refine zev_of (fun _ kk => zr_iconst (v := (nI 0)) (pc' := 167) zi_101_166 rfl rfl kk) ?_
      refine zev_of (fun _ kk => zr_aload_n (pc' := 168) zi_101_167 rfl rfl kk) ?_
      refine zev_of (fun _ kk => zr_iload (pc' := 170) zi_101_168 rfl rfl kk) ?_
      refine zev_of (fun _ kk => zr_bipush (v := (nI 6)) (pc' := 172) zi_101_170 rfl rfl kk) ?_
      refine zev_of (fun _ kk => zr_v2 (pc' := 175) zi_101_172 (nput_at hb (k := 0) rfl) rfl a6 rfl kk) ?_
      refine zv_if (pc' := 178) zi_101_175 rfl (fun h175 => ?_) (fun h175 => ?_)
      · replace h175 := zx_ge_t h175
        refine zev_of (fun _ kk => zr_iconst (v := (nI 0)) (pc' := 183) zi_101_182 rfl rfl kk) ?_
        refine zv_icmp (pc' := 186) zi_101_183 rfl (fun h183 => ?_) (fun h183 => ?_)
        · replace h183 := zc_ne_t h183
          first | exact absurd rfl h183 | exact absurd (hks.mp h159) h175 | exact absurd (hks.mpr h175) h159
        · replace h183 := zc_ne_f h183
          exact h186
      · replace h175 := zx_ge_f h175
        refine zev_of (fun _ kk => zr_iconst (v := (nI 1)) (pc' := 179) zi_101_178 rfl rfl kk) ?_
        refine zev_of (fun _ kk => zr_goto zi_101_179 kk) ?_
        refine zv_icmp (pc' := 186) zi_101_183 rfl (fun h183 => ?_) (fun h183 => ?_)
        · replace h183 := zc_ne_t h183
          first | exact absurd rfl h183 | exact absurd (hks.mp h159) h175 | exact absurd (hks.mpr h175) h159
        · replace h183 := zc_ne_f h183
          exact h186
    · replace h159 := zx_ge_f h159
      refine zev_of (fun _ kk => zr_iconst (v := (nI 1)) (pc' := 163) zi_101_162 rfl rfl kk) ?_
      refine zev_of (fun _ kk => zr_goto zi_101_163 kk) ?_
      refine zev_of (fun _ kk => zr_aload_n (pc' := 168) zi_101_167 rfl rfl kk) ?_
      refine zev_of (fun _ kk => zr_iload (pc' := 170) zi_101_168 rfl rfl kk) ?_
      refine zev_of (fun _ kk => zr_bipush (v := (nI 6)) (pc' := 172) zi_101_170 rfl rfl kk) ?_
      refine zev_of (fun _ kk => zr_v2 (pc' := 175) zi_101_172 (nput_at hb (k := 0) rfl) rfl a6 rfl kk) ?_
      refine zv_if (pc' := 178) zi_101_175 rfl (fun h175 => ?_) (fun h175 => ?_)
      · replace h175 := zx_ge_t h175
        refine zev_of (fun _ kk => zr_iconst (v := (nI 0)) (pc' := 183) zi_101_182 rfl rfl kk) ?_
        refine zv_icmp (pc' := 186) zi_101_183 rfl (fun h183 => ?_) (fun h183 => ?_)
        · replace h183 := zc_ne_t h183
          first | exact absurd rfl h183 | exact absurd (hks.mp h159) h175 | exact absurd (hks.mpr h175) h159
        · replace h183 := zc_ne_f h183
          exact h186
      · replace h175 := zx_ge_f h175
        refine zev_of (fun _ kk => zr_iconst (v := (nI 1)) (pc' := 179) zi_101_178 rfl rfl kk) ?_
        refine zev_of (fun _ kk => zr_goto zi_101_179 kk) ?_
        refine zv_icmp (pc' := 186) zi_101_183 rfl (fun h183 => ?_) (fun h183 => ?_)
        · replace h183 := zc_ne_t h183
          first | exact absurd rfl h183 | exact absurd (hks.mp h159) h175 | exact absurd (hks.mpr h175) h159
        · replace h183 := zc_ne_f h183
          exact h186
  have h147 : zev 101 147 [some (.ref 0), some (.int T1), some (.ref o), some (.ref (o + 1)), some (.int T4), some (.long D), none, some (.int (nI (g 0))), some (.int (nI (g 1))), some (.int (nI (g 4))), some (.int (nI (zkeys F (l + 1)))), some (.int (nI l)), some (.int tv), some (.int key), X14, X15, X16, X17] [] (nput (o + 1) F g h) Q := by
    refine zev_of (fun _ kk => zr_iload (pc' := 149) zi_101_147 rfl rfl kk) ?_
    refine zv_if (pc' := 152) zi_101_149 rfl (fun h149 => ?_) (fun h149 => ?_)
    · replace h149 := zx_ge_t h149
      exact h157
    · replace h149 := zx_ge_f h149
      refine zev_of (fun _ kk => zr_iload (pc' := 154) zi_101_152 rfl rfl kk) ?_
      refine zv_if (pc' := 157) zi_101_154 rfl (fun h154 => ?_) (fun h154 => ?_)
      · replace h154 := zx_ge_t h154
        exact absurd h154 (htk h149)
      · replace h154 := zx_ge_f h154
        exact h157
  have h135 : zev 101 135 [some (.ref 0), some (.int T1), some (.ref o), some (.ref (o + 1)), some (.int T4), some (.long D), none, some (.int (nI (g 0))), some (.int (nI (g 1))), some (.int (nI (g 4))), some (.int (nI (zkeys F (l + 1)))), some (.int (nI l)), some (.int tv), some (.int key), X14, X15, X16, X17] [] (nput (o + 1) F g h) Q := by
    refine zev_of (fun _ kk => zr_iload (pc' := 137) zi_101_135 rfl rfl kk) ?_
    refine zev_of (fun _ kk => zr_iload (pc' := 139) zi_101_137 rfl rfl kk) ?_
    refine zv_icmp (pc' := 142) zi_101_139 rfl (fun h139 => ?_) (fun h139 => ?_)
    · replace h139 := zc_lt_t (by omega) (by omega) h139
      exact h147
    · replace h139 := zc_lt_f (by omega) (by omega) h139
      refine zev_of (fun _ kk => zr_iload (pc' := 144) zi_101_142 rfl rfl kk) ?_
      refine zv_if (pc' := 147) zi_101_144 rfl (fun h144 => ?_) (fun h144 => ?_)
      · replace h144 := zx_ge_t h144
        exact absurd h144 (hlm h139)
      · replace h144 := zx_ge_f h144
        exact h147
  refine zev_of (fun _ kk => zr_aload_n (pc' := 103) zi_101_102 rfl rfl kk) ?_
  refine zev_of (fun _ kk => zr_iload (pc' := 105) zi_101_103 rfl rfl kk) ?_
  refine zev_of (fun _ kk => zr_iconst (v := (nI 4)) (pc' := 106) zi_101_105 rfl rfl kk) ?_
  refine zev_of (fun _ kk => zr_v2 (pc' := 109) zi_101_106 (nput_at hb (k := 0) rfl) rfl a4 rfl kk) ?_
  refine zev_of (fun _ kk => zr_istore (pc' := 111) zi_101_109 (Nat.le_of_ble_eq_true rfl) rfl rfl kk) ?_
  dsimp only [zst1, zst2, zkill, List.set, List.getElem?_cons_succ, List.getElem?_cons_zero]
  refine zev_of (fun _ kk => zr_aload_n (pc' := 112) zi_101_111 rfl rfl kk) ?_
  refine zev_of (fun _ kk => zr_iload (pc' := 114) zi_101_112 rfl rfl kk) ?_
  refine zev_of (fun _ kk => zr_iconst (v := (nI 5)) (pc' := 115) zi_101_114 rfl rfl kk) ?_
  refine zev_of (fun _ kk => zr_v2 (pc' := 118) zi_101_115 (nput_at hb (k := 0) rfl) rfl a5 rfl kk) ?_
  refine zev_of (fun _ kk => zr_istore (pc' := 120) zi_101_118 (Nat.le_of_ble_eq_true rfl) rfl rfl kk) ?_
  dsimp only [zst1, zst2, zkill, List.set, List.getElem?_cons_succ, List.getElem?_cons_zero]
  refine zev_of (fun _ kk => zr_iload (pc' := 122) zi_101_120 rfl rfl kk) ?_
  refine zev_of (fun _ kk => zr_iload (pc' := 124) zi_101_122 rfl rfl kk) ?_
  refine zv_if (pc' := 127) zi_101_124 rfl (fun h124 => ?_) (fun h124 => ?_)
  · replace h124 := zx_lt_t h124
    refine zev_of (fun _ kk => zr_iconst (v := (nI 0)) (pc' := 132) zi_101_131 rfl rfl kk) ?_
    refine zev_of (fun _ kk => zr_iadd (pc' := 133) zi_101_132 (by first | exact nI_add _ _ | rfl) rfl kk) ?_
    refine zev_of (fun _ kk => zr_istore (pc' := 135) zi_101_133 (Nat.le_of_ble_eq_true rfl) rfl rfl kk) ?_
    dsimp only [zst1, zst2, zkill, List.set, List.getElem?_cons_succ, List.getElem?_cons_zero]
    have e : zkeys F (l + 1) = zkeys F l := zcnt_f (by simp only [zkp, decide_eq_false_iff_not]; rw [hk]; exact Int32.not_le.mpr h124)
    rw [e] at h135
    exact h135
  · replace h124 := zx_lt_f h124
    refine zev_of (fun _ kk => zr_iconst (v := (nI 1)) (pc' := 128) zi_101_127 rfl rfl kk) ?_
    refine zev_of (fun _ kk => zr_goto zi_101_128 kk) ?_
    refine zev_of (fun _ kk => zr_iadd (pc' := 133) zi_101_132 (by first | exact nI_add _ _ | rfl) rfl kk) ?_
    refine zev_of (fun _ kk => zr_istore (pc' := 135) zi_101_133 (Nat.le_of_ble_eq_true rfl) rfl rfl kk) ?_
    dsimp only [zst1, zst2, zkill, List.set, List.getElem?_cons_succ, List.getElem?_cons_zero]
    have e : zkeys F (l + 1) = zkeys F l + 1 := zcnt_t (by simp only [zkp, decide_eq_true_eq]; rw [hk]; exact Int32.not_lt.mp h124)
    rw [e] at h135
    exact h135
/-- the line behind -/
theorem l_c5 {o : Nat} {h : zH} {F : Nat → Nat → Int32} {g : Nat → Nat} {x : Nat → Nat} {sh gp wi bk rl rt e u d : Nat} {T1 T4 : Int32} {D : Int64} {Q : zR → Prop} (w : zOw o h F (g 0) (g 1) (g 2) sh gp wi bk rl rt e u d) (q : zOk F g x sh gp wi bk) {l t : Nat} (hl : l < g 0) (ht : F 5 l = nI t) (htT : t < g 2) (X13 X14 X17 : Option Value) (X10 X15 : Int32) (k : ∀ X, zev 101 95 [some (.ref 0), some (.int T1), some (.ref o), some (.ref (o + 1)), some (.int T4), some (.long D), none, some (.int (nI (g 0))), some (.int (nI (g 1))), some (.int (nI (g 4))), some (.int X10), some (.int (nI (l + 1))), some (.int (nI t)), X13, X14, some (.int X15), X, X17] [] (nput (o + 1) F g h) Q) (X16 : Option Value) : zev 101 397 [some (.ref 0), some (.int T1), some (.ref o), some (.ref (o + 1)), some (.int T4), some (.long D), none, some (.int (nI (g 0))), some (.int (nI (g 1))), some (.int (nI (g 4))), some (.int X10), some (.int (nI l)), some (.int (nI t)), X13, X14, some (.int X15), X16, X17] [] (nput (o + 1) F g h) Q := by
  have hb := w.hb
  have hb2 := w.hb2
  have hn := q.nb.n70
  have hmn := q.nb.mn
  have hT := q.nb.t20
  obtain ⟨dr, hdr, hO⟩ := w.ob
  obtain ⟨sf, s1, s2, s3, s4, s5⟩ := w.se
  obtain ⟨hx1, hx2⟩ := q.nb.tm l hl
  have hbk := q.nb.s3.2
  have a0 := c_ofLine0 hb q l hl
  rw [hx1] at a0
  obtain ⟨r, hr, hbe⟩ := c_because hb q l hl
  rcases hr with rfl | ⟨j, t', N, h1, rfl, h2, h3, h4, h5, h6, h7, h8, h9⟩
  · skip
    refine zev_of (fun _ kk => zr_aload_n (pc' := 398) zi_101_397 rfl rfl kk) ?_
    refine zev_of (fun _ kk => zr_iload (pc' := 400) zi_101_398 rfl rfl kk) ?_
    refine zev_of (fun _ kk => zr_v1 (pc' := 403) zi_101_400 (nput_at hb (k := 0) rfl) rfl hbe rfl kk) ?_
    refine zev_of (fun _ kk => zr_istore (pc' := 405) zi_101_403 (Nat.le_of_ble_eq_true rfl) rfl rfl kk) ?_
    dsimp only [zst1, zst2, zkill, List.set, List.getElem?_cons_succ, List.getElem?_cons_zero]
    refine zev_of (fun _ kk => zr_iload (pc' := 407) zi_101_405 rfl rfl kk) ?_
    refine zev_of (fun _ kk => zr_iload (pc' := 409) zi_101_407 rfl rfl kk) ?_
    refine zv_icmp (pc' := 412) zi_101_409 rfl (fun h409 => ?_) (fun h409 => ?_)
    · replace h409 := zx_ge_t h409
      exact absurd h409 (Int32.not_le.mpr (nI_n1 (by omega)))
    · replace h409 := zx_ge_f h409
      refine zev_of (fun _ kk => zr_iload (pc' := 414) zi_101_412 rfl rfl kk) ?_
      refine zv_if (pc' := 417) zi_101_414 rfl (fun h414 => ?_) (fun h414 => ?_)
      · replace h414 := zx_lt_t h414
        refine zev_of (fun _ kk => zr_iinc (pc' := 467) zi_101_464 rfl (by first | exact n_inc _ | rfl) rfl rfl kk) ?_
        dsimp only [zst1, zst2, zkill, List.set, List.getElem?_cons_succ, List.getElem?_cons_zero]
        refine zev_of (fun _ kk => zr_goto zi_101_467 kk) ?_
        exact k _
      · replace h414 := zx_lt_f h414
        exact absurd (by decide) h414
  · have et := (nI_eq (by omega) (by omega)).mp (h3.symm.trans ht)
    subst et
    obtain ⟨hj1, hj2⟩ := q.nb.tm j (by omega)
    have b4 := c_ofLine4 hb q j (by omega)
    have b0 := c_ofLine0 hb q j (by omega)
    rw [hj1] at b0
    have bc := c_causes hb q t' htT
    rw [h9] at bc
    have hxj : x l ≤ x j + bk := by
      rw [hx1, hj1, Int32.le_iff_toInt_le, pk_sub_toInt (by omega) (by omega), nI_toInt (by omega)] at h6
      omega
    refine zev_of (fun _ kk => zr_aload_n (pc' := 398) zi_101_397 rfl rfl kk) ?_
    refine zev_of (fun _ kk => zr_iload (pc' := 400) zi_101_398 rfl rfl kk) ?_
    refine zev_of (fun _ kk => zr_v1 (pc' := 403) zi_101_400 (nput_at hb (k := 0) rfl) rfl hbe rfl kk) ?_
    refine zev_of (fun _ kk => zr_istore (pc' := 405) zi_101_403 (Nat.le_of_ble_eq_true rfl) rfl rfl kk) ?_
    dsimp only [zst1, zst2, zkill, List.set, List.getElem?_cons_succ, List.getElem?_cons_zero]
    refine zev_of (fun _ kk => zr_iload (pc' := 407) zi_101_405 rfl rfl kk) ?_
    refine zev_of (fun _ kk => zr_iload (pc' := 409) zi_101_407 rfl rfl kk) ?_
    refine zv_icmp (pc' := 412) zi_101_409 rfl (fun h409 => ?_) (fun h409 => ?_)
    · replace h409 := zc_ge_t (by omega) (by omega) h409
      omega
    · replace h409 := zc_ge_f (by omega) (by omega) h409
      refine zev_of (fun _ kk => zr_iload (pc' := 414) zi_101_412 rfl rfl kk) ?_
      refine zv_if (pc' := 417) zi_101_414 rfl (fun h414 => ?_) (fun h414 => ?_)
      · replace h414 := zx_lt_t h414
        exact absurd h414 (nI_pos (by omega))
      · replace h414 := zx_lt_f h414
        refine zev_of (fun _ kk => zr_aload_n (pc' := 418) zi_101_417 rfl rfl kk) ?_
        refine zev_of (fun _ kk => zr_iload (pc' := 420) zi_101_418 rfl rfl kk) ?_
        refine zev_of (fun _ kk => zr_iconst (v := (nI 4)) (pc' := 421) zi_101_420 rfl rfl kk) ?_
        refine zev_of (fun _ kk => zr_v2 (pc' := 424) zi_101_421 (nput_at hb (k := 0) rfl) rfl b4 rfl kk) ?_
        refine zev_of (fun _ kk => zr_iload (pc' := 426) zi_101_424 rfl rfl kk) ?_
        refine zv_icmp (pc' := 429) zi_101_426 rfl (fun h426 => ?_) (fun h426 => ?_)
        · replace h426 := zc_eq_t h426
          exact absurd h426 h5
        · replace h426 := zc_eq_f h426
          refine zev_of (fun _ kk => zr_aload_n (pc' := 430) zi_101_429 rfl rfl kk) ?_
          refine zev_of (fun _ kk => zr_iload (pc' := 432) zi_101_430 rfl rfl kk) ?_
          refine zev_of (fun _ kk => zr_v1 (pc' := 435) zi_101_432 (nput_at hb (k := 0) rfl) rfl bc rfl kk) ?_
          refine zv_if (pc' := 438) zi_101_435 rfl (fun h435 => ?_) (fun h435 => ?_)
          · replace h435 := zc_eq_t h435
            exact absurd h435 (nI_ne0 h7 (by omega))
          · replace h435 := zc_eq_f h435
            refine zev_of (fun _ kk => zr_aload_n (pc' := 439) zi_101_438 rfl rfl kk) ?_
            refine zev_of (fun _ kk => zr_iload (pc' := 441) zi_101_439 rfl rfl kk) ?_
            refine zev_of (fun _ kk => zr_iconst (v := (nI 0)) (pc' := 442) zi_101_441 rfl rfl kk) ?_
            refine zev_of (fun _ kk => zr_v2 (pc' := 445) zi_101_442 (nput_at hb (k := 0) rfl) rfl b0 rfl kk) ?_
            refine zev_of (fun _ kk => zr_aload_n (pc' := 446) zi_101_445 rfl rfl kk) ?_
            refine zev_of (fun _ kk => zo_get (pc' := 449) zi_101_446 hb hO rfl rfl kk) ?_
            refine zev_of (fun _ kk => zr_iconst (v := (nI 3)) (pc' := 450) zi_101_449 rfl rfl kk) ?_
            refine zev_of (fun _ kk => zo_iald (j := 3) (v := nI bk) (pc' := 451) zi_101_450 hb s1 (by omega) (by omega) (by omega) s5 rfl kk) ?_
            refine zev_of (fun _ kk => zr_iadd (pc' := 452) zi_101_451 (by first | exact nI_add _ _ | rfl) rfl kk) ?_
            refine zev_of (fun _ kk => zr_aload_n (pc' := 453) zi_101_452 rfl rfl kk) ?_
            refine zev_of (fun _ kk => zr_iload (pc' := 455) zi_101_453 rfl rfl kk) ?_
            refine zev_of (fun _ kk => zr_iconst (v := (nI 0)) (pc' := 456) zi_101_455 rfl rfl kk) ?_
            refine zev_of (fun _ kk => zr_v2 (pc' := 459) zi_101_456 (nput_at hb (k := 0) rfl) rfl a0 rfl kk) ?_
            refine zv_icmp (pc' := 462) zi_101_459 rfl (fun h459 => ?_) (fun h459 => ?_)
            · replace h459 := zc_ge_t (by omega) (by omega) h459
              refine zev_of (fun _ kk => zr_iinc (pc' := 467) zi_101_464 rfl (by first | exact n_inc _ | rfl) rfl rfl kk) ?_
              dsimp only [zst1, zst2, zkill, List.set, List.getElem?_cons_succ, List.getElem?_cons_zero]
              refine zev_of (fun _ kk => zr_goto zi_101_467 kk) ?_
              exact k _
            · replace h459 := zc_ge_f (by omega) (by omega) h459
              omega
/-- the first hole, and its word -/
theorem l_c4 {o : Nat} {h : zH} {F : Nat → Nat → Int32} {g : Nat → Nat} {x : Nat → Nat} {sh gp wi bk rl rt e u d : Nat} {T1 T4 : Int32} {D : Int64} {Q : zR → Prop} (w : zOw o h F (g 0) (g 1) (g 2) sh gp wi bk rl rt e u d) (q : zOk F g x sh gp wi bk) {l t a ho : Nat} {key : Int32} (hl : l < g 0) (ht : F 5 l = nI t) (htT : t < g 2) (ha8 : a ≤ 8) (ha : F 7 t = nI a) (hc : F 3 l = nI a) (hho : zhol F t a = 0 ∨ (0 < zhol F t a ∧ ho < a ∧ key = F 4 (l * 8 + ho))) (X16 X17 : Option Value) (X10 : Int32) (k : ∀ X, zev 101 95 [some (.ref 0), some (.int T1), some (.ref o), some (.ref (o + 1)), some (.int T4), some (.long D), none, some (.int (nI (g 0))), some (.int (nI (g 1))), some (.int (nI (g 4))), some (.int X10), some (.int (nI (l + 1))), some (.int (nI t)), some (.int key), some (.int (nI (zhol F t a))), some (.int (nI ho)), X, X17] [] (nput (o + 1) F g h) Q) : zev 101 360 [some (.ref 0), some (.int T1), some (.ref o), some (.ref (o + 1)), some (.int T4), some (.long D), none, some (.int (nI (g 0))), some (.int (nI (g 1))), some (.int (nI (g 4))), some (.int X10), some (.int (nI l)), some (.int (nI t)), some (.int key), some (.int (nI (zhol F t a))), some (.int (nI ho)), X16, X17] [] (nput (o + 1) F g h) Q := by
  have hb := w.hb
  have hn := q.nb.n70
  have hmn := q.nb.mn
  have hz : zhol F t a ≤ a := zcnt_le _ _
  have h397 := l_c5 w q hl ht htT (some (.int key)) (some (.int (nI (zhol F t a)))) X17 X10 (nI ho) k X16
  rcases hho with h0 | ⟨h0, h1, h2⟩
  · rw [h0] at h397 ⊢
    refine zev_of (fun _ kk => zr_iload (pc' := 362) zi_101_360 rfl rfl kk) ?_
    refine zv_if (pc' := 365) zi_101_362 rfl (fun h362 => ?_) (fun h362 => ?_)
    · replace h362 := zx_le_t h362
      exact h397
    · replace h362 := zx_le_f h362
      exact absurd (by decide) h362
  · have c1 := c_wordAt hb q l ho a hl hc ha8 h1
    rw [← h2] at c1
    obtain ⟨r, ⟨v, rfl, hv⟩, c2⟩ := c_values hb q t 0 a htT ha ha8 h0
    have c3 := c_ofTemplate2 hb q t a htT ha ha8
    have hcl : zcnt (fun j => decide (F 5 j = nI t)) (g 1) ≤ g 1 := zcnt_le _ _
    refine zev_of (fun _ kk => zr_iload (pc' := 362) zi_101_360 rfl rfl kk) ?_
    refine zv_if (pc' := 365) zi_101_362 rfl (fun h362 => ?_) (fun h362 => ?_)
    · replace h362 := zx_le_t h362
      exact absurd h362 (nI_nle h0 (by omega))
    · replace h362 := zx_le_f h362
      refine zev_of (fun _ kk => zr_aload_n (pc' := 366) zi_101_365 rfl rfl kk) ?_
      refine zev_of (fun _ kk => zr_iload (pc' := 368) zi_101_366 rfl rfl kk) ?_
      refine zev_of (fun _ kk => zr_iload (pc' := 370) zi_101_368 rfl rfl kk) ?_
      refine zev_of (fun _ kk => zr_v2 (pc' := 373) zi_101_370 (nput_at hb (k := 0) rfl) rfl c1 rfl kk) ?_
      refine zev_of (fun _ kk => zr_iload (pc' := 375) zi_101_373 rfl rfl kk) ?_
      refine zv_icmp (pc' := 378) zi_101_375 rfl (fun h375 => ?_) (fun h375 => ?_)
      · replace h375 := zc_ne_t h375
        exact absurd rfl h375
      · replace h375 := zc_ne_f h375
        refine zev_of (fun _ kk => zr_aload_n (pc' := 379) zi_101_378 rfl rfl kk) ?_
        refine zev_of (fun _ kk => zr_iload (pc' := 381) zi_101_379 rfl rfl kk) ?_
        refine zev_of (fun _ kk => zr_iconst (v := (nI 0)) (pc' := 382) zi_101_381 rfl rfl kk) ?_
        refine zev_of (fun _ kk => zr_v2 (pc' := 385) zi_101_382 (nput_at hb (k := 0) rfl) rfl c2 rfl kk) ?_
        refine zev_of (fun _ kk => zr_aload_n (pc' := 386) zi_101_385 rfl rfl kk) ?_
        refine zev_of (fun _ kk => zr_iload (pc' := 388) zi_101_386 rfl rfl kk) ?_
        refine zev_of (fun _ kk => zr_iconst (v := (nI 2)) (pc' := 389) zi_101_388 rfl rfl kk) ?_
        refine zev_of (fun _ kk => zr_v2 (pc' := 392) zi_101_389 (nput_at hb (k := 0) rfl) rfl c3 rfl kk) ?_
        refine zv_icmp (pc' := 395) zi_101_392 rfl (fun h392 => ?_) (fun h392 => ?_)
        · replace h392 := zc_le_t (by omega) (by omega) h392
          exact h397
        · replace h392 := zc_le_f (by omega) (by omega) h392
          omega
theorem l_c3 {o : Nat} {h : zH} {F : Nat → Nat → Int32} {g : Nat → Nat} {x : Nat → Nat} {sh gp wi bk rl rt e u d : Nat} {T1 T4 : Int32} {D : Int64} {Q : zR → Prop} (w : zOw o h F (g 0) (g 1) (g 2) sh gp wi bk rl rt e u d) (q : zOk F g x sh gp wi bk) {l t a p : Nat} {X13 X16 X17 : Option Value} {X10 : Int32} (htT : t < g 2) (ha8 : a ≤ 8) (ha : F 7 t = nI a) (hp : p < a) (h0 : 0 < zhol F t a) (hp1 : F 8 (t * 8 + p) = -1) (hp2 : ∀ j, j < p → ∃ v, v ≤ 999 ∧ F 8 (t * 8 + j) = nI v) (k : zev 101 360 [some (.ref 0), some (.int T1), some (.ref o), some (.ref (o + 1)), some (.int T4), some (.long D), none, some (.int (nI (g 0))), some (.int (nI (g 1))), some (.int (nI (g 4))), some (.int X10), some (.int (nI l)), some (.int (nI t)), X13, some (.int (nI (zhol F t a))), some (.int (nI p)), X16, X17] [] (nput (o + 1) F g h) Q) (j : Nat) (hj : j ≤ p) : zev 101 338 [some (.ref 0), some (.int T1), some (.ref o), some (.ref (o + 1)), some (.int T4), some (.long D), none, some (.int (nI (g 0))), some (.int (nI (g 1))), some (.int (nI (g 4))), some (.int X10), some (.int (nI l)), some (.int (nI t)), X13, some (.int (nI (zhol F t a))), some (.int (nI j)), X16, X17] [] (nput (o + 1) F g h) Q := by
  have hb := w.hb
  have hz : zhol F t a ≤ a := zcnt_le _ _
  have c1 := c_slot hb q t j a htT ha ha8 (by omega)
  rcases Nat.lt_or_ge j p with hjp | hjp
  · obtain ⟨v, hv, e⟩ := hp2 j hjp
    rw [e] at c1
    refine zev_of (fun _ kk => zr_iload (pc' := 340) zi_101_338 rfl rfl kk) ?_
    refine zv_if (pc' := 343) zi_101_340 rfl (fun h340 => ?_) (fun h340 => ?_)
    · replace h340 := zx_le_t h340
      exact absurd h340 (nI_nle h0 (by omega))
    · replace h340 := zx_le_f h340
      refine zev_of (fun _ kk => zr_aload_n (pc' := 344) zi_101_343 rfl rfl kk) ?_
      refine zev_of (fun _ kk => zr_iload (pc' := 346) zi_101_344 rfl rfl kk) ?_
      refine zev_of (fun _ kk => zr_iload (pc' := 348) zi_101_346 rfl rfl kk) ?_
      refine zev_of (fun _ kk => zr_v2 (pc' := 351) zi_101_348 (nput_at hb (k := 0) rfl) rfl c1 rfl kk) ?_
      refine zv_if (pc' := 354) zi_101_351 rfl (fun h351 => ?_) (fun h351 => ?_)
      · replace h351 := zx_lt_t h351
        exact absurd h351 (nI_pos (by omega))
      · replace h351 := zx_lt_f h351
        refine zev_of (fun _ kk => zr_iinc (pc' := 357) zi_101_354 rfl (by first | exact n_inc _ | rfl) rfl rfl kk) ?_
        dsimp only [zst1, zst2, zkill, List.set, List.getElem?_cons_succ, List.getElem?_cons_zero]
        refine zev_of (fun _ kk => zr_goto zi_101_357 kk) ?_
        exact l_c3 w q htT ha8 ha hp h0 hp1 hp2 k (j + 1) (by omega)
  · have e : j = p := by omega
    subst e
    rw [hp1] at c1
    refine zev_of (fun _ kk => zr_iload (pc' := 340) zi_101_338 rfl rfl kk) ?_
    refine zv_if (pc' := 343) zi_101_340 rfl (fun h340 => ?_) (fun h340 => ?_)
    · replace h340 := zx_le_t h340
      exact absurd h340 (nI_nle h0 (by omega))
    · replace h340 := zx_le_f h340
      refine zev_of (fun _ kk => zr_aload_n (pc' := 344) zi_101_343 rfl rfl kk) ?_
      refine zev_of (fun _ kk => zr_iload (pc' := 346) zi_101_344 rfl rfl kk) ?_
      refine zev_of (fun _ kk => zr_iload (pc' := 348) zi_101_346 rfl rfl kk) ?_
      refine zev_of (fun _ kk => zr_v2 (pc' := 351) zi_101_348 (nput_at hb (k := 0) rfl) rfl c1 rfl kk) ?_
      refine zv_if (pc' := 354) zi_101_351 rfl (fun h351 => ?_) (fun h351 => ?_)
      · replace h351 := zx_lt_t h351
        exact k
      · replace h351 := zx_lt_f h351
        exact absurd (by decide) h351
termination_by p - j
/-- a line of a template -/
theorem l_c2 {o : Nat} {h : zH} {F : Nat → Nat → Int32} {g : Nat → Nat} {x : Nat → Nat} {sh gp wi bk rl rt e u d : Nat} {T1 T4 : Int32} {D : Int64} {Q : zR → Prop} (w : zOw o h F (g 0) (g 1) (g 2) sh gp wi bk rl rt e u d) (q : zOk F g x sh gp wi bk) {l t a : Nat} {key : Int32} (hl : l < g 0) (hlm : l < g 1) (ht : F 5 l = nI t) (htT : t < g 2) (ha8 : a ≤ 8) (ha : F 7 t = nI a) (hc : F 3 l = nI a) (hwo : ∀ p, p < a → F 8 (t * 8 + p) = -1 ∨ F 8 (t * 8 + p) = F 4 (l * 8 + p)) (hky : (zhol F t a = 0 ∧ key = -1) ∨ ∃ p, p < a ∧ F 8 (t * 8 + p) = -1 ∧ zhol F t p = 0 ∧ key = F 4 (l * 8 + p)) (X17 : Option Value) (X10 : Int32) (k : ∀ X14 X15 X, zev 101 95 [some (.ref 0), some (.int T1), some (.ref o), some (.ref (o + 1)), some (.int T4), some (.long D), none, some (.int (nI (g 0))), some (.int (nI (g 1))), some (.int (nI (g 4))), some (.int X10), some (.int (nI (l + 1))), some (.int (nI t)), some (.int key), X14, X15, X, X17] [] (nput (o + 1) F g h) Q) (X14 X15 X16 : Option Value) : zev 101 234 [some (.ref 0), some (.int T1), some (.ref o), some (.ref (o + 1)), some (.int T4), some (.long D), none, some (.int (nI (g 0))), some (.int (nI (g 1))), some (.int (nI (g 4))), some (.int X10), some (.int (nI l)), some (.int (nI t)), some (.int key), X14, X15, X16, X17] [] (nput (o + 1) F g h) Q := by
  have hb := w.hb
  have hn := q.nb.n70
  have hmn := q.nb.mn
  have hz : zhol F t a ≤ a := zcnt_le _ _
  have hwd : ∀ p, p < a → ∃ v, v ≤ 999 ∧ F 4 (l * 8 + p) = nI v := q.nb.wd l hl a ha8 hc
  have hsum := zsm_hol hwo hwd
  have c1 := c_ofTemplate1 hb q t a htT ha ha8
  have c0 := c_ofTemplate0 hb q t a htT ha ha8
  rw [ha] at c0
  have l3 := c_ofLine3 hb q l hl
  rw [hc] at l3
  have l2 := c_ofLine2 hb q l hl
  have al := c_alike hb q l t a hl htT ha ha8
  rw [zak, if_pos (by rw [ha, hc]), ha, nI_clamp (by omega), nI_pred] at al
  obtain ⟨r3, hr3, c3⟩ := c_ofTemplate3 hb q t htT
  obtain ⟨r4, hr4, c4⟩ := c_ofTemplate4 hb q t htT
  have hr3 := hr3 l hlm ht
  have hr4 := hr4 l hlm ht
  -- holes and key
  have hh : zhol F t a = 0 ∧ ¬ 0 ≤ key ∨ 0 < zhol F t a ∧ 0 ≤ key := by
    rcases hky with ⟨h1, h2⟩ | ⟨p, h1, h2, h3, h4⟩
    · exact .inl ⟨h1, by rw [h2]; decide⟩
    · obtain ⟨v, hv, e⟩ := hwd p h1
      have : zhol F t (p + 1) ≤ zhol F t a := zcnt_mono h1
      rw [zhol_t h2] at this
      exact .inr ⟨by omega, by rw [h4, e]; exact nI_pos' (by omega)⟩
  have hk1 : nI (zhol F t a) ≤ 0 → key < 0 := fun h => by
    rcases hh with h1 | h1
    · exact Int32.not_le.mp h1.2
    · exact absurd h (nI_nle h1.1 (by omega))
  have hk2 : key < 0 → nI (zhol F t a) ≤ 0 := fun h => by
    rcases hh with h1 | h1
    · rw [h1.1]; decide
    · exact absurd h1.2 (Int32.not_le.mpr h)
  have h338 : zev 101 338 [some (.ref 0), some (.int T1), some (.ref o), some (.ref (o + 1)), some (.int T4), some (.long D), none, some (.int (nI (g 0))), some (.int (nI (g 1))), some (.int (nI (g 4))), some (.int X10), some (.int (nI l)), some (.int (nI t)), some (.int key), some (.int (nI (zhol F t a))), some (.int (nI 0)), X16, X17] [] (nput (o + 1) F g h) Q := by
    rcases hky with ⟨h1, h2⟩ | ⟨p, h1, h2, h3, h4⟩
    · have h360 := l_c4 w q (ho := 0) hl ht htT ha8 ha hc (.inl h1) X16 X17 X10 (fun X => k _ _ X)
      rw [h1] at h360 ⊢
      refine zev_of (fun _ kk => zr_iload (pc' := 340) zi_101_338 rfl rfl kk) ?_
      refine zv_if (pc' := 343) zi_101_340 rfl (fun h340 => ?_) (fun h340 => ?_)
      · replace h340 := zx_le_t h340
        exact h360
      · replace h340 := zx_le_f h340
        exact absurd (by decide) h340
    · have hpos : 0 < zhol F t a := by
        have : zhol F t (p + 1) ≤ zhol F t a := zcnt_mono h1
        rw [zhol_t h2] at this
        omega
      refine l_c3 w q htT ha8 ha h1 hpos h2 (fun j hj => ?_) (l_c4 w q (ho := p) hl ht htT ha8 ha hc (.inr ⟨hpos, h1, h4⟩) X16 X17 X10 (fun X => k _ _ X)) 0 (Nat.zero_le _)
      rcases hwo j (by omega) with w | w
      · have := zcnt_zero h3 j hj
        simp only [decide_eq_false_iff_not] at this
        exact absurd w this
      · rw [w]
        exact hwd j (by omega)
  have h304 : zev 101 304 [some (.ref 0), some (.int T1), some (.ref o), some (.ref (o + 1)), some (.int T4), some (.long D), none, some (.int (nI (g 0))), some (.int (nI (g 1))), some (.int (nI (g 4))), some (.int X10), some (.int (nI l)), some (.int (nI t)), some (.int key), some (.int (nI (zhol F t a))), X15, X16, X17] [] (nput (o + 1) F g h) Q := by
    refine zev_of (fun _ kk => zr_aload_n (pc' := 305) zi_101_304 rfl rfl kk) ?_
    refine zev_of (fun _ kk => zr_iload (pc' := 307) zi_101_305 rfl rfl kk) ?_
    refine zev_of (fun _ kk => zr_iconst (v := (nI 3)) (pc' := 308) zi_101_307 rfl rfl kk) ?_
    refine zev_of (fun _ kk => zr_v2 (pc' := 311) zi_101_308 (nput_at hb (k := 0) rfl) rfl c3 rfl kk) ?_
    refine zev_of (fun _ kk => zr_iload (pc' := 313) zi_101_311 rfl rfl kk) ?_
    refine zv_icmp (pc' := 316) zi_101_313 rfl (fun h313 => ?_) (fun h313 => ?_)
    · replace h313 := zx_gt_t h313
      exact absurd hr3 (Int32.not_le.mpr h313)
    · replace h313 := zx_gt_f h313
      refine zev_of (fun _ kk => zr_aload_n (pc' := 317) zi_101_316 rfl rfl kk) ?_
      refine zev_of (fun _ kk => zr_iload (pc' := 319) zi_101_317 rfl rfl kk) ?_
      refine zev_of (fun _ kk => zr_iconst (v := (nI 4)) (pc' := 320) zi_101_319 rfl rfl kk) ?_
      refine zev_of (fun _ kk => zr_v2 (pc' := 323) zi_101_320 (nput_at hb (k := 0) rfl) rfl c4 rfl kk) ?_
      refine zev_of (fun _ kk => zr_aload_n (pc' := 324) zi_101_323 rfl rfl kk) ?_
      refine zev_of (fun _ kk => zr_iload (pc' := 326) zi_101_324 rfl rfl kk) ?_
      refine zev_of (fun _ kk => zr_iconst (v := (nI 2)) (pc' := 327) zi_101_326 rfl rfl kk) ?_
      refine zev_of (fun _ kk => zr_v2 (pc' := 330) zi_101_327 (nput_at hb (k := 0) rfl) rfl l2 rfl kk) ?_
      refine zv_icmp (pc' := 333) zi_101_330 rfl (fun h330 => ?_) (fun h330 => ?_)
      · replace h330 := zx_ge_t h330
        refine zev_of (fun _ kk => zr_iconst (v := (nI 0)) (pc' := 336) zi_101_335 rfl rfl kk) ?_
        refine zev_of (fun _ kk => zr_istore (pc' := 338) zi_101_336 (Nat.le_of_ble_eq_true rfl) rfl rfl kk) ?_
        dsimp only [zst1, zst2, zkill, List.set, List.getElem?_cons_succ, List.getElem?_cons_zero]
        exact h338
      · replace h330 := zx_ge_f h330
        exact absurd hr4 h330
  refine zev_of (fun _ kk => zr_aload_n (pc' := 235) zi_101_234 rfl rfl kk) ?_
  refine zev_of (fun _ kk => zr_iload (pc' := 237) zi_101_235 rfl rfl kk) ?_
  refine zev_of (fun _ kk => zr_iconst (v := (nI 1)) (pc' := 238) zi_101_237 rfl rfl kk) ?_
  refine zev_of (fun _ kk => zr_v2 (pc' := 241) zi_101_238 (nput_at hb (k := 0) rfl) rfl c1 rfl kk) ?_
  refine zev_of (fun _ kk => zr_istore (pc' := 243) zi_101_241 (Nat.le_of_ble_eq_true rfl) rfl rfl kk) ?_
  dsimp only [zst1, zst2, zkill, List.set, List.getElem?_cons_succ, List.getElem?_cons_zero]
  refine zev_of (fun _ kk => zr_aload_n (pc' := 244) zi_101_243 rfl rfl kk) ?_
  refine zev_of (fun _ kk => zr_iload (pc' := 246) zi_101_244 rfl rfl kk) ?_
  refine zev_of (fun _ kk => zr_iconst (v := (nI 0)) (pc' := 247) zi_101_246 rfl rfl kk) ?_
  refine zev_of (fun _ kk => zr_v2 (pc' := 250) zi_101_247 (nput_at hb (k := 0) rfl) rfl c0 rfl kk) ?_
  refine zev_of (fun _ kk => zr_aload_n (pc' := 251) zi_101_250 rfl rfl kk) ?_
  refine zev_of (fun _ kk => zr_iload (pc' := 253) zi_101_251 rfl rfl kk) ?_
  refine zev_of (fun _ kk => zr_iconst (v := (nI 3)) (pc' := 254) zi_101_253 rfl rfl kk) ?_
  refine zev_of (fun _ kk => zr_v2 (pc' := 257) zi_101_254 (nput_at hb (k := 0) rfl) rfl l3 rfl kk) ?_
  refine zv_icmp (pc' := 260) zi_101_257 rfl (fun h257 => ?_) (fun h257 => ?_)
  · replace h257 := zc_ne_t h257
    exact absurd rfl h257
  · replace h257 := zc_ne_f h257
    refine zev_of (fun _ kk => zr_aload_n (pc' := 261) zi_101_260 rfl rfl kk) ?_
    refine zev_of (fun _ kk => zr_iload (pc' := 263) zi_101_261 rfl rfl kk) ?_
    refine zev_of (fun _ kk => zr_iload (pc' := 265) zi_101_263 rfl rfl kk) ?_
    refine zev_of (fun _ kk => zr_v2 (pc' := 268) zi_101_265 (nput_at hb (k := 0) rfl) rfl al rfl kk) ?_
    refine zev_of (fun _ kk => zr_iload (pc' := 270) zi_101_268 rfl rfl kk) ?_
    refine zev_of (fun _ kk => zr_iadd (pc' := 271) zi_101_270 (by first | exact nI_add _ _ | rfl) rfl kk) ?_
    rw [hsum]
    refine zev_of (fun _ kk => zr_aload_n (pc' := 272) zi_101_271 rfl rfl kk) ?_
    refine zev_of (fun _ kk => zr_iload (pc' := 274) zi_101_272 rfl rfl kk) ?_
    refine zev_of (fun _ kk => zr_iconst (v := (nI 3)) (pc' := 275) zi_101_274 rfl rfl kk) ?_
    refine zev_of (fun _ kk => zr_v2 (pc' := 278) zi_101_275 (nput_at hb (k := 0) rfl) rfl l3 rfl kk) ?_
    refine zv_icmp (pc' := 281) zi_101_278 rfl (fun h278 => ?_) (fun h278 => ?_)
    · replace h278 := zc_ne_t h278
      exact absurd rfl h278
    · replace h278 := zc_ne_f h278
      refine zev_of (fun _ kk => zr_iload (pc' := 283) zi_101_281 rfl rfl kk) ?_
      refine zv_if (pc' := 286) zi_101_283 rfl (fun h283 => ?_) (fun h283 => ?_)
      · replace h283 := zx_le_t h283
        refine zev_of (fun _ kk => zr_iconst (v := (nI 0)) (pc' := 291) zi_101_290 rfl rfl kk) ?_
        refine zev_of (fun _ kk => zr_iload (pc' := 293) zi_101_291 rfl rfl kk) ?_
        refine zv_if (pc' := 296) zi_101_293 rfl (fun h293 => ?_) (fun h293 => ?_)
        · replace h293 := zx_lt_t h293
          refine zev_of (fun _ kk => zr_iconst (v := (nI 0)) (pc' := 301) zi_101_300 rfl rfl kk) ?_
          refine zv_icmp (pc' := 304) zi_101_301 rfl (fun h301 => ?_) (fun h301 => ?_)
          · replace h301 := zc_ne_t h301
            first | exact absurd rfl h301 | exact absurd (hk1 h283) h293 | exact absurd (hk2 h293) h283
          · replace h301 := zc_ne_f h301
            exact h304
        · replace h293 := zx_lt_f h293
          refine zev_of (fun _ kk => zr_iconst (v := (nI 1)) (pc' := 297) zi_101_296 rfl rfl kk) ?_
          refine zev_of (fun _ kk => zr_goto zi_101_297 kk) ?_
          refine zv_icmp (pc' := 304) zi_101_301 rfl (fun h301 => ?_) (fun h301 => ?_)
          · replace h301 := zc_ne_t h301
            first | exact absurd rfl h301 | exact absurd (hk1 h283) h293 | exact absurd (hk2 h293) h283
          · replace h301 := zc_ne_f h301
            exact h304
      · replace h283 := zx_le_f h283
        refine zev_of (fun _ kk => zr_iconst (v := (nI 1)) (pc' := 287) zi_101_286 rfl rfl kk) ?_
        refine zev_of (fun _ kk => zr_goto zi_101_287 kk) ?_
        refine zev_of (fun _ kk => zr_iload (pc' := 293) zi_101_291 rfl rfl kk) ?_
        refine zv_if (pc' := 296) zi_101_293 rfl (fun h293 => ?_) (fun h293 => ?_)
        · replace h293 := zx_lt_t h293
          refine zev_of (fun _ kk => zr_iconst (v := (nI 0)) (pc' := 301) zi_101_300 rfl rfl kk) ?_
          refine zv_icmp (pc' := 304) zi_101_301 rfl (fun h301 => ?_) (fun h301 => ?_)
          · replace h301 := zc_ne_t h301
            first | exact absurd rfl h301 | exact absurd (hk1 h283) h293 | exact absurd (hk2 h293) h283
          · replace h301 := zc_ne_f h301
            exact h304
        · replace h293 := zx_lt_f h293
          refine zev_of (fun _ kk => zr_iconst (v := (nI 1)) (pc' := 297) zi_101_296 rfl rfl kk) ?_
          refine zev_of (fun _ kk => zr_goto zi_101_297 kk) ?_
          refine zv_icmp (pc' := 304) zi_101_301 rfl (fun h301 => ?_) (fun h301 => ?_)
          · replace h301 := zc_ne_t h301
            first | exact absurd rfl h301 | exact absurd (hk1 h283) h293 | exact absurd (hk2 h293) h283
          · replace h301 := zc_ne_f h301
            exact h304
theorem l_lines {o : Nat} {h : zH} {F : Nat → Nat → Int32} {g : Nat → Nat} {x : Nat → Nat} {sh gp wi bk rl rt e u d : Nat} {T1 T4 : Int32} {D : Int64} {Q : zR → Prop} (w : zOw o h F (g 0) (g 1) (g 2) sh gp wi bk rl rt e u d) (q : zOk F g x sh gp wi bk) (X17 : Option Value) (k : ∀ X12 X13 X14 X15 X16, zev 101 470 [some (.ref 0), some (.int T1), some (.ref o), some (.ref (o + 1)), some (.int T4), some (.long D), none, some (.int (nI (g 0))), some (.int (nI (g 1))), some (.int (nI (g 4))), some (.int (nI (zkeys F (g 0)))), some (.int (nI (g 0))), X12, X13, X14, X15, X16, X17] [] (nput (o + 1) F g h) Q) (l : Nat) (hl : l ≤ g 0) (X12 X13 X14 X15 X16 : Option Value) : zev 101 95 [some (.ref 0), some (.int T1), some (.ref o), some (.ref (o + 1)), some (.int T4), some (.long D), none, some (.int (nI (g 0))), some (.int (nI (g 1))), some (.int (nI (g 4))), some (.int (nI (zkeys F l))), some (.int (nI l)), X12, X13, X14, X15, X16, X17] [] (nput (o + 1) F g h) Q := by
  have hn := q.nb.n70
  rcases Nat.lt_or_ge l (g 0) with hln | hln
  · have next := fun X12 X13 X14 X15 X16 => l_lines w q X17 k (l + 1) hln X12 X13 X14 X15 X16
    obtain ⟨C, Z, qs⟩ := q.to.se
    have hS := q.S70
    refine zev_of (fun _ kk => zr_iload (pc' := 97) zi_101_95 rfl rfl kk) ?_
    refine zev_of (fun _ kk => zr_iload (pc' := 99) zi_101_97 rfl rfl kk) ?_
    refine zv_icmp (pc' := 102) zi_101_99 rfl (fun h99 => ?_) (fun h99 => ?_)
    · replace h99 := zc_ge_t (by omega) (by omega) h99
      omega
    · replace h99 := zc_ge_f (by omega) (by omega) h99
      have hks : 0 ≤ F 6 l ↔ 0 ≤ F 11 l := by
        rcases qs.ln l hln with ⟨k1, k2⟩ | ⟨k1, s, k', k2, _, _, k3⟩
        · rw [k2]
          exact ⟨fun h => absurd h (Int32.not_le.mpr k1), fun h => absurd h (by decide)⟩
        · rw [k3]
          exact ⟨fun _ => nI_pos' (by omega), fun _ => k1⟩
      rcases q.to.ky l hln with ⟨e1, e2⟩ | ⟨t, a, h1, h2, h3, h4, h5⟩
      · refine l_c1 w q hln e1 e2 rfl (by rw [← e2]; exact hks) (fun _ => by decide) (fun _ => by decide) X14 X15 X16 X17 ?_ X12 X13
        refine zev_of (fun _ kk => zr_iload (pc' := 228) zi_101_226 rfl rfl kk) ?_
        refine zv_if (pc' := 231) zi_101_228 rfl (fun h228 => ?_) (fun h228 => ?_)
        · replace h228 := zx_ge_t h228
          exact absurd h228 (by decide)
        · replace h228 := zx_ge_f h228
          refine zev_of (fun _ kk => zr_goto zi_101_231 kk) ?_
          refine zev_of (fun _ kk => zr_iinc (pc' := 467) zi_101_464 rfl (by first | exact n_inc _ | rfl) rfl rfl kk) ?_
          dsimp only [zst1, zst2, zkill, List.set, List.getElem?_cons_succ, List.getElem?_cons_zero]
          refine zev_of (fun _ kk => zr_goto zi_101_467 kk) ?_
          exact next _ _ _ _ _
      · have hlm : l < g 1 := Nat.lt_of_not_le fun w => absurd (h2.symm.trans (q.nb.o1 l w hln)) (nI_neg (by omega))
        obtain ⟨t', a', j1, j2, j3, j4, j5, j6⟩ : ∃ t a, t < g 2 ∧ F 5 l = nI t ∧ a ≤ 8 ∧ F 3 l = nI a ∧ F 7 t = nI a ∧ ∀ p, p < a → F 8 (t * 8 + p) = -1 ∨ F 8 (t * 8 + p) = F 4 (l * 8 + p) := by
          rcases q.nb.o2 l hlm with e | e
          · exact absurd (h2.symm.trans e) (nI_neg (by omega))
          · exact e
        have hT := q.nb.t20
        have e := (nI_eq (by omega) (by omega)).mp (h2.symm.trans j2)
        subst e
        have e := (nI_eq (by omega) (by omega)).mp (h3.symm.trans j5)
        subst e
        refine l_c1 w q hln h2 rfl rfl hks (fun w => absurd hlm (by omega)) (fun w => absurd (nI_pos' (by omega)) w) X14 X15 X16 X17 ?_ X12 X13
        refine zev_of (fun _ kk => zr_iload (pc' := 228) zi_101_226 rfl rfl kk) ?_
        refine zv_if (pc' := 231) zi_101_228 rfl (fun h228 => ?_) (fun h228 => ?_)
        · replace h228 := zx_ge_t h228
          exact l_c2 w q hln hlm h2 j1 h4 h3 j4 j6 h5 X17 _ (fun X14 X15 X => next _ _ X14 X15 X) X14 X15 X16
        · replace h228 := zx_ge_f h228
          exact absurd (nI_pos' (by omega)) h228
  · have e : l = g 0 := by omega
    subst e
    refine zev_of (fun _ kk => zr_iload (pc' := 97) zi_101_95 rfl rfl kk) ?_
    refine zev_of (fun _ kk => zr_iload (pc' := 99) zi_101_97 rfl rfl kk) ?_
    refine zv_icmp (pc' := 102) zi_101_99 rfl (fun h99 => ?_) (fun h99 => ?_)
    · replace h99 := zc_ge_t (by omega) (by omega) h99
      exact k _ _ _ _ _
    · replace h99 := zc_ge_f (by omega) (by omega) h99
      omega
termination_by g 0 - l
end


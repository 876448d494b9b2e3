/-! ===== the law: strings joined, beads unpicked and crushed ===== -/
section P50
variable {G : xG} {x : Nat} {w n ch be st : Nat → Int32} {sv : Nat → Nat → Int32} {q m : Nat} {co : Nat → Int32} {sx : xSx} {J : List xE} {a0 b0 a8 : Int32} {kc ks : Nat}
theorem stJ {u mm : Nat} (hq : q < 6) (hm : m ≤ 6) (N : lwN w m n) (L : lwA w ch be st) (hu : u < 7) (hon : 0 < zlen w (zI w 7 - 1)) (hl : zlen w (zI w 7 - 1) ≤ 240) (hK : zI w 7 < 48) : xW G L_strings lwQ 270 [(7, .int (nI u)), (8, .int (nI (zlen w (zI w 7 - 1)))), (9, .int (nI mm)), (0, .ref 0), (1, .int a0), (2, .int b0), (3, .ref 71), (4, .ref 72), (5, .ref 73), (6, .ref 74)] [] (bHp w sv (nI q) (nI m) (nI 0) co sx (lT n ch be st J)) x 10 60 := by
  have I := L.1
  have C := L.2.1
  have B := L.2.2.1
  have S := L.2.2.2.1
  have hA1 := I.iA.2.1
  have hA2 := I.iA.2.2
  have hS2 := I.iS.2.2
  have hH2 := I.iH.2.2
  have hR1 := I.iR.2.1
  have hR2 := I.iR.2.2
  have hC1 := I.iC.2.1
  have hC2 := I.iC.2.2
  have hM2 := I.iM.2.2
  have hK1 := I.iK.2.1
  have hK2 := I.iK.2.2
  have o : ∀ k, k ≠ 7 → k ≠ 9 → lsave (upd n 7 (nI (zI w 7 + 1))) m k = n k := fun k g1 g2 => (lsave_ne g2).trans (upd_ne g1)
  have o0 := o 0 (by decide) (by decide)
  have o1 := o 1 (by decide) (by decide)
  have o2 := o 2 (by decide) (by decide)
  have o3 := o 3 (by decide) (by decide)
  have o5 := o 5 (by decide) (by decide)
  have o6 := o 6 (by decide) (by decide)
  have N9 : lwN (zjoin w) (zrM m) (lsave (upd n 7 (nI (zI w 7 + 1))) m) := N.join hK ((lsave_ne (by decide)).trans upd_at) lsave_9 o
  have L9 : lwA (zjoin w) ch be (upd st (zI w 7) (nI (zI w 6))) := by
    have := L.join hK
    rw [I.iM.1] at this
    exact this
  by_cases hz : pcol w (zI w 6) = w 3
  · refine xw_iload 272 dL_strings_270 rfl rfl ?_
    refine xw_bipush 274 (nI 7) dL_strings_272 rfl (by decide) ?_
    refine xw_icmp_ge 348 277 dL_strings_274 rfl rfl (fun h274 => absurd h274 (nI_ge hu (by omega))) (fun h274 => ?_)
    refine xw_iload 279 dL_strings_277 rfl rfl ?_
    refine xw_if_le 348 282 dL_strings_279 rfl rfl (fun h279 => absurd h279 (nI_nle (by omega) (by omega))) (fun h279 => ?_)
    refine xw_aload_n 283 dL_strings_282 rfl rfl rfl ?_
    refine xw_bipush 285 (nI 7) dL_strings_283 rfl (by decide) ?_
    refine xw_ialv (j := 7) 286 dL_strings_285 rfl (lT_n) (rfl) (by decide) (by decide) (N.v7 I) ?_
    refine xw_bipush 288 (nI 48) dL_strings_286 rfl (by decide) ?_
    refine xw_icmp_ge 348 291 dL_strings_288 rfl rfl (fun h288 => absurd h288 (nI_ge hK (by omega))) (fun h288 => ?_)
    refine xw_aload 293 dL_strings_291 rfl rfl rfl ?_
    refine xw_aload_n 294 dL_strings_293 rfl rfl rfl ?_
    refine xw_bipush 296 (nI 7) dL_strings_294 rfl (by decide) ?_
    refine xw_ialv (j := 7) 297 dL_strings_296 rfl (lT_n) (rfl) (by decide) (by decide) (N.v7 I) ?_
    refine xw_aload_n 298 dL_strings_297 rfl rfl rfl ?_
    refine xw_bipush 300 (nI 6) dL_strings_298 rfl (by decide) ?_
    refine xw_ialv (j := 6) 301 dL_strings_300 rfl (lT_n) (rfl) (by decide) (by decide) (N.v6 I) ?_
    refine xw_iastore (j := zI w 7) 302 dL_strings_301 rfl (lT_s) (rfl) (by omega) (by omega) (lT_ss) ?_
    refine xw_aload_n 303 dL_strings_302 rfl rfl rfl ?_
    refine xw_bipush 305 (nI 7) dL_strings_303 rfl (by decide) ?_
    refine xw_dup2 306 dL_strings_305 rfl rfl rfl ?_
    refine xw_ialv (j := 7) 307 dL_strings_306 rfl (lT_n) (rfl) (by decide) (by decide) (N.v7 I) ?_
    refine xw_iconst 308 (nI 1) dL_strings_307 rfl (xofI 1) ?_
    refine xw_iadd 309 dL_strings_308 rfl ?_
    rw [nI_add]
    refine xw_iastore (j := 7) 310 dL_strings_309 rfl (lT_n) (rfl) (by omega) (by omega) (lT_sn) ?_
    refine xw_aload_n 311 dL_strings_310 rfl rfl rfl ?_
    refine xw_pSv 314 dL_strings_311 rfl ok_L_save s_L_43 (S_L_save (h1 := (bHp w sv (nI q) (nI m) (nI 0) co sx (lT (lsave (upd n 7 (nI (zI w 7 + 1))) m) ch be (upd st (zI w 7) (nI (zI w 6))) J))) lT_n ((upd_ne (by decide)).trans N.v9) hm lT_sn) (rfl) rfl rfl rfl rfl rfl rfl ?_
    refine xw_aload_n 315 dL_strings_314 rfl rfl rfl ?_
    refine xw_lVQ 318 dL_strings_315 rfl ok_B_join s_L_69 (S_L_joi I hq hm (by omega) hK) (lq_nt) (lT_o) rfl rfl rfl rfl rfl rfl rfl rfl rfl (fun ov9 hp9 q9 => ?_)
    obtain ⟨q1, w2, sx2, A2, rfl⟩ := q9
    cases q1
    rw [if_pos hz]
    refine xw_aload_n 319 dL_strings_318 rfl rfl rfl ?_
    refine xw_aload 321 dL_strings_319 rfl rfl rfl ?_
    refine xw_aload_n 322 dL_strings_321 rfl rfl rfl ?_
    refine xw_bipush 324 (nI 6) dL_strings_322 rfl (by decide) ?_
    refine xw_ialv (j := 6) 325 dL_strings_324 rfl (lT_n) (rfl) (by decide) (by decide) (o6.trans (N.v6 I)) ?_
    refine xw_pS 328 dL_strings_325 rfl ok_L_told s_L_14 (S_L_told lT_n lT_c (o0.trans (N.v0 I)) (o1.trans (N.v1 I)) (o2.trans (N.v2 I)) (o3.trans (N.v3 I)) hR1 hR2 hC1 hC2 (by omega) hA2 hS2 (by omega)) (rfl) rfl rfl rfl rfl rfl rfl ?_
    rw [lwC.p I C]
    refine xw_aload_n 329 dL_strings_328 rfl rfl rfl ?_
    refine xw_iconst 330 (nI 5) dL_strings_329 rfl (xofI 5) ?_
    refine xw_ialv (j := 5) 331 dL_strings_330 rfl (lT_n) (rfl) (by decide) (by decide) (o5.trans N.v5) ?_
    refine xw_icmp_ne 338 334 dL_strings_331 rfl rfl (fun h331 => absurd (hz) h331) (fun h331 => ?_)
    refine xw_iconst 335 (nI 1) dL_strings_334 rfl (xofI 1) ?_
    refine xw_goto 339 dL_strings_335 rfl ?_
    refine xw_icmp_ne 346 342 dL_strings_339 rfl rfl (fun h339 => absurd (rfl) h339) (fun h339 => ?_)
    refine xw_iconst 343 (nI 1) dL_strings_342 rfl (xofI 1) ?_
    refine xw_goto 347 dL_strings_343 rfl ?_
    exact xw_zreturn dL_strings_347 rfl (by decide) (lwQ_sav hq N9 L9 A2)
  · refine xw_iload 272 dL_strings_270 rfl rfl ?_
    refine xw_bipush 274 (nI 7) dL_strings_272 rfl (by decide) ?_
    refine xw_icmp_ge 348 277 dL_strings_274 rfl rfl (fun h274 => absurd h274 (nI_ge hu (by omega))) (fun h274 => ?_)
    refine xw_iload 279 dL_strings_277 rfl rfl ?_
    refine xw_if_le 348 282 dL_strings_279 rfl rfl (fun h279 => absurd h279 (nI_nle (by omega) (by omega))) (fun h279 => ?_)
    refine xw_aload_n 283 dL_strings_282 rfl rfl rfl ?_
    refine xw_bipush 285 (nI 7) dL_strings_283 rfl (by decide) ?_
    refine xw_ialv (j := 7) 286 dL_strings_285 rfl (lT_n) (rfl) (by decide) (by decide) (N.v7 I) ?_
    refine xw_bipush 288 (nI 48) dL_strings_286 rfl (by decide) ?_
    refine xw_icmp_ge 348 291 dL_strings_288 rfl rfl (fun h288 => absurd h288 (nI_ge hK (by omega))) (fun h288 => ?_)
    refine xw_aload 293 dL_strings_291 rfl rfl rfl ?_
    refine xw_aload_n 294 dL_strings_293 rfl rfl rfl ?_
    refine xw_bipush 296 (nI 7) dL_strings_294 rfl (by decide) ?_
    refine xw_ialv (j := 7) 297 dL_strings_296 rfl (lT_n) (rfl) (by decide) (by decide) (N.v7 I) ?_
    refine xw_aload_n 298 dL_strings_297 rfl rfl rfl ?_
    refine xw_bipush 300 (nI 6) dL_strings_298 rfl (by decide) ?_
    refine xw_ialv (j := 6) 301 dL_strings_300 rfl (lT_n) (rfl) (by decide) (by decide) (N.v6 I) ?_
    refine xw_iastore (j := zI w 7) 302 dL_strings_301 rfl (lT_s) (rfl) (by omega) (by omega) (lT_ss) ?_
    refine xw_aload_n 303 dL_strings_302 rfl rfl rfl ?_
    refine xw_bipush 305 (nI 7) dL_strings_303 rfl (by decide) ?_
    refine xw_dup2 306 dL_strings_305 rfl rfl rfl ?_
    refine xw_ialv (j := 7) 307 dL_strings_306 rfl (lT_n) (rfl) (by decide) (by decide) (N.v7 I) ?_
    refine xw_iconst 308 (nI 1) dL_strings_307 rfl (xofI 1) ?_
    refine xw_iadd 309 dL_strings_308 rfl ?_
    rw [nI_add]
    refine xw_iastore (j := 7) 310 dL_strings_309 rfl (lT_n) (rfl) (by omega) (by omega) (lT_sn) ?_
    refine xw_aload_n 311 dL_strings_310 rfl rfl rfl ?_
    refine xw_pSv 314 dL_strings_311 rfl ok_L_save s_L_43 (S_L_save (h1 := (bHp w sv (nI q) (nI m) (nI 0) co sx (lT (lsave (upd n 7 (nI (zI w 7 + 1))) m) ch be (upd st (zI w 7) (nI (zI w 6))) J))) lT_n ((upd_ne (by decide)).trans N.v9) hm lT_sn) (rfl) rfl rfl rfl rfl rfl rfl ?_
    refine xw_aload_n 315 dL_strings_314 rfl rfl rfl ?_
    refine xw_lVQ 318 dL_strings_315 rfl ok_B_join s_L_69 (S_L_joi I hq hm (by omega) hK) (lq_nt) (lT_o) rfl rfl rfl rfl rfl rfl rfl rfl rfl (fun ov9 hp9 q9 => ?_)
    obtain ⟨q1, w2, sx2, A2, rfl⟩ := q9
    cases q1
    rw [if_neg hz]
    refine xw_aload_n 319 dL_strings_318 rfl rfl rfl ?_
    refine xw_aload 321 dL_strings_319 rfl rfl rfl ?_
    refine xw_aload_n 322 dL_strings_321 rfl rfl rfl ?_
    refine xw_bipush 324 (nI 6) dL_strings_322 rfl (by decide) ?_
    refine xw_ialv (j := 6) 325 dL_strings_324 rfl (lT_n) (rfl) (by decide) (by decide) (o6.trans (N.v6 I)) ?_
    refine xw_pS 328 dL_strings_325 rfl ok_L_told s_L_14 (S_L_told lT_n lT_c (o0.trans (N.v0 I)) (o1.trans (N.v1 I)) (o2.trans (N.v2 I)) (o3.trans (N.v3 I)) hR1 hR2 hC1 hC2 (by omega) hA2 hS2 (by omega)) (rfl) rfl rfl rfl rfl rfl rfl ?_
    rw [lwC.p I C]
    refine xw_aload_n 329 dL_strings_328 rfl rfl rfl ?_
    refine xw_iconst 330 (nI 5) dL_strings_329 rfl (xofI 5) ?_
    refine xw_ialv (j := 5) 331 dL_strings_330 rfl (lT_n) (rfl) (by decide) (by decide) (o5.trans N.v5) ?_
    refine xw_icmp_ne 338 334 dL_strings_331 rfl rfl (fun h331 => ?_) (fun h331 => absurd h331 (hz))
    refine xw_iconst 339 (nI 0) dL_strings_338 rfl (xofI 0) ?_
    refine xw_icmp_ne 346 342 dL_strings_339 rfl rfl (fun h339 => absurd (rfl) h339) (fun h339 => ?_)
    refine xw_iconst 343 (nI 1) dL_strings_342 rfl (xofI 1) ?_
    refine xw_goto 347 dL_strings_343 rfl ?_
    exact xw_zreturn dL_strings_347 rfl (by decide) (lwQ_sav hq N9 L9 A2)
theorem stU1 {mm : Nat} (I : xInv w) (B : lwB w be) (hmm : mm ≤ zI w 6) (next : ∀ n1 : Nat → Int32, lwV w n mm n1 → xW G L_strings lwQ 412 [(9, .int (nI mm)), (0, .ref 0), (1, .int a0), (2, .int b0), (3, .ref 71), (4, .ref 72), (5, .ref 73), (6, .ref 74)] [] (bHp w sv (nI q) (nI m) (nI 0) co sx (lT n1 ch be st J)) x kc ks) : ∀ (t i : Nat) (n1 : Nat → Int32), i + t = mm → lwV w n i n1 → xW G L_strings lwQ 376 [(10, .int (nI i)), (9, .int (nI mm)), (0, .ref 0), (1, .int a0), (2, .int b0), (3, .ref 71), (4, .ref 72), (5, .ref 73), (6, .ref 74)] [] (bHp w sv (nI q) (nI m) (nI 0) co sx (lT n1 ch be st J)) x kc ks := by
  have hM2 := I.iM.2.2
  intro t
  induction t with
  | zero =>
    intro i n1 hi V
    obtain rfl : i = mm := by omega
    have next := next n1 V
    refine xw_iload 378 dL_strings_376 rfl rfl ?_
    refine xw_iload 380 dL_strings_378 rfl rfl ?_
    refine xw_icmp_ge 412 383 dL_strings_380 rfl rfl (fun h380 => ?_) (fun h380 => absurd (nI_le (by omega) (by omega)) h380)
    exact xW.pick [1, 2, 3, 4, 5, 6, 7, 8] rfl (next)
  | succ t ih =>
    intro i n1 hi V
    have hB := I.ib (zI w 6 - i - 1) (by omega)
    have hc6 : (zI w (147 + (zI w 6 - i - 1))) < 6 := by
      have := hB.2.2
      omega
    have ih := ih (i + 1) _ (by omega) (V.step rfl hc6)
    refine xw_iload 378 dL_strings_376 rfl rfl ?_
    refine xw_iload 380 dL_strings_378 rfl rfl ?_
    refine xw_icmp_ge 412 383 dL_strings_380 rfl rfl (fun h380 => absurd h380 (nI_ge (by omega) (by omega))) (fun h380 => ?_)
    refine xw_aload_n 384 dL_strings_383 rfl rfl rfl ?_
    refine xw_bipush 386 (nI 10) dL_strings_384 rfl (by decide) ?_
    refine xw_aload 388 dL_strings_386 rfl rfl rfl ?_
    refine xw_aload_n 389 dL_strings_388 rfl rfl rfl ?_
    refine xw_bipush 391 (nI 6) dL_strings_389 rfl (by decide) ?_
    refine xw_dup2 392 dL_strings_391 rfl rfl rfl ?_
    refine xw_ialv (j := 6) 393 dL_strings_392 rfl (lT_n) (rfl) (by decide) (by decide) (V.1) ?_
    refine xw_iconst 394 (nI 1) dL_strings_393 rfl (xofI 1) ?_
    refine xw_isub 395 dL_strings_394 rfl ?_
    rw [pk_sub (show 1 ≤ zI w 6 - i by omega)]
    refine xw_dup_x2 396 dL_strings_395 rfl rfl rfl rfl ?_
    refine xw_iastore (j := 6) 397 dL_strings_396 rfl (lT_n) (rfl) (by decide) (by decide) (lT_sn) ?_
    refine xw_pS 400 dL_strings_397 rfl ok_L_colour s_L_8 (S_L_colour lT_b (by omega) (by omega)) (rfl) rfl rfl rfl rfl rfl rfl ?_
    rw [B _ (by omega), hB.1]
    refine xw_iadd 401 dL_strings_400 rfl ?_
    rw [nI_add]
    refine xw_dup2 402 dL_strings_401 rfl rfl rfl ?_
    refine xw_ialv (j := 10 + (zI w (147 + (zI w 6 - i - 1)))) 403 dL_strings_402 rfl (lT_n) (rfl) (by omega) (by omega) ((upd_ne (by omega)).trans (V.2.2 (zI w (147 + (zI w 6 - i - 1))) hc6)) ?_
    refine xw_iconst 404 (nI 1) dL_strings_403 rfl (xofI 1) ?_
    refine xw_iadd 405 dL_strings_404 rfl ?_
    refine xw_iastore (j := 10 + (zI w (147 + (zI w 6 - i - 1)))) 406 dL_strings_405 rfl (lT_n) (rfl) (by omega) (by omega) (lT_sn) ?_
    refine xw_iinc (ls' := [(10, _), (9, _), (0, _), (1, _), (2, _), (3, _), (4, _), (5, _), (6, _)]) 409 _ dL_strings_406 rfl rfl (xnI_inc _) rfl rfl ?_
    refine xw_goto 376 dL_strings_409 rfl ?_
    exact xW.pick [0, 1, 2, 3, 4, 5, 6, 7, 8] rfl (ih)
theorem stU2 {mm l : Nat} {n0 : Nat → Int32} (I : xInv w) (S : lwS w st) (hl : l ≤ 240) (h6 : n0 6 = nI l) (next : ∀ (n1 : Nat → Int32) (K' : Nat), n1 7 = nI K' → (∀ k, k ≠ 7 → n1 k = n0 k) → 1 ≤ K' → K' ≤ zI w 7 → zI w (387 + (K' - 1)) ≤ l → (∀ s, K' ≤ s → s < zI w 7 → l < zI w (387 + s)) → xW G L_strings lwQ 439 [(9, .int (nI mm)), (0, .ref 0), (1, .int a0), (2, .int b0), (3, .ref 71), (4, .ref 72), (5, .ref 73), (6, .ref 74)] [] (bHp w sv (nI q) (nI m) (nI 0) co sx (lT n1 ch be st J)) x kc ks) :
    ∀ (t K' : Nat) (n1 : Nat → Int32), K' ≤ t + 1 → n1 7 = nI K' → (∀ k, k ≠ 7 → n1 k = n0 k) → 1 ≤ K' → K' ≤ zI w 7 → (∀ s, K' ≤ s → s < zI w 7 → l < zI w (387 + s)) → xW G L_strings lwQ 412 [(9, .int (nI mm)), (0, .ref 0), (1, .int a0), (2, .int b0), (3, .ref 71), (4, .ref 72), (5, .ref 73), (6, .ref 74)] [] (bHp w sv (nI q) (nI m) (nI 0) co sx (lT n1 ch be st J)) x kc ks := by
  have hK2 := I.iK.2.2
  have hM2 := I.iM.2.2
  intro t
  induction t with
  | zero =>
    intro K' n1 ht h7 ho h1 h2 hhi
    obtain rfl : K' = 1 := by omega
    have hst : st (1 - 1) = nI (zI w (387 + (1 - 1))) := (S _ (by omega)).trans (I.iB _ (by omega)).1
    have hlo : zI w (387 + (1 - 1)) ≤ l := by
      have := I.i0
      show zI w 387 ≤ l
      omega
    have next := next n1 1 h7 ho h1 h2 hlo hhi
    refine xw_aload 414 dL_strings_412 rfl rfl rfl ?_
    refine xw_aload_n 415 dL_strings_414 rfl rfl rfl ?_
    refine xw_bipush 417 (nI 7) dL_strings_415 rfl (by decide) ?_
    refine xw_ialv (j := 7) 418 dL_strings_417 rfl (lT_n) (rfl) (by decide) (by decide) (h7) ?_
    refine xw_iconst 419 (nI 1) dL_strings_418 rfl (xofI 1) ?_
    refine xw_isub 420 dL_strings_419 rfl ?_
    rw [pk_sub (show 1 ≤ 1 by omega)]
    refine xw_ialv (j := 1 - 1) 421 dL_strings_420 rfl (lT_s) (rfl) (by omega) (by omega) (hst) ?_
    refine xw_aload_n 422 dL_strings_421 rfl rfl rfl ?_
    refine xw_bipush 424 (nI 6) dL_strings_422 rfl (by decide) ?_
    refine xw_ialv (j := 6) 425 dL_strings_424 rfl (lT_n) (rfl) (by decide) (by decide) ((ho 6 (by decide)).trans h6) ?_
    refine xw_icmp_le 439 428 dL_strings_425 rfl rfl (fun h425 => ?_) (fun h425 => absurd (nI_le hlo (by omega)) h425)
    exact xW.pick [0, 1, 2, 3, 4, 5, 6, 7] rfl (next)
  | succ t ih =>
    intro K' n1 ht h7 ho h1 h2 hhi
    have hB := I.iB (K' - 1) (by omega)
    have hB2 := hB.2.2
    have hst : st (K' - 1) = nI (zI w (387 + (K' - 1))) := (S _ (by omega)).trans hB.1
    by_cases hlo : zI w (387 + (K' - 1)) ≤ l
    · have next := next n1 K' h7 ho h1 h2 hlo hhi
      refine xw_aload 414 dL_strings_412 rfl rfl rfl ?_
      refine xw_aload_n 415 dL_strings_414 rfl rfl rfl ?_
      refine xw_bipush 417 (nI 7) dL_strings_415 rfl (by decide) ?_
      refine xw_ialv (j := 7) 418 dL_strings_417 rfl (lT_n) (rfl) (by decide) (by decide) (h7) ?_
      refine xw_iconst 419 (nI 1) dL_strings_418 rfl (xofI 1) ?_
      refine xw_isub 420 dL_strings_419 rfl ?_
      rw [pk_sub h1]
      refine xw_ialv (j := K' - 1) 421 dL_strings_420 rfl (lT_s) (rfl) (by omega) (by omega) (hst) ?_
      refine xw_aload_n 422 dL_strings_421 rfl rfl rfl ?_
      refine xw_bipush 424 (nI 6) dL_strings_422 rfl (by decide) ?_
      refine xw_ialv (j := 6) 425 dL_strings_424 rfl (lT_n) (rfl) (by decide) (by decide) ((ho 6 (by decide)).trans h6) ?_
      refine xw_icmp_le 439 428 dL_strings_425 rfl rfl (fun h425 => ?_) (fun h425 => absurd (nI_le hlo (by omega)) h425)
      exact xW.pick [0, 1, 2, 3, 4, 5, 6, 7] rfl (next)
    · have hK1 : K' ≠ 1 := fun g => by
        have h0 := I.i0
        rw [g] at hlo
        exact hlo (by show zI w 387 ≤ l; omega)
      have ih := ih (K' - 1) (upd n1 7 (nI (K' - 1))) (by omega) upd_at (fun k g => (upd_ne g).trans (ho k g)) (by omega) (by omega) (fun s g1 g2 => by
        by_cases g : s = K' - 1
        · rw [g]; omega
        · exact hhi s (by omega) g2)
      refine xw_aload 414 dL_strings_412 rfl rfl rfl ?_
      refine xw_aload_n 415 dL_strings_414 rfl rfl rfl ?_
      refine xw_bipush 417 (nI 7) dL_strings_415 rfl (by decide) ?_
      refine xw_ialv (j := 7) 418 dL_strings_417 rfl (lT_n) (rfl) (by decide) (by decide) (h7) ?_
      refine xw_iconst 419 (nI 1) dL_strings_418 rfl (xofI 1) ?_
      refine xw_isub 420 dL_strings_419 rfl ?_
      rw [pk_sub h1]
      refine xw_ialv (j := K' - 1) 421 dL_strings_420 rfl (lT_s) (rfl) (by omega) (by omega) (hst) ?_
      refine xw_aload_n 422 dL_strings_421 rfl rfl rfl ?_
      refine xw_bipush 424 (nI 6) dL_strings_422 rfl (by decide) ?_
      refine xw_ialv (j := 6) 425 dL_strings_424 rfl (lT_n) (rfl) (by decide) (by decide) ((ho 6 (by decide)).trans h6) ?_
      refine xw_icmp_le 439 428 dL_strings_425 rfl rfl (fun h425 => absurd h425 (nI_ge (by omega) (by omega))) (fun h425 => ?_)
      refine xw_aload_n 429 dL_strings_428 rfl rfl rfl ?_
      refine xw_bipush 431 (nI 7) dL_strings_429 rfl (by decide) ?_
      refine xw_dup2 432 dL_strings_431 rfl rfl rfl ?_
      refine xw_ialv (j := 7) 433 dL_strings_432 rfl (lT_n) (rfl) (by decide) (by decide) (h7) ?_
      refine xw_iconst 434 (nI 1) dL_strings_433 rfl (xofI 1) ?_
      refine xw_isub 435 dL_strings_434 rfl ?_
      rw [pk_sub h1]
      refine xw_iastore (j := 7) 436 dL_strings_435 rfl (lT_n) (rfl) (by decide) (by decide) (lT_sn) ?_
      refine xw_goto 412 dL_strings_436 rfl ?_
      exact xW.pick [0, 1, 2, 3, 4, 5, 6, 7] rfl (ih)
theorem stU {mm : Nat} (hq : q < 6) (hm : m ≤ 6) (N : lwN w m n) (L : lwA w ch be st) (h1 : 1 ≤ mm) (hmm : mm ≤ zI w 6) : xW G L_strings lwQ 373 [(9, .int (nI mm)), (0, .ref 0), (1, .int a0), (2, .int b0), (3, .ref 71), (4, .ref 72), (5, .ref 73), (6, .ref 74)] [] (bHp w sv (nI q) (nI m) (nI 0) co sx (lT n ch be st J)) x 10 60 := by
  have I := L.1
  have C := L.2.1
  have B := L.2.2.1
  have S := L.2.2.2.1
  have hA1 := I.iA.2.1
  have hA2 := I.iA.2.2
  have hS2 := I.iS.2.2
  have hH2 := I.iH.2.2
  have hR1 := I.iR.2.1
  have hR2 := I.iR.2.2
  have hC1 := I.iC.2.1
  have hC2 := I.iC.2.2
  have hM2 := I.iM.2.2
  have hK1 := I.iK.2.1
  have hK2 := I.iK.2.2
  refine xw_iconst 374 (nI 0) dL_strings_373 rfl (xofI 0) ?_
  refine xw_istore (ls' := [(10, _), (9, _), (0, _), (1, _), (2, _), (3, _), (4, _), (5, _), (6, _)]) 376 dL_strings_374 rfl rfl rfl ?_
  refine xW.pick [0, 1, 2, 3, 4, 5, 6, 7, 8] rfl (stU1 I B hmm (fun n1 V => stU2 (l := zI w 6 - mm) I S (by omega) V.1 (fun n2 K' h7 ho k1 k2 hlo hhi => ?_) (zI w 7) (zI w 7) n1 (Nat.le_succ _) ((V.2.1 7 (by decide) (by decide)).trans (N.v7 I)) (fun k _ => rfl) hK1 (Nat.le_refl _) (fun s g1 g2 => absurd g2 (by omega))) mm 0 n (Nat.zero_add _) ⟨N.v6 I, fun k _ _ => rfl, fun d hd => (N.a hd).trans (Int32.add_zero _).symm⟩)
  have N9 : lwN (zunp w mm) (zrM m) (lsave (upd n2 8 (w 8 + nI mm)) m) := N.unp I hmm ((lsave_ne (by decide)).trans ((upd_ne (by decide)).trans ((ho 6 (by decide)).trans V.1))) ((lsave_ne (by decide)).trans ((upd_ne (by decide)).trans h7)) k1 k2 hlo hhi ((lsave_ne (by decide)).trans upd_at) lsave_9 (fun k g => (lsave_ne (by omega)).trans ((upd_ne (by omega)).trans ((ho k (by omega)).trans (V.2.1 k (by omega) (by omega))))) (fun d hd => (lsave_ne (by omega)).trans ((upd_ne (by omega)).trans ((ho _ (by omega)).trans (V.2.2 d hd))))
  refine xw_aload_n 440 dL_strings_439 rfl rfl rfl ?_
  refine xw_bipush 442 (nI 8) dL_strings_440 rfl (by decide) ?_
  refine xw_dup2 443 dL_strings_442 rfl rfl rfl ?_
  refine xw_ialv (j := 8) 444 dL_strings_443 rfl (lT_n) (rfl) (by decide) (by decide) ((ho 8 (by decide)).trans ((V.2.1 8 (by decide) (by decide)).trans N.v8)) ?_
  refine xw_iload 446 dL_strings_444 rfl rfl ?_
  refine xw_iadd 447 dL_strings_446 rfl ?_
  refine xw_iastore (j := 8) 448 dL_strings_447 rfl (lT_n) (rfl) (by decide) (by decide) (lT_sn) ?_
  refine xw_aload_n 449 dL_strings_448 rfl rfl rfl ?_
  refine xw_pSv 452 dL_strings_449 rfl ok_L_save s_L_43 (S_L_save (h1 := (bHp w sv (nI q) (nI m) (nI 0) co sx (lT (lsave (upd n2 8 (w 8 + nI mm)) m) ch be st J))) lT_n ((upd_ne (by decide)).trans ((ho 9 (by decide)).trans ((V.2.1 9 (by decide) (by decide)).trans N.v9))) hm lT_sn) (rfl) rfl rfl rfl rfl rfl rfl ?_
  refine xw_aload_n 453 dL_strings_452 rfl rfl rfl ?_
  refine xw_iload 455 dL_strings_453 rfl rfl ?_
  refine xw_lVQ 458 dL_strings_455 rfl ok_B_unpick s_L_72 (S_L_unp I hq hm h1 hmm) (lq_nt) (lT_o) rfl rfl rfl rfl rfl rfl rfl rfl rfl (fun ov9 hp9 q9 => ?_)
  obtain ⟨q1, w2, sx2, A2, rfl⟩ := q9
  cases q1
  refine xw_aload_n 459 dL_strings_458 rfl rfl rfl ?_
  refine xw_bipush 461 (nI 6) dL_strings_459 rfl (by decide) ?_
  refine xw_ialv (j := 6) 462 dL_strings_461 rfl (lT_n) (rfl) (by decide) (by decide) ((lsave_ne (by decide)).trans ((upd_ne (by decide)).trans ((ho 6 (by decide)).trans V.1))) ?_
  refine xw_icmp_ne 469 465 dL_strings_462 rfl rfl (fun h462 => absurd (rfl) h462) (fun h462 => ?_)
  refine xw_iconst 466 (nI 1) dL_strings_465 rfl (xofI 1) ?_
  refine xw_goto 470 dL_strings_466 rfl ?_
  exact xw_zreturn dL_strings_470 rfl (by decide) (lwQ_sav hq N9 (L.unp hmm) A2)
/-- the beads from b to i moved one place ahead -/
def lwE (be : Nat → Int32) (b i : Nat) (be1 : Nat → Int32) : Prop := ∀ j, bcol be1 j = if b ≤ j ∧ j < i then bcol be (j + 1) else bcol be j
theorem lwE.step {be1 : Nat → Int32} {b i c : Nat} (E : lwE be b i be1) (hb : b ≤ i) (hc : c < 8) (h : bcol be (i + 1) = nI c) : lwE be b (i + 1) (lput be1 i c) := by
  intro j
  by_cases g : j = i
  · rw [g, lput_at hc, if_pos ⟨hb, by omega⟩, h]
  · rw [lput_ne hc g, E j]
    by_cases g2 : b ≤ j ∧ j < i
    · rw [if_pos g2, if_pos ⟨g2.1, by omega⟩]
    · rw [if_neg g2, if_neg (by omega)]
theorem stC1 {b : Nat} {n1 : Nat → Int32} (I : xInv w) (B : lwB w be) (h6 : n1 6 = nI (zI w 6)) (next : ∀ be1 : Nat → Int32, lwE be b (zI w 6 - 1) be1 → xW G L_strings lwQ 534 [(10, .int (nI b)), (0, .ref 0), (1, .int a0), (2, .int b0), (3, .ref 71), (4, .ref 72), (5, .ref 73), (6, .ref 74)] [] (bHp w sv (nI q) (nI m) (nI 0) co sx (lT n1 ch be1 st J)) x kc ks) : ∀ (t i : Nat) (be1 : Nat → Int32), i + t + 1 = zI w 6 → b ≤ i → lwE be b i be1 → xW G L_strings lwQ 501 [(11, .int (nI i)), (10, .int (nI b)), (0, .ref 0), (1, .int a0), (2, .int b0), (3, .ref 71), (4, .ref 72), (5, .ref 73), (6, .ref 74)] [] (bHp w sv (nI q) (nI m) (nI 0) co sx (lT n1 ch be1 st J)) x kc ks := by
  have hM2 := I.iM.2.2
  intro t
  induction t with
  | zero =>
    intro i be1 hi hb E
    obtain rfl : i = zI w 6 - 1 := by omega
    have next := next be1 E
    refine xw_iload 503 dL_strings_501 rfl rfl ?_
    refine xw_iconst 504 (nI 1) dL_strings_503 rfl (xofI 1) ?_
    refine xw_iadd 505 dL_strings_504 rfl ?_
    rw [nI_add]
    refine xw_aload_n 506 dL_strings_505 rfl rfl rfl ?_
    refine xw_bipush 508 (nI 6) dL_strings_506 rfl (by decide) ?_
    refine xw_ialv (j := 6) 509 dL_strings_508 rfl (lT_n) (rfl) (by decide) (by decide) (h6) ?_
    refine xw_icmp_ge 534 512 dL_strings_509 rfl rfl (fun h509 => ?_) (fun h509 => absurd (nI_le (by omega) (by omega)) h509)
    exact xW.pick [1, 2, 3, 4, 5, 6, 7, 8] rfl (next)
  | succ t ih =>
    intro i be1 hi hb E
    have hB := I.ib (i + 1) (by omega)
    have hc6 : zI w (147 + (i + 1)) < 8 := by
      have := hB.2.2
      omega
    have e1 : bcol be (i + 1) = nI (zI w (147 + (i + 1))) := (B _ (by omega)).trans hB.1
    have ih := ih (i + 1) _ (by omega) (by omega) (E.step hb hc6 e1)
    have e2 : bcol be1 (i + 1) = nI (zI w (147 + (i + 1))) := by rw [E (i + 1), if_neg (by omega), e1]
    refine xw_iload 503 dL_strings_501 rfl rfl ?_
    refine xw_iconst 504 (nI 1) dL_strings_503 rfl (xofI 1) ?_
    refine xw_iadd 505 dL_strings_504 rfl ?_
    rw [nI_add]
    refine xw_aload_n 506 dL_strings_505 rfl rfl rfl ?_
    refine xw_bipush 508 (nI 6) dL_strings_506 rfl (by decide) ?_
    refine xw_ialv (j := 6) 509 dL_strings_508 rfl (lT_n) (rfl) (by decide) (by decide) (h6) ?_
    refine xw_icmp_ge 534 512 dL_strings_509 rfl rfl (fun h509 => absurd h509 (nI_ge (by omega) (by omega))) (fun h509 => ?_)
    refine xw_aload 514 dL_strings_512 rfl rfl rfl ?_
    refine xw_iload 516 dL_strings_514 rfl rfl ?_
    refine xw_aload 518 dL_strings_516 rfl rfl rfl ?_
    refine xw_iload 520 dL_strings_518 rfl rfl ?_
    refine xw_iconst 521 (nI 1) dL_strings_520 rfl (xofI 1) ?_
    refine xw_iadd 522 dL_strings_521 rfl ?_
    rw [nI_add]
    refine xw_pS 525 dL_strings_522 rfl ok_L_colour s_L_8 (S_L_colour lT_b (by omega) (by omega)) (rfl) rfl rfl rfl rfl rfl rfl ?_
    rw [e2]
    refine xw_pSv 528 dL_strings_525 rfl ok_L_put s_L_36 (S_L_put (h1 := (bHp w sv (nI q) (nI m) (nI 0) co sx (lT n1 ch (lput be1 i (zI w (147 + (i + 1)))) st J))) lT_b (by omega) (by omega) lT_sb) (rfl) rfl rfl rfl rfl rfl rfl ?_
    refine xw_iinc (ls' := [(11, _), (10, _), (0, _), (1, _), (2, _), (3, _), (4, _), (5, _), (6, _)]) 531 _ dL_strings_528 rfl rfl (xnI_inc _) rfl rfl ?_
    refine xw_goto 501 dL_strings_531 rfl ?_
    exact xW.pick [0, 1, 2, 3, 4, 5, 6, 7, 8] rfl (ih)
/-- the strings up to k behind the crushed bead's own moved -/
def lwF (w : Nat → Int32) (b k own : Nat) (st1 : Nat → Int32) : Prop :=
  own < k ∧ zI w (387 + own) ≤ b ∧ (∀ s, own < s → s < k → b < zI w (387 + s)) ∧ (∀ s, s < zI w 7 → st1 s = if own < s ∧ s < k then nI (zI w (387 + s) - 1) else w (387 + s))
theorem lwF.own {st1 : Nat → Int32} {b k own : Nat} (I : xInv w) (F : lwF w b k own st1) (hk : k < zI w 7) (h : zI w (387 + k) ≤ b) : lwF w b (k + 1) k st1 := by
  obtain ⟨f1, f2, f3, f4⟩ := F
  refine ⟨by omega, h, fun s g1 g2 => by omega, fun s hs => ?_⟩
  rw [f4 s hs, if_neg (by omega : ¬ (k < s ∧ s < k + 1))]
  by_cases g : own < s ∧ s < k
  · have h1 := f3 s g.1 g.2
    have h2 := lw_mono' I (show s ≤ k by omega) hk
    omega
  · rw [if_neg g]
theorem lwF.dec {st1 : Nat → Int32} {b k own : Nat} (F : lwF w b k own st1) (hk : k < zI w 7) (h : b < zI w (387 + k)) : lwF w b (k + 1) own (upd st1 k (nI (zI w (387 + k) - 1))) := by
  obtain ⟨f1, f2, f3, f4⟩ := F
  refine ⟨by omega, f2, fun s g1 g2 => ?_, fun s hs => ?_⟩
  · by_cases g : s = k
    · rw [g]; exact h
    · exact f3 s g1 (by omega)
  · by_cases g : s = k
    · rw [g, upd_at, if_pos ⟨by omega, by omega⟩]
    · rw [upd_ne g, f4 s hs]
      by_cases g2 : own < s ∧ s < k
      · rw [if_pos g2, if_pos ⟨g2.1, by omega⟩]
      · rw [if_neg g2, if_neg (by omega)]
theorem stC2 {b : Nat} {n1 be1 : Nat → Int32} (I : xInv w) (hb : b ≤ 240) (h7 : n1 7 = nI (zI w 7)) (next : ∀ (own : Nat) (st1 : Nat → Int32), lwF w b (zI w 7) own st1 → xW G L_strings lwQ 589 [(11, .int (nI own)), (10, .int (nI b)), (0, .ref 0), (1, .int a0), (2, .int b0), (3, .ref 71), (4, .ref 72), (5, .ref 73), (6, .ref 74)] [] (bHp w sv (nI q) (nI m) (nI 0) co sx (lT n1 ch be1 st1 J)) x kc ks) : ∀ (t k own : Nat) (st1 : Nat → Int32), k + t = zI w 7 → lwF w b k own st1 → xW G L_strings lwQ 548 [(12, .int (nI k)), (11, .int (nI own)), (10, .int (nI b)), (0, .ref 0), (1, .int a0), (2, .int b0), (3, .ref 71), (4, .ref 72), (5, .ref 73), (6, .ref 74)] [] (bHp w sv (nI q) (nI m) (nI 0) co sx (lT n1 ch be1 st1 J)) x kc ks := by
  have hM2 := I.iM.2.2
  have hK2 := I.iK.2.2
  intro t
  induction t with
  | zero =>
    intro k own st1 hi F
    obtain rfl : k = zI w 7 := by omega
    have next := next own st1 F
    refine xw_iload 550 dL_strings_548 rfl rfl ?_
    refine xw_aload_n 551 dL_strings_550 rfl rfl rfl ?_
    refine xw_bipush 553 (nI 7) dL_strings_551 rfl (by decide) ?_
    refine xw_ialv (j := 7) 554 dL_strings_553 rfl (lT_n) (rfl) (by decide) (by decide) (h7) ?_
    refine xw_icmp_ge 589 557 dL_strings_554 rfl rfl (fun h554 => ?_) (fun h554 => absurd (nI_le (by omega) (by omega)) h554)
    exact xW.pick [1, 2, 3, 4, 5, 6, 7, 8, 9] rfl (next)
  | succ t ih =>
    intro k own st1 hi F
    have hk : k < zI w 7 := by omega
    have hB := I.iB k hk
    have hB2 := hB.2.2
    have hst : st1 k = nI (zI w (387 + k)) := by
      rw [F.2.2.2 k hk, if_neg (by omega)]
      exact hB.1
    by_cases h : zI w (387 + k) ≤ b
    · have ih := ih (k + 1) k st1 (by omega) (F.own I hk h)
      refine xw_iload 550 dL_strings_548 rfl rfl ?_
      refine xw_aload_n 551 dL_strings_550 rfl rfl rfl ?_
      refine xw_bipush 553 (nI 7) dL_strings_551 rfl (by decide) ?_
      refine xw_ialv (j := 7) 554 dL_strings_553 rfl (lT_n) (rfl) (by decide) (by decide) (h7) ?_
      refine xw_icmp_ge 589 557 dL_strings_554 rfl rfl (fun h554 => absurd h554 (nI_ge hk (by omega))) (fun h554 => ?_)
      refine xw_aload 559 dL_strings_557 rfl rfl rfl ?_
      refine xw_iload 561 dL_strings_559 rfl rfl ?_
      refine xw_ialv (j := k) 562 dL_strings_561 rfl (lT_s) (rfl) (by omega) (by omega) (hst) ?_
      refine xw_iload 564 dL_strings_562 rfl rfl ?_
      refine xw_icmp_le 579 567 dL_strings_564 rfl rfl (fun h564 => ?_) (fun h564 => absurd (nI_le h (by omega)) h564)
      refine xw_iload 581 dL_strings_579 rfl rfl ?_
      refine xw_istore (ls' := [(11, _), (12, _), (10, _), (0, _), (1, _), (2, _), (3, _), (4, _), (5, _), (6, _)]) 583 dL_strings_581 rfl rfl rfl ?_
      refine xw_iinc (ls' := [(12, _), (11, _), (10, _), (0, _), (1, _), (2, _), (3, _), (4, _), (5, _), (6, _)]) 586 _ dL_strings_583 rfl rfl (xnI_inc _) rfl rfl ?_
      refine xw_goto 548 dL_strings_586 rfl ?_
      exact xW.pick [0, 1, 2, 3, 4, 5, 6, 7, 8, 9] rfl (ih)
    · have ih := ih (k + 1) own _ (by omega) (F.dec hk (by omega))
      refine xw_iload 550 dL_strings_548 rfl rfl ?_
      refine xw_aload_n 551 dL_strings_550 rfl rfl rfl ?_
      refine xw_bipush 553 (nI 7) dL_strings_551 rfl (by decide) ?_
      refine xw_ialv (j := 7) 554 dL_strings_553 rfl (lT_n) (rfl) (by decide) (by decide) (h7) ?_
      refine xw_icmp_ge 589 557 dL_strings_554 rfl rfl (fun h554 => absurd h554 (nI_ge hk (by omega))) (fun h554 => ?_)
      refine xw_aload 559 dL_strings_557 rfl rfl rfl ?_
      refine xw_iload 561 dL_strings_559 rfl rfl ?_
      refine xw_ialv (j := k) 562 dL_strings_561 rfl (lT_s) (rfl) (by omega) (by omega) (hst) ?_
      refine xw_iload 564 dL_strings_562 rfl rfl ?_
      refine xw_icmp_le 579 567 dL_strings_564 rfl rfl (fun h564 => absurd h564 (nI_ge (by omega) (by omega))) (fun h564 => ?_)
      refine xw_aload 569 dL_strings_567 rfl rfl rfl ?_
      refine xw_iload 571 dL_strings_569 rfl rfl ?_
      refine xw_dup2 572 dL_strings_571 rfl rfl rfl ?_
      refine xw_ialv (j := k) 573 dL_strings_572 rfl (lT_s) (rfl) (by omega) (by omega) (hst) ?_
      refine xw_iconst 574 (nI 1) dL_strings_573 rfl (xofI 1) ?_
      refine xw_isub 575 dL_strings_574 rfl ?_
      rw [pk_sub (show 1 ≤ zI w (387 + k) by omega)]
      refine xw_iastore (j := k) 576 dL_strings_575 rfl (lT_s) (rfl) (by omega) (by omega) (lT_ss) ?_
      refine xw_goto 583 dL_strings_576 rfl ?_
      refine xw_iinc (ls' := [(12, _), (11, _), (10, _), (0, _), (1, _), (2, _), (3, _), (4, _), (5, _), (6, _)]) 586 _ dL_strings_583 rfl rfl (xnI_inc _) rfl rfl ?_
      refine xw_goto 548 dL_strings_586 rfl ?_
      exact xW.pick [0, 1, 2, 3, 4, 5, 6, 7, 8, 9] rfl (ih)
/-- the strings from a to k moved one place ahead -/
def lwG (K : Nat) (st1 : Nat → Int32) (a k : Nat) (st2 : Nat → Int32) : Prop := ∀ s, s < K → st2 s = if a ≤ s ∧ s < k then st1 (s + 1) else st1 s
theorem stC3 {b a : Nat} {n1 be1 st1 : Nat → Int32} (I : xInv w) (h7 : n1 7 = nI (zI w 7)) (next : ∀ st2 : Nat → Int32, lwG (zI w 7) st1 a (zI w 7 - 1) st2 → xW G L_strings lwQ 650 [(10, .int (nI b)), (0, .ref 0), (1, .int a0), (2, .int b0), (3, .ref 71), (4, .ref 72), (5, .ref 73), (6, .ref 74)] [] (bHp w sv (nI q) (nI m) (nI 0) co sx (lT n1 ch be1 st2 J)) x kc ks) : ∀ (t k : Nat) (st2 : Nat → Int32), k + t + 1 = zI w 7 → a ≤ k → lwG (zI w 7) st1 a k st2 → xW G L_strings lwQ 621 [(12, .int (nI k)), (10, .int (nI b)), (0, .ref 0), (1, .int a0), (2, .int b0), (3, .ref 71), (4, .ref 72), (5, .ref 73), (6, .ref 74)] [] (bHp w sv (nI q) (nI m) (nI 0) co sx (lT n1 ch be1 st2 J)) x kc ks := by
  have hK2 := I.iK.2.2
  intro t
  induction t with
  | zero =>
    intro k st2 hi ha E
    obtain rfl : k = zI w 7 - 1 := by omega
    have next := next st2 E
    refine xw_iload 623 dL_strings_621 rfl rfl ?_
    refine xw_iconst 624 (nI 1) dL_strings_623 rfl (xofI 1) ?_
    refine xw_iadd 625 dL_strings_624 rfl ?_
    rw [nI_add]
    refine xw_aload_n 626 dL_strings_625 rfl rfl rfl ?_
    refine xw_bipush 628 (nI 7) dL_strings_626 rfl (by decide) ?_
    refine xw_ialv (j := 7) 629 dL_strings_628 rfl (lT_n) (rfl) (by decide) (by decide) (h7) ?_
    refine xw_icmp_ge 650 632 dL_strings_629 rfl rfl (fun h629 => ?_) (fun h629 => absurd (nI_le (by omega) (by omega)) h629)
    exact xW.pick [1, 2, 3, 4, 5, 6, 7, 8] rfl (next)
  | succ t ih =>
    intro k st2 hi ha E
    have hv : st2 (k + 1) = st1 (k + 1) := by rw [E (k + 1) (by omega), if_neg (by omega)]
    have ih := ih (k + 1) (upd st2 k (st1 (k + 1))) (by omega) (by omega) (fun s hs => by
      by_cases g : s = k
      · rw [g, upd_at, if_pos ⟨ha, by omega⟩]
      · rw [upd_ne g, E s hs]
        by_cases g2 : a ≤ s ∧ s < k
        · rw [if_pos g2, if_pos ⟨g2.1, by omega⟩]
        · rw [if_neg g2, if_neg (by omega)])
    refine xw_iload 623 dL_strings_621 rfl rfl ?_
    refine xw_iconst 624 (nI 1) dL_strings_623 rfl (xofI 1) ?_
    refine xw_iadd 625 dL_strings_624 rfl ?_
    rw [nI_add]
    refine xw_aload_n 626 dL_strings_625 rfl rfl rfl ?_
    refine xw_bipush 628 (nI 7) dL_strings_626 rfl (by decide) ?_
    refine xw_ialv (j := 7) 629 dL_strings_628 rfl (lT_n) (rfl) (by decide) (by decide) (h7) ?_
    refine xw_icmp_ge 650 632 dL_strings_629 rfl rfl (fun h629 => absurd h629 (nI_ge (by omega) (by omega))) (fun h629 => ?_)
    refine xw_aload 634 dL_strings_632 rfl rfl rfl ?_
    refine xw_iload 636 dL_strings_634 rfl rfl ?_
    refine xw_aload 638 dL_strings_636 rfl rfl rfl ?_
    refine xw_iload 640 dL_strings_638 rfl rfl ?_
    refine xw_iconst 641 (nI 1) dL_strings_640 rfl (xofI 1) ?_
    refine xw_iadd 642 dL_strings_641 rfl ?_
    rw [nI_add]
    refine xw_ialv (j := k + 1) 643 dL_strings_642 rfl (lT_s) (rfl) (by omega) (by omega) (hv) ?_
    refine xw_iastore (j := k) 644 dL_strings_643 rfl (lT_s) (rfl) (by omega) (by omega) (lT_ss) ?_
    refine xw_iinc (ls' := [(12, _), (10, _), (0, _), (1, _), (2, _), (3, _), (4, _), (5, _), (6, _)]) 647 _ dL_strings_644 rfl rfl (xnI_inc _) rfl rfl ?_
    refine xw_goto 621 dL_strings_647 rfl ?_
    exact xW.pick [0, 1, 2, 3, 4, 5, 6, 7, 8] rfl (ih)
theorem stC {b : Nat} (hq : q < 6) (hm : m ≤ 6) (N : lwN w m n) (L : lwA w ch be st) (hb : b < zI w 6) : xW G L_strings lwQ 481 [(10, .int (nI b)), (0, .ref 0), (1, .int a0), (2, .int b0), (3, .ref 71), (4, .ref 72), (5, .ref 73), (6, .ref 74)] [] (bHp w sv (nI q) (nI m) (nI 0) co sx (lT n ch be st J)) x 10 60 := by
  have I := L.1
  have C := L.2.1
  have B := L.2.2.1
  have S := L.2.2.2.1
  have hA1 := I.iA.2.1
  have hA2 := I.iA.2.2
  have hS2 := I.iS.2.2
  have hH2 := I.iH.2.2
  have hR1 := I.iR.2.1
  have hR2 := I.iR.2.2
  have hC1 := I.iC.2.1
  have hC2 := I.iC.2.2
  have hM2 := I.iM.2.2
  have hK1 := I.iK.2.1
  have hK2 := I.iK.2.2
  have hB := I.ib b hb
  have hcb : (zI w (147 + b)) < 6 := by
    have := hB.2.2
    omega
  have o : ∀ k, k ≠ 6 → k < 22 → (upd (upd n (22 + (zI w (147 + b))) (w (21 + (zI w (147 + b))) + nI 1)) 6 (nI (zI w 6 - 1))) k = n k := fun k g1 g2 => (upd_ne g1).trans (upd_ne (by omega))
  have hK1' := zgo_is (z := w) (b := b)
  have s658 : ∀ (n3 be1 st3 : Nat → Int32), n3 6 = nI (zI w 6 - 1) → n3 9 = nI m → lwN (zcrush w b) (zrM m) (lsave n3 m) → lwA (zcrush w b) ch be1 st3 → xW G L_strings lwQ 658 [(10, .int (nI b)), (0, .ref 0), (1, .int a0), (2, .int b0), (3, .ref 71), (4, .ref 72), (5, .ref 73), (6, .ref 74)] [] (bHp w sv (nI q) (nI m) (nI 0) co sx (lT n3 ch be1 st3 J)) x 10 60 := by
    intro n3 be1 st3 h6 h9 N9 L9
    refine xw_aload_n 659 dL_strings_658 rfl rfl rfl ?_
    refine xw_pSv 662 dL_strings_659 rfl ok_L_save s_L_43 (S_L_save (h1 := (bHp w sv (nI q) (nI m) (nI 0) co sx (lT (lsave n3 m) ch be1 st3 J))) lT_n h9 hm lT_sn) (rfl) rfl rfl rfl rfl rfl rfl ?_
    refine xw_aload_n 663 dL_strings_662 rfl rfl rfl ?_
    refine xw_iload 665 dL_strings_663 rfl rfl ?_
    refine xw_lVQ 668 dL_strings_665 rfl ok_B_crush s_L_75 (S_L_cru I hq hm hb) (lq_nt) (lT_o) rfl rfl rfl rfl rfl rfl rfl rfl rfl (fun ov9 hp9 q9 => ?_)
    obtain ⟨q1, w2, sx2, A2, rfl⟩ := q9
    cases q1
    refine xw_aload_n 669 dL_strings_668 rfl rfl rfl ?_
    refine xw_bipush 671 (nI 6) dL_strings_669 rfl (by decide) ?_
    refine xw_ialv (j := 6) 672 dL_strings_671 rfl (lT_n) (rfl) (by decide) (by decide) ((lsave_ne (by decide)).trans h6) ?_
    refine xw_icmp_ne 679 675 dL_strings_672 rfl rfl (fun h672 => absurd (rfl) h672) (fun h672 => ?_)
    refine xw_iconst 676 (nI 1) dL_strings_675 rfl (xofI 1) ?_
    refine xw_goto 680 dL_strings_676 rfl ?_
    exact xw_zreturn dL_strings_680 rfl (by decide) (lwQ_sav hq N9 L9 A2)
  have hcd : ∀ d, d < 6 → (upd (upd n (22 + (zI w (147 + b))) (w (21 + (zI w (147 + b))) + nI 1)) 6 (nI (zI w 6 - 1))) (22 + d) = if d = (zI w (147 + b)) then w (21 + d) + nI 1 else w (21 + d) := by
    intro d hd
    rw [upd_ne (by omega)]
    by_cases g : d = (zI w (147 + b))
    · rw [if_pos g, g, upd_at]
    · rw [if_neg g, upd_ne (by omega)]
      exact N.c hd
  refine xw_aload_n 482 dL_strings_481 rfl rfl rfl ?_
  refine xw_bipush 484 (nI 22) dL_strings_482 rfl (by decide) ?_
  refine xw_aload 486 dL_strings_484 rfl rfl rfl ?_
  refine xw_iload 488 dL_strings_486 rfl rfl ?_
  refine xw_pS 491 dL_strings_488 rfl ok_L_colour s_L_8 (S_L_colour lT_b (by omega) (by omega)) (rfl) rfl rfl rfl rfl rfl rfl ?_
  rw [B _ hb, hB.1]
  refine xw_iadd 492 dL_strings_491 rfl ?_
  rw [nI_add]
  refine xw_dup2 493 dL_strings_492 rfl rfl rfl ?_
  refine xw_ialv (j := 22 + (zI w (147 + b))) 494 dL_strings_493 rfl (lT_n) (rfl) (by omega) (by omega) (N.c hcb) ?_
  refine xw_iconst 495 (nI 1) dL_strings_494 rfl (xofI 1) ?_
  refine xw_iadd 496 dL_strings_495 rfl ?_
  refine xw_iastore (j := 22 + (zI w (147 + b))) 497 dL_strings_496 rfl (lT_n) (rfl) (by omega) (by omega) (lT_sn) ?_
  refine xw_iload 499 dL_strings_497 rfl rfl ?_
  refine xw_istore (ls' := [(11, _), (10, _), (0, _), (1, _), (2, _), (3, _), (4, _), (5, _), (6, _)]) 501 dL_strings_499 rfl rfl rfl ?_
  refine xW.pick [0, 1, 2, 3, 4, 5, 6, 7, 8] rfl (stC1 (n1 := (upd n (22 + (zI w (147 + b))) (w (21 + (zI w (147 + b))) + nI 1))) I B ((upd_ne (by omega)).trans (N.v6 I)) (fun be1 E => ?_) (zI w 6 - 1 - b) b be (by omega) (Nat.le_refl _) (fun j => by rw [if_neg (by omega)]))
  have hbe : ∀ j, j < zI w 6 - 1 → bcol be1 j = if b ≤ j then bcol be (j + 1) else bcol be j := by
    intro j hj
    rw [E j]
    by_cases g : b ≤ j
    · rw [if_pos ⟨g, hj⟩, if_pos g]
    · rw [if_neg (by omega), if_neg g]
  refine xw_aload_n 535 dL_strings_534 rfl rfl rfl ?_
  refine xw_bipush 537 (nI 6) dL_strings_535 rfl (by decide) ?_
  refine xw_dup2 538 dL_strings_537 rfl rfl rfl ?_
  refine xw_ialv (j := 6) 539 dL_strings_538 rfl (lT_n) (rfl) (by decide) (by decide) ((upd_ne (by omega)).trans (N.v6 I)) ?_
  refine xw_iconst 540 (nI 1) dL_strings_539 rfl (xofI 1) ?_
  refine xw_isub 541 dL_strings_540 rfl ?_
  rw [pk_sub (show 1 ≤ zI w 6 by omega)]
  refine xw_iastore (j := 6) 542 dL_strings_541 rfl (lT_n) (rfl) (by decide) (by decide) (lT_sn) ?_
  refine xw_iconst 543 (nI 0) dL_strings_542 rfl (xofI 0) ?_
  refine xw_istore (ls' := [(11, _), (10, _), (0, _), (1, _), (2, _), (3, _), (4, _), (5, _), (6, _)]) 545 dL_strings_543 rfl rfl rfl ?_
  refine xw_iconst 546 (nI 1) dL_strings_545 rfl (xofI 1) ?_
  refine xw_istore (ls' := [(12, _), (11, _), (10, _), (0, _), (1, _), (2, _), (3, _), (4, _), (5, _), (6, _)]) 548 dL_strings_546 rfl rfl rfl ?_
  refine xW.pick [0, 1, 2, 3, 4, 5, 6, 7, 8, 9] rfl (stC2 (n1 := (upd (upd n (22 + (zI w (147 + b))) (w (21 + (zI w (147 + b))) + nI 1)) 6 (nI (zI w 6 - 1)))) I (by omega) ((o 7 (by decide) (by decide)).trans (N.v7 I)) (fun own st1 F => ?_) (zI w 7 - 1) 1 0 st (by omega) ⟨by decide, by have := I.i0; show zI w 387 ≤ b; omega, fun s g1 g2 => by omega, fun s hs => by rw [if_neg (by omega)]; exact S s hs⟩)
  obtain ⟨f1, f2, f3, f4⟩ := F
  have eo : own = zstr w b := lw_own I f1 f2 f3
  have hBo := I.iB own f1
  have hBo2 := hBo.2.2
  have hso : st1 own = nI (zI w (387 + own)) := by
    rw [f4 own f1, if_neg (by omega)]
    exact hBo.1
  have hs0 : ∀ s, s ≤ zstr w b → st1 s = w (387 + s) := fun s hs => by rw [f4 s (by omega), if_neg (by omega)]
  have hs1 : ∀ s, zstr w b < s → s < zI w 7 → st1 s = nI (zI w (387 + s) - 1) := fun s g1 g2 => by rw [f4 s g2, if_pos (by omega)]
  by_cases h1 : own + 1 < zI w 7
  · have hBp := I.iB (own + 1) h1
    have hBp2 := hBp.2.2
    have hsp : st1 (own + 1) = nI (zI w (387 + (own + 1)) - 1) := hs1 _ (by omega) h1
    have hgt := f3 (own + 1) (by omega) h1
    have hze : zend w own = zI w (387 + (own + 1)) := if_pos h1
    by_cases h2 : zI w (387 + (own + 1)) - 1 = zI w (387 + own)
    · have hg : zgo w b = true := by
        unfold zgo zlen
        rw [← eo, hze]
        exact decide_eq_true ⟨by omega, h1⟩
      refine xw_iload 591 dL_strings_589 rfl rfl ?_
      refine xw_iconst 592 (nI 1) dL_strings_591 rfl (xofI 1) ?_
      refine xw_iadd 593 dL_strings_592 rfl ?_
      rw [nI_add]
      refine xw_aload_n 594 dL_strings_593 rfl rfl rfl ?_
      refine xw_bipush 596 (nI 7) dL_strings_594 rfl (by decide) ?_
      refine xw_ialv (j := 7) 597 dL_strings_596 rfl (lT_n) (rfl) (by decide) (by decide) ((o 7 (by decide) (by decide)).trans (N.v7 I)) ?_
      refine xw_icmp_ge 658 600 dL_strings_597 rfl rfl (fun h597 => absurd h597 (nI_ge h1 (by omega))) (fun h597 => ?_)
      refine xw_aload 602 dL_strings_600 rfl rfl rfl ?_
      refine xw_iload 604 dL_strings_602 rfl rfl ?_
      refine xw_iconst 605 (nI 1) dL_strings_604 rfl (xofI 1) ?_
      refine xw_iadd 606 dL_strings_605 rfl ?_
      rw [nI_add]
      refine xw_ialv (j := own + 1) 607 dL_strings_606 rfl (lT_s) (rfl) (by omega) (by omega) (hsp) ?_
      refine xw_aload 609 dL_strings_607 rfl rfl rfl ?_
      refine xw_iload 611 dL_strings_609 rfl rfl ?_
      refine xw_ialv (j := own) 612 dL_strings_611 rfl (lT_s) (rfl) (by omega) (by omega) (hso) ?_
      refine xw_icmp_ne 658 615 dL_strings_612 rfl rfl (fun h612 => absurd (congrArg nI h2) h612) (fun h612 => ?_)
      refine xw_iload 617 dL_strings_615 rfl rfl ?_
      refine xw_iconst 618 (nI 1) dL_strings_617 rfl (xofI 1) ?_
      refine xw_iadd 619 dL_strings_618 rfl ?_
      rw [nI_add]
      refine xw_istore (ls' := [(12, _), (11, _), (10, _), (0, _), (1, _), (2, _), (3, _), (4, _), (5, _), (6, _)]) 621 dL_strings_619 rfl rfl rfl ?_
      refine xW.pick [0, 2, 3, 4, 5, 6, 7, 8, 9] rfl (stC3 (a := own + 1) (n1 := (upd (upd n (22 + (zI w (147 + b))) (w (21 + (zI w (147 + b))) + nI 1)) 6 (nI (zI w 6 - 1)))) I ((o 7 (by decide) (by decide)).trans (N.v7 I)) (fun st2 E2 => ?_) (zI w 7 - 1 - (own + 1)) (own + 1) st1 (by omega) (Nat.le_refl _) (fun s hs => by rw [if_neg (by omega)]))
      have N9 : lwN (zcrush w b) (zrM m) (lsave (upd (upd (upd n (22 + (zI w (147 + b))) (w (21 + (zI w (147 + b))) + nI 1)) 6 (nI (zI w 6 - 1))) 7 (nI (zI w 7 - 1))) m) := N.crush I hb ((lsave_ne (by decide)).trans ((upd_ne (by decide)).trans upd_at)) (by rw [if_pos hg]; exact (lsave_ne (by decide)).trans upd_at) lsave_9 (fun k g1 g2 g3 g4 => (lsave_ne g3).trans ((upd_ne g2).trans (o k g1 g4))) (fun d hd => (lsave_ne (by omega)).trans ((upd_ne (by omega)).trans (hcd d hd)))
      have L9 : lwA (zcrush w b) ch be1 st2 := L.crush hb hbe (fun s hs => by rw [E2 s (by omega), if_neg (by omega)]; exact hs0 s hs) (fun q => absurd hg q) (fun _ s g1 g2 => by rw [E2 s (by omega), if_pos (by omega)]; exact hs1 (s + 1) (by omega) g2)
      have s := s658 _ be1 st2 ((upd_ne (by decide)).trans upd_at) ((upd_ne (by decide)).trans ((o 9 (by decide) (by decide)).trans N.v9)) N9 L9
      refine xw_aload_n 651 dL_strings_650 rfl rfl rfl ?_
      refine xw_bipush 653 (nI 7) dL_strings_651 rfl (by decide) ?_
      refine xw_dup2 654 dL_strings_653 rfl rfl rfl ?_
      refine xw_ialv (j := 7) 655 dL_strings_654 rfl (lT_n) (rfl) (by decide) (by decide) ((o 7 (by decide) (by decide)).trans (N.v7 I)) ?_
      refine xw_iconst 656 (nI 1) dL_strings_655 rfl (xofI 1) ?_
      refine xw_isub 657 dL_strings_656 rfl ?_
      rw [pk_sub hK1]
      refine xw_iastore (j := 7) 658 dL_strings_657 rfl (lT_n) (rfl) (by decide) (by decide) (lT_sn) ?_
      exact xW.pick [0, 1, 2, 3, 4, 5, 6, 7] rfl (s)
    · have hg : ¬ zgo w b = true := fun q => by
        have h3 := (hK1' q).1
        unfold zlen at h3
        rw [← eo, hze] at h3
        omega
      have N9 : lwN (zcrush w b) (zrM m) (lsave (upd (upd n (22 + (zI w (147 + b))) (w (21 + (zI w (147 + b))) + nI 1)) 6 (nI (zI w 6 - 1))) m) := N.crush I hb ((lsave_ne (by decide)).trans upd_at) (by rw [if_neg hg]; exact (lsave_ne (by decide)).trans ((o 7 (by decide) (by decide)).trans (N.v7 I))) lsave_9 (fun k g1 g2 g3 g4 => (lsave_ne g3).trans (o k g1 g4)) (fun d hd => (lsave_ne (by omega)).trans (hcd d hd))
      have L9 : lwA (zcrush w b) ch be1 st1 := L.crush hb hbe hs0 (fun _ => hs1) (fun q => absurd q hg)
      have s := s658 _ be1 st1 upd_at ((o 9 (by decide) (by decide)).trans N.v9) N9 L9
      refine xw_iload 591 dL_strings_589 rfl rfl ?_
      refine xw_iconst 592 (nI 1) dL_strings_591 rfl (xofI 1) ?_
      refine xw_iadd 593 dL_strings_592 rfl ?_
      rw [nI_add]
      refine xw_aload_n 594 dL_strings_593 rfl rfl rfl ?_
      refine xw_bipush 596 (nI 7) dL_strings_594 rfl (by decide) ?_
      refine xw_ialv (j := 7) 597 dL_strings_596 rfl (lT_n) (rfl) (by decide) (by decide) ((o 7 (by decide) (by decide)).trans (N.v7 I)) ?_
      refine xw_icmp_ge 658 600 dL_strings_597 rfl rfl (fun h597 => absurd h597 (nI_ge h1 (by omega))) (fun h597 => ?_)
      refine xw_aload 602 dL_strings_600 rfl rfl rfl ?_
      refine xw_iload 604 dL_strings_602 rfl rfl ?_
      refine xw_iconst 605 (nI 1) dL_strings_604 rfl (xofI 1) ?_
      refine xw_iadd 606 dL_strings_605 rfl ?_
      rw [nI_add]
      refine xw_ialv (j := own + 1) 607 dL_strings_606 rfl (lT_s) (rfl) (by omega) (by omega) (hsp) ?_
      refine xw_aload 609 dL_strings_607 rfl rfl rfl ?_
      refine xw_iload 611 dL_strings_609 rfl rfl ?_
      refine xw_ialv (j := own) 612 dL_strings_611 rfl (lT_s) (rfl) (by omega) (by omega) (hso) ?_
      refine xw_icmp_ne 658 615 dL_strings_612 rfl rfl (fun h612 => ?_) (fun h612 => absurd h612 (fun q => h2 ((nI_eq (by omega) (by omega)).mp q)))
      exact xW.pick [1, 2, 3, 4, 5, 6, 7, 8] rfl (s)
  · have hg : ¬ zgo w b = true := fun q => by
      have h3 := (hK1' q).2
      omega
    have N9 : lwN (zcrush w b) (zrM m) (lsave (upd (upd n (22 + (zI w (147 + b))) (w (21 + (zI w (147 + b))) + nI 1)) 6 (nI (zI w 6 - 1))) m) := N.crush I hb ((lsave_ne (by decide)).trans upd_at) (by rw [if_neg hg]; exact (lsave_ne (by decide)).trans ((o 7 (by decide) (by decide)).trans (N.v7 I))) lsave_9 (fun k g1 g2 g3 g4 => (lsave_ne g3).trans (o k g1 g4)) (fun d hd => (lsave_ne (by omega)).trans (hcd d hd))
    have L9 : lwA (zcrush w b) ch be1 st1 := L.crush hb hbe hs0 (fun _ => hs1) (fun q => absurd q hg)
    have s := s658 _ be1 st1 upd_at ((o 9 (by decide) (by decide)).trans N.v9) N9 L9
    refine xw_iload 591 dL_strings_589 rfl rfl ?_
    refine xw_iconst 592 (nI 1) dL_strings_591 rfl (xofI 1) ?_
    refine xw_iadd 593 dL_strings_592 rfl ?_
    rw [nI_add]
    refine xw_aload_n 594 dL_strings_593 rfl rfl rfl ?_
    refine xw_bipush 596 (nI 7) dL_strings_594 rfl (by decide) ?_
    refine xw_ialv (j := 7) 597 dL_strings_596 rfl (lT_n) (rfl) (by decide) (by decide) ((o 7 (by decide) (by decide)).trans (N.v7 I)) ?_
    refine xw_icmp_ge 658 600 dL_strings_597 rfl rfl (fun h597 => ?_) (fun h597 => absurd (nI_le (by omega) (by omega)) h597)
    exact xW.pick [1, 2, 3, 4, 5, 6, 7, 8] rfl (s)
end P50

/-! ===== the law: strings, from its start ===== -/
section P51
variable {G : xG} {x : Nat} {w n ch be st : Nat → Int32} {sv : Nat → Nat → Int32} {q m : Nat} {co : Nat → Int32} {sx : xSx} {J : List xE} {a0 b0 a8 : Int32} {kc ks : Nat}
theorem st348 {u mm : Nat} (hq : q < 6) (hm : m ≤ 6) (N : lwN w m n) (L : lwA w ch be st) (hu : u < 10) (h1 : 1 ≤ mm) (h2 : mm ≤ 12) : xW G L_strings lwQ 348 [(7, .int (nI u)), (9, .int (nI mm)), (0, .ref 0), (1, .int a0), (2, .int b0), (3, .ref 71), (4, .ref 72), (5, .ref 73), (6, .ref 74)] [] (bHp w sv (nI q) (nI m) (nI 0) co sx (lT n ch be st J)) x 10 60 := by
  have I := L.1
  have S := L.2.2.2.1
  have hA1 := I.iA.2.1
  have hA2 := I.iA.2.2
  have hS2 := I.iS.2.2
  have hH2 := I.iH.2.2
  have hR1 := I.iR.2.1
  have hR2 := I.iR.2.2
  have hC1 := I.iC.2.1
  have hC2 := I.iC.2.2
  have hM2 := I.iM.2.2
  have hK1 := I.iK.2.1
  have hK2 := I.iK.2.2
  by_cases hM0 : zI w 6 = 0
  · have v6 : n 6 = nI 0 := by rw [N.v6 I, hM0]
    refine xw_aload_n 349 dL_strings_348 rfl rfl rfl ?_
    refine xw_bipush 351 (nI 6) dL_strings_349 rfl (by decide) ?_
    refine xw_ialv (j := 6) 352 dL_strings_351 rfl (lT_n) (rfl) (by decide) (by decide) (v6) ?_
    refine xw_if_ne 357 355 dL_strings_352 rfl rfl (fun h352 => absurd (rfl) h352) (fun h352 => ?_)
    refine xw_iconst 356 (nI 1) dL_strings_355 rfl (xofI 1) ?_
    exact xw_zreturn dL_strings_356 rfl (Or.inr rfl) (⟨rfl, (w, sv, q, m, 0, co), sx, n, ch, be, st, J, ⟨hq, hm, rfl, N, L⟩, rfl⟩)
  · have s471 : xW G L_strings lwQ 471 [(0, .ref 0), (1, .int a0), (2, .int b0), (3, .ref 71), (4, .ref 72), (5, .ref 73), (6, .ref 74)] [] (bHp w sv (nI q) (nI m) (nI 0) co sx (lT n ch be st J)) x 10 60 := by
      refine xw_iload_n 472 dL_strings_471 rfl rfl ?_
      refine xw_aload_n 473 dL_strings_472 rfl rfl rfl ?_
      refine xw_bipush 475 (nI 6) dL_strings_473 rfl (by decide) ?_
      refine xw_ialv (j := 6) 476 dL_strings_475 rfl (lT_n) (rfl) (by decide) (by decide) (N.v6 I) ?_
      refine xw_lSQ 479 dL_strings_476 rfl ok_L_at s_L_24 (S_L_atQ (show 0 < zI w 6 by omega) (by omega)) (lAt_nt) rfl rfl rfl rfl rfl rfl rfl rfl (fun ov9 hp9 q9 => ?_)
      obtain ⟨⟨b, hb, q1⟩, rfl⟩ := q9
      cases q1
      refine xw_istore (ls' := [(10, _), (0, _), (1, _), (2, _), (3, _), (4, _), (5, _), (6, _)]) 481 dL_strings_479 rfl rfl rfl ?_
      exact xW.pick [0, 1, 2, 3, 4, 5, 6, 7] rfl (stC hq hm N L hb)
    by_cases hu9 : u = 9
    · by_cases hmm : mm ≤ zI w 6
      · refine xw_aload_n 349 dL_strings_348 rfl rfl rfl ?_
        refine xw_bipush 351 (nI 6) dL_strings_349 rfl (by decide) ?_
        refine xw_ialv (j := 6) 352 dL_strings_351 rfl (lT_n) (rfl) (by decide) (by decide) (N.v6 I) ?_
        refine xw_if_ne 357 355 dL_strings_352 rfl rfl (fun h352 => ?_) (fun h352 => absurd h352 (nI_ne0 (by omega) (by omega)))
        refine xw_iload 359 dL_strings_357 rfl rfl ?_
        refine xw_bipush 361 (nI 9) dL_strings_359 rfl (by decide) ?_
        refine xw_icmp_ne 471 364 dL_strings_361 rfl rfl (fun h361 => absurd (congrArg nI hu9) h361) (fun h361 => ?_)
        refine xw_iload 366 dL_strings_364 rfl rfl ?_
        refine xw_aload_n 367 dL_strings_366 rfl rfl rfl ?_
        refine xw_bipush 369 (nI 6) dL_strings_367 rfl (by decide) ?_
        refine xw_ialv (j := 6) 370 dL_strings_369 rfl (lT_n) (rfl) (by decide) (by decide) (N.v6 I) ?_
        refine xw_icmp_gt 471 373 dL_strings_370 rfl rfl (fun h370 => absurd h370 (nI_nlt hmm (by omega))) (fun h370 => ?_)
        exact xW.pick [1, 2, 3, 4, 5, 6, 7, 8] rfl (stU hq hm N L h1 hmm)
      · refine xw_aload_n 349 dL_strings_348 rfl rfl rfl ?_
        refine xw_bipush 351 (nI 6) dL_strings_349 rfl (by decide) ?_
        refine xw_ialv (j := 6) 352 dL_strings_351 rfl (lT_n) (rfl) (by decide) (by decide) (N.v6 I) ?_
        refine xw_if_ne 357 355 dL_strings_352 rfl rfl (fun h352 => ?_) (fun h352 => absurd h352 (nI_ne0 (by omega) (by omega)))
        refine xw_iload 359 dL_strings_357 rfl rfl ?_
        refine xw_bipush 361 (nI 9) dL_strings_359 rfl (by decide) ?_
        refine xw_icmp_ne 471 364 dL_strings_361 rfl rfl (fun h361 => absurd (congrArg nI hu9) h361) (fun h361 => ?_)
        refine xw_iload 366 dL_strings_364 rfl rfl ?_
        refine xw_aload_n 367 dL_strings_366 rfl rfl rfl ?_
        refine xw_bipush 369 (nI 6) dL_strings_367 rfl (by decide) ?_
        refine xw_ialv (j := 6) 370 dL_strings_369 rfl (lT_n) (rfl) (by decide) (by decide) (N.v6 I) ?_
        refine xw_icmp_gt 471 373 dL_strings_370 rfl rfl (fun h370 => ?_) (fun h370 => absurd (nI_lt (by omega) (by omega)) h370)
        exact xW.pick [2, 3, 4, 5, 6, 7, 8] rfl (s471)
    · refine xw_aload_n 349 dL_strings_348 rfl rfl rfl ?_
      refine xw_bipush 351 (nI 6) dL_strings_349 rfl (by decide) ?_
      refine xw_ialv (j := 6) 352 dL_strings_351 rfl (lT_n) (rfl) (by decide) (by decide) (N.v6 I) ?_
      refine xw_if_ne 357 355 dL_strings_352 rfl rfl (fun h352 => ?_) (fun h352 => absurd h352 (nI_ne0 (by omega) (by omega)))
      refine xw_iload 359 dL_strings_357 rfl rfl ?_
      refine xw_bipush 361 (nI 9) dL_strings_359 rfl (by decide) ?_
      refine xw_icmp_ne 471 364 dL_strings_361 rfl rfl (fun h361 => ?_) (fun h361 => absurd h361 (fun q => hu9 ((nI_eq (by omega) (by decide)).mp q)))
      exact xW.pick [2, 3, 4, 5, 6, 7, 8] rfl (s471)
theorem st270 {u mm : Nat} (hq : q < 6) (hm : m ≤ 6) (N : lwN w m n) (L : lwA w ch be st) (hu : u < 10) (h1 : 1 ≤ mm) (h2 : mm ≤ 12) (hl : zlen w (zI w 7 - 1) ≤ 240) : xW G L_strings lwQ 270 [(7, .int (nI u)), (8, .int (nI (zlen w (zI w 7 - 1)))), (9, .int (nI mm)), (0, .ref 0), (1, .int a0), (2, .int b0), (3, .ref 71), (4, .ref 72), (5, .ref 73), (6, .ref 74)] [] (bHp w sv (nI q) (nI m) (nI 0) co sx (lT n ch be st J)) x 10 60 := by
  have I := L.1
  have S := L.2.2.2.1
  have hA1 := I.iA.2.1
  have hA2 := I.iA.2.2
  have hS2 := I.iS.2.2
  have hH2 := I.iH.2.2
  have hR1 := I.iR.2.1
  have hR2 := I.iR.2.2
  have hC1 := I.iC.2.1
  have hC2 := I.iC.2.2
  have hM2 := I.iM.2.2
  have hK1 := I.iK.2.1
  have hK2 := I.iK.2.2
  have s348 := st348 (G := G) (x := x) (sv := sv) (co := co) (sx := sx) (J := J) (a0 := a0) (b0 := b0) hq hm N L hu h1 h2
  by_cases g1 : u < 7
  · by_cases g2 : 0 < zlen w (zI w 7 - 1)
    · by_cases g3 : zI w 7 < 48
      · exact stJ hq hm N L g1 g2 hl g3
      · refine xw_iload 272 dL_strings_270 rfl rfl ?_
        refine xw_bipush 274 (nI 7) dL_strings_272 rfl (by decide) ?_
        refine xw_icmp_ge 348 277 dL_strings_274 rfl rfl (fun h274 => absurd h274 (nI_ge g1 (by omega))) (fun h274 => ?_)
        refine xw_iload 279 dL_strings_277 rfl rfl ?_
        refine xw_if_le 348 282 dL_strings_279 rfl rfl (fun h279 => absurd h279 (nI_nle g2 (by omega))) (fun h279 => ?_)
        refine xw_aload_n 283 dL_strings_282 rfl rfl rfl ?_
        refine xw_bipush 285 (nI 7) dL_strings_283 rfl (by decide) ?_
        refine xw_ialv (j := 7) 286 dL_strings_285 rfl (lT_n) (rfl) (by decide) (by decide) (N.v7 I) ?_
        refine xw_bipush 288 (nI 48) dL_strings_286 rfl (by decide) ?_
        refine xw_icmp_ge 348 291 dL_strings_288 rfl rfl (fun h288 => ?_) (fun h288 => absurd (nI_le (by omega) (by omega)) h288)
        exact xW.pick [0, 2, 3, 4, 5, 6, 7, 8, 9] rfl (s348)
    · have e0 : zlen w (zI w 7 - 1) = 0 := by omega
      rw [e0]
      refine xw_iload 272 dL_strings_270 rfl rfl ?_
      refine xw_bipush 274 (nI 7) dL_strings_272 rfl (by decide) ?_
      refine xw_icmp_ge 348 277 dL_strings_274 rfl rfl (fun h274 => absurd h274 (nI_ge g1 (by omega))) (fun h274 => ?_)
      refine xw_iload 279 dL_strings_277 rfl rfl ?_
      refine xw_if_le 348 282 dL_strings_279 rfl rfl (fun h279 => ?_) (fun h279 => absurd (by decide) h279)
      exact xW.pick [0, 2, 3, 4, 5, 6, 7, 8, 9] rfl (s348)
  · refine xw_iload 272 dL_strings_270 rfl rfl ?_
    refine xw_bipush 274 (nI 7) dL_strings_272 rfl (by decide) ?_
    refine xw_icmp_ge 348 277 dL_strings_274 rfl rfl (fun h274 => ?_) (fun h274 => absurd (nI_le (by omega) (by omega)) h274)
    exact xW.pick [0, 2, 3, 4, 5, 6, 7, 8, 9] rfl (s348)
theorem S_L_strings (hq : q < 6) (hm : m ≤ 6) (N : lwN w m n) (L : lwA w ch be st) : xMet G L_strings [.ref 0, .int a0, .int b0, .ref 71, .ref 72, .ref 73, .ref 74] (bHp w sv (nI q) (nI m) (nI 0) co sx (lT n ch be st J)) x 10 60 lwQ := by
  have I := L.1
  have S := L.2.2.2.1
  have hA1 := I.iA.2.1
  have hA2 := I.iA.2.2
  have hS2 := I.iS.2.2
  have hH2 := I.iH.2.2
  have hR1 := I.iR.2.1
  have hR2 := I.iR.2.2
  have hC1 := I.iC.2.1
  have hC2 := I.iC.2.2
  have hM2 := I.iM.2.2
  have hK1 := I.iK.2.1
  have hK2 := I.iK.2.2
  have hBl := I.iB (zI w 7 - 1) (by omega)
  have hst : st (zI w 7 - 1) = nI (zI w (387 + (zI w 7 - 1))) := (S _ (by omega)).trans hBl.1
  have hb := hBl.2.2
  have hz : zI w 6 - zI w (387 + (zI w 7 - 1)) = zlen w (zI w 7 - 1) := by
    unfold zlen
    rw [show zend w (zI w 7 - 1) = zI w 6 from if_neg (by omega)]
  have hl : zlen w (zI w 7 - 1) ≤ 240 := by omega
  refine xw_iload_n 1 dL_strings_0 rfl rfl ?_
  refine xw_bipush 3 (nI 10) dL_strings_1 rfl (by decide) ?_
  refine xw_lSQ 6 dL_strings_3 rfl ok_L_at s_L_24 (S_L_atQ (by decide) (by decide)) (lAt_nt) rfl rfl rfl rfl rfl rfl rfl rfl (fun ov9 hp9 q9 => ?_)
  obtain ⟨⟨u, hu, q1⟩, rfl⟩ := q9
  cases q1
  refine xw_istore (ls' := [(7, _), (0, _), (1, _), (2, _), (3, _), (4, _), (5, _), (6, _)]) 8 dL_strings_6 rfl rfl rfl ?_
  refine xw_aload_n 9 dL_strings_8 rfl rfl rfl ?_
  refine xw_bipush 11 (nI 6) dL_strings_9 rfl (by decide) ?_
  refine xw_ialv (j := 6) 12 dL_strings_11 rfl (lT_n) (rfl) (by decide) (by decide) (N.v6 I) ?_
  refine xw_aload 14 dL_strings_12 rfl rfl rfl ?_
  refine xw_aload_n 15 dL_strings_14 rfl rfl rfl ?_
  refine xw_bipush 17 (nI 7) dL_strings_15 rfl (by decide) ?_
  refine xw_ialv (j := 7) 18 dL_strings_17 rfl (lT_n) (rfl) (by decide) (by decide) (N.v7 I) ?_
  refine xw_iconst 19 (nI 1) dL_strings_18 rfl (xofI 1) ?_
  refine xw_isub 20 dL_strings_19 rfl ?_
  rw [pk_sub hK1]
  refine xw_ialv (j := zI w 7 - 1) 21 dL_strings_20 rfl (lT_s) (rfl) (by omega) (by omega) (hst) ?_
  refine xw_isub 22 dL_strings_21 rfl ?_
  rw [pk_sub hb, hz]
  refine xw_istore (ls' := [(8, _), (7, _), (0, _), (1, _), (2, _), (3, _), (4, _), (5, _), (6, _)]) 24 dL_strings_22 rfl rfl rfl ?_
  refine xw_iconst 25 (nI 1) dL_strings_24 rfl (xofI 1) ?_
  refine xw_iload_n 26 dL_strings_25 rfl rfl ?_
  refine xw_bipush 28 (nI 12) dL_strings_26 rfl (by decide) ?_
  refine xw_lSQ 31 dL_strings_28 rfl ok_L_at s_L_24 (S_L_atQ (by decide) (by decide)) (lAt_nt) rfl rfl rfl rfl rfl rfl rfl rfl (fun ov9 hp9 q9 => ?_)
  obtain ⟨⟨k, hk, q1⟩, rfl⟩ := q9
  cases q1
  refine xw_iadd 32 dL_strings_31 rfl ?_
  rw [nI_add]
  refine xw_istore (ls' := [(9, _), (8, _), (7, _), (0, _), (1, _), (2, _), (3, _), (4, _), (5, _), (6, _)]) 34 dL_strings_32 rfl rfl rfl ?_
  have s270 := st270 (G := G) (x := x) (sv := sv) (co := co) (sx := sx) (J := J) (a0 := a0) (b0 := b0) (mm := 1 + k) hq hm N L hu (by omega) (by omega) hl
  by_cases g1 : u < 6
  · by_cases g2 : zI w 6 + (1 + k) ≤ 240
    · by_cases g3 : zlen w (zI w 7 - 1) + (1 + k) ≤ zI w 2
      · refine xw_iload 36 dL_strings_34 rfl rfl ?_
        refine xw_bipush 38 (nI 6) dL_strings_36 rfl (by decide) ?_
        refine xw_icmp_ge 270 41 dL_strings_38 rfl rfl (fun h38 => absurd h38 (nI_ge g1 (by omega))) (fun h38 => ?_)
        refine xw_aload_n 42 dL_strings_41 rfl rfl rfl ?_
        refine xw_bipush 44 (nI 6) dL_strings_42 rfl (by decide) ?_
        refine xw_ialv (j := 6) 45 dL_strings_44 rfl (lT_n) (rfl) (by decide) (by decide) (N.v6 I) ?_
        refine xw_iload 47 dL_strings_45 rfl rfl ?_
        refine xw_iadd 48 dL_strings_47 rfl ?_
        rw [nI_add]
        refine xw_sipush 51 (nI 240) dL_strings_48 rfl (by decide) ?_
        refine xw_icmp_gt 270 54 dL_strings_51 rfl rfl (fun h51 => absurd h51 (nI_nlt g2 (by omega))) (fun h51 => ?_)
        refine xw_iload 56 dL_strings_54 rfl rfl ?_
        refine xw_iload 58 dL_strings_56 rfl rfl ?_
        refine xw_iadd 59 dL_strings_58 rfl ?_
        rw [nI_add]
        refine xw_aload_n 60 dL_strings_59 rfl rfl rfl ?_
        refine xw_iconst 61 (nI 4) dL_strings_60 rfl (xofI 4) ?_
        refine xw_ialv (j := 4) 62 dL_strings_61 rfl (lT_n) (rfl) (by decide) (by decide) (N.v4 I) ?_
        refine xw_icmp_gt 270 65 dL_strings_62 rfl rfl (fun h62 => absurd h62 (nI_nlt g3 (by omega))) (fun h62 => ?_)
        refine xw_iload_n 66 dL_strings_65 rfl rfl ?_
        refine xw_iconst 67 (nI 5) dL_strings_66 rfl (xofI 5) ?_
        refine xw_ishr 68 dL_strings_67 rfl ?_
        refine xw_bipush 70 (nI 6) dL_strings_68 rfl (by decide) ?_
        refine xw_lSQ 73 dL_strings_70 rfl ok_L_at s_L_24 (S_L_atQ (by decide) (by decide)) (lAt_nt) rfl rfl rfl rfl rfl rfl rfl rfl (fun ov9 hp9 q9 => ?_)
        obtain ⟨⟨c, hc, q1⟩, rfl⟩ := q9
        cases q1
        refine xw_istore (ls' := [(10, _), (9, _), (8, _), (7, _), (0, _), (1, _), (2, _), (3, _), (4, _), (5, _), (6, _)]) 75 dL_strings_73 rfl rfl rfl ?_
        exact xW.pick [0, 1, 2, 3, 4, 5, 6, 7, 8, 9, 10] rfl (stT hq hm N L g1 hc (by omega) (by omega) g2 g3)
      · refine xw_iload 36 dL_strings_34 rfl rfl ?_
        refine xw_bipush 38 (nI 6) dL_strings_36 rfl (by decide) ?_
        refine xw_icmp_ge 270 41 dL_strings_38 rfl rfl (fun h38 => absurd h38 (nI_ge g1 (by omega))) (fun h38 => ?_)
        refine xw_aload_n 42 dL_strings_41 rfl rfl rfl ?_
        refine xw_bipush 44 (nI 6) dL_strings_42 rfl (by decide) ?_
        refine xw_ialv (j := 6) 45 dL_strings_44 rfl (lT_n) (rfl) (by decide) (by decide) (N.v6 I) ?_
        refine xw_iload 47 dL_strings_45 rfl rfl ?_
        refine xw_iadd 48 dL_strings_47 rfl ?_
        rw [nI_add]
        refine xw_sipush 51 (nI 240) dL_strings_48 rfl (by decide) ?_
        refine xw_icmp_gt 270 54 dL_strings_51 rfl rfl (fun h51 => absurd h51 (nI_nlt g2 (by omega))) (fun h51 => ?_)
        refine xw_iload 56 dL_strings_54 rfl rfl ?_
        refine xw_iload 58 dL_strings_56 rfl rfl ?_
        refine xw_iadd 59 dL_strings_58 rfl ?_
        rw [nI_add]
        refine xw_aload_n 60 dL_strings_59 rfl rfl rfl ?_
        refine xw_iconst 61 (nI 4) dL_strings_60 rfl (xofI 4) ?_
        refine xw_ialv (j := 4) 62 dL_strings_61 rfl (lT_n) (rfl) (by decide) (by decide) (N.v4 I) ?_
        refine xw_icmp_gt 270 65 dL_strings_62 rfl rfl (fun h62 => ?_) (fun h62 => absurd (nI_lt (by omega) (by omega)) h62)
        exact xW.pick [2, 1, 0, 3, 4, 5, 6, 7, 8, 9] rfl (s270)
    · refine xw_iload 36 dL_strings_34 rfl rfl ?_
      refine xw_bipush 38 (nI 6) dL_strings_36 rfl (by decide) ?_
      refine xw_icmp_ge 270 41 dL_strings_38 rfl rfl (fun h38 => absurd h38 (nI_ge g1 (by omega))) (fun h38 => ?_)
      refine xw_aload_n 42 dL_strings_41 rfl rfl rfl ?_
      refine xw_bipush 44 (nI 6) dL_strings_42 rfl (by decide) ?_
      refine xw_ialv (j := 6) 45 dL_strings_44 rfl (lT_n) (rfl) (by decide) (by decide) (N.v6 I) ?_
      refine xw_iload 47 dL_strings_45 rfl rfl ?_
      refine xw_iadd 48 dL_strings_47 rfl ?_
      rw [nI_add]
      refine xw_sipush 51 (nI 240) dL_strings_48 rfl (by decide) ?_
      refine xw_icmp_gt 270 54 dL_strings_51 rfl rfl (fun h51 => ?_) (fun h51 => absurd (nI_lt (by omega) (by omega)) h51)
      exact xW.pick [2, 1, 0, 3, 4, 5, 6, 7, 8, 9] rfl (s270)
  · refine xw_iload 36 dL_strings_34 rfl rfl ?_
    refine xw_bipush 38 (nI 6) dL_strings_36 rfl (by decide) ?_
    refine xw_icmp_ge 270 41 dL_strings_38 rfl rfl (fun h38 => ?_) (fun h38 => absurd (nI_le (by omega) (by omega)) h38)
    exact xW.pick [2, 1, 0, 3, 4, 5, 6, 7, 8, 9] rfl (s270)
end P51
/-! ===== the law ===== -/
section P51b
variable {G : xG}
theorem lw_loop (S : xSta G) (h15 : (xgr G 0).1 ≤ 260) : ∀ (t i : Nat) (s : xCS) (sx : xSx) (n ch be st : Nat → Int32) (J : List xE), i + t = 36 → LR s n ch be st → xW G L_law (fun o _ => o = .inl (some (.int 1))) 37 [(6, .int (nI i)), (0, .retAddr 0), (1, .ref 0), (2, .ref 71), (3, .ref 72), (4, .ref 73), (5, .ref 74)] [] (cHp s sx (lT n ch be st J)) 0 (t * 800) (t * 4800) := by
  intro t
  induction t with
  | zero =>
    intro i s sx n ch be st J hi R
    obtain rfl : i = 36 := by omega
    refine xw_iload 39 dL_law_37 rfl rfl ?_
    refine xw_bipush 41 (nI 36) dL_law_39 rfl (by decide) ?_
    refine xw_icmp_ge 155 44 dL_law_41 rfl rfl (fun h41 => ?_) (fun h41 => absurd (by decide) h41)
    refine xw_iconst 156 (nI 1) dL_law_155 rfl (xofI 1) ?_
    exact xw_zreturn dL_law_156 rfl (Or.inr rfl) (rfl)
  | succ t ih =>
    intro i s sx n ch be st J hi R
    rw [show (t + 1) * 800 = t * 800 + 800 by omega, show (t + 1) * 4800 = t * 4800 + 4800 by omega]
    have s127 : ∀ (s : xCS) (sx : xSx) (n ch be st : Nat → Int32) (J : List xE), LR s n ch be st → xW G L_law (fun o _ => o = .inl (some (.int 1))) 127 [(6, .int (nI i)), (0, .retAddr 0), (1, .ref 0), (2, .ref 71), (3, .ref 72), (4, .ref 73), (5, .ref 74)] [.int (nI 1)] (cHp s sx (lT n ch be st J)) 0 (t * 800 + 714) (t * 4800 + 4284) := by
      intro s sx n ch be st J R
      have ih := ih (i + 1) s sx n ch be st J (by omega) R
      obtain ⟨hq, hm, h0, N, I, C, B, S9, U⟩ := R
      refine xw_istore (ls' := [(10, _), (6, _), (0, _), (1, _), (2, _), (3, _), (4, _), (5, _)]) 129 dL_law_127 rfl rfl rfl ?_
      refine xw_iload 131 dL_law_129 rfl rfl ?_
      refine xw_if_eq 147 134 dL_law_131 rfl rfl (fun h131 => absurd h131 (by decide)) (fun h131 => ?_)
      refine xw_aload_n 135 dL_law_134 rfl rfl rfl ?_
      refine xw_aload_n 136 dL_law_135 rfl rfl rfl ?_
      refine xw_aload_n 137 dL_law_136 rfl rfl rfl ?_
      refine xw_aload 139 dL_law_137 rfl rfl rfl ?_
      refine xw_aload 141 dL_law_139 rfl rfl rfl ?_
      refine xw_lS 144 dL_law_141 rfl ok_L_agree s_L_107 (S_L_agree I N C B S9 U) rfl rfl rfl rfl rfl rfl rfl rfl ?_
      refine xw_if_ne 149 147 dL_law_144 rfl rfl (fun h144 => ?_) (fun h144 => absurd h144 (by decide))
      refine xw_iinc (ls' := [(6, _), (10, _), (0, _), (1, _), (2, _), (3, _), (4, _), (5, _)]) 152 _ dL_law_149 rfl rfl (xnI_inc _) rfl rfl ?_
      refine xw_goto 37 dL_law_152 rfl ?_
      exact xW.pick [0, 2, 3, 4, 5, 6, 7] rfl (ih)
    obtain ⟨w, sv, q, m, ln, co⟩ := s
    obtain ⟨hq, hm, h0, N, L⟩ := R
    dsimp only at hq hm h0 N L
    subst h0
    refine xW.cast (hp' := (bHp w sv (nI q) (nI m) (nI 0) co sx (lT n ch be st J))) rfl rfl rfl ?_
    have s103 : ∀ a y : Int32, xW G L_law (fun o _ => o = .inl (some (.int 1))) 103 [(8, .int y), (6, .int (nI i)), (0, .retAddr 0), (1, .ref 0), (2, .ref 71), (3, .ref 72), (4, .ref 73), (5, .ref 74)] [.int a, .ref 0] (bHp w sv (nI q) (nI m) (nI 0) co sx (lT n ch be st J)) 0 (t * 800 + 800) (t * 4800 + 4800) := by
      intro a y
      refine xw_iload 105 dL_law_103 rfl rfl ?_
      refine xw_aload_n 106 dL_law_105 rfl rfl rfl ?_
      refine xw_aload_n 107 dL_law_106 rfl rfl rfl ?_
      refine xw_lSQ 110 dL_law_107 rfl ok_L_shop s_L_100 (S_L_shop S hq hm N L) (lwQ_nt) rfl rfl rfl rfl rfl rfl rfl rfl (fun ov9 hp9 q9 => ?_)
      obtain ⟨q1, s2, sx2, n2, ch2, be2, st2, J2, R2, rfl⟩ := q9
      cases q1
      refine xw_goto 127 dL_law_110 rfl ?_
      exact xW.pick [1, 2, 3, 4, 5, 6, 7] rfl (xW.less (by omega) (by omega) (s127 s2 sx2 n2 ch2 be2 st2 J2 R2))
    have s90 : ∀ a y : Int32, xW G L_law (fun o _ => o = .inl (some (.int 1))) 90 [(7, .int a), (8, .int y), (6, .int (nI i)), (0, .retAddr 0), (1, .ref 0), (2, .ref 71), (3, .ref 72), (4, .ref 73), (5, .ref 74)] [] (bHp w sv (nI q) (nI m) (nI 0) co sx (lT n ch be st J)) 0 (t * 800 + 800) (t * 4800 + 4800) := by
      intro a y
      refine xw_aload_n 91 dL_law_90 rfl rfl rfl ?_
      refine xw_iload 93 dL_law_91 rfl rfl ?_
      refine xw_iconst 94 (nI 4) dL_law_93 rfl (xofI 4) ?_
      refine xw_icmp_ge 101 97 dL_law_94 rfl rfl (fun h94 => ?_) (fun h94 => ?_)
      · refine xw_iload 103 dL_law_101 rfl rfl ?_
        exact xW.pick [1, 2, 3, 4, 5, 6, 7, 8] rfl (s103 _ y)
      · refine xw_iconst 98 (nI 0) dL_law_97 rfl (xofI 0) ?_
        refine xw_goto 103 dL_law_98 rfl ?_
        exact xW.pick [1, 2, 3, 4, 5, 6, 7, 8] rfl (s103 _ y)
    refine xw_iload 39 dL_law_37 rfl rfl ?_
    refine xw_bipush 41 (nI 36) dL_law_39 rfl (by decide) ?_
    refine xw_icmp_ge 155 44 dL_law_41 rfl rfl (fun h41 => absurd h41 (nI_ge (by omega) (by omega))) (fun h41 => ?_)
    refine xw_aload_n 45 dL_law_44 rfl rfl rfl ?_
    refine xw_iconst 46 (nI 2) dL_law_45 rfl (xofI 2) ?_
    refine xw_iload 48 dL_law_46 rfl rfl ?_
    refine xw_imul 49 dL_law_48 rfl ?_
    rw [pk_mul]
    refine xw_pS 52 dL_law_49 rfl ok_L_cell s_L_97 (S_L_cell h15 (by omega)) (rfl) rfl rfl rfl rfl rfl rfl ?_
    refine xw_istore (ls' := [(7, _), (6, _), (0, _), (1, _), (2, _), (3, _), (4, _), (5, _)]) 54 dL_law_52 rfl rfl rfl ?_
    refine xw_aload_n 55 dL_law_54 rfl rfl rfl ?_
    refine xw_iconst 56 (nI 2) dL_law_55 rfl (xofI 2) ?_
    refine xw_iload 58 dL_law_56 rfl rfl ?_
    refine xw_imul 59 dL_law_58 rfl ?_
    rw [pk_mul]
    refine xw_iconst 60 (nI 1) dL_law_59 rfl (xofI 1) ?_
    refine xw_iadd 61 dL_law_60 rfl ?_
    rw [nI_add]
    refine xw_pS 64 dL_law_61 rfl ok_L_cell s_L_97 (S_L_cell h15 (by omega)) (rfl) rfl rfl rfl rfl rfl rfl ?_
    refine xw_istore (ls' := [(8, _), (7, _), (6, _), (0, _), (1, _), (2, _), (3, _), (4, _), (5, _)]) 66 dL_law_64 rfl rfl rfl ?_
    refine xw_iload 68 dL_law_66 rfl rfl ?_
    refine xw_bipush 70 (nI 20) dL_law_68 rfl (by decide) ?_
    refine xw_ishr 71 dL_law_70 rfl ?_
    refine xw_bipush 73 (nI 10) dL_law_71 rfl (by decide) ?_
    refine xw_lSQ 76 dL_law_73 rfl ok_L_at s_L_24 (S_L_atQ (by decide) (by decide)) (lAt_nt) rfl rfl rfl rfl rfl rfl rfl rfl (fun ov9 hp9 q9 => ?_)
    obtain ⟨⟨u, hu, q1⟩, rfl⟩ := q9
    cases q1
    refine xw_istore (ls' := [(9, _), (8, _), (7, _), (6, _), (0, _), (1, _), (2, _), (3, _), (4, _), (5, _)]) 78 dL_law_76 rfl rfl rfl ?_
    refine xw_iload 80 dL_law_78 rfl rfl ?_
    refine xw_iconst 81 (nI 5) dL_law_80 rfl (xofI 5) ?_
    refine xw_icmp_lt 90 84 dL_law_81 rfl rfl (fun h81 => ?_) (fun h81 => ?_)
    · exact xW.pick [2, 1, 3, 4, 5, 6, 7, 8, 9] rfl (s90 _ _)
    · refine xw_iload 86 dL_law_84 rfl rfl ?_
      refine xw_iconst 87 (nI 3) dL_law_86 rfl (xofI 3) ?_
      refine xw_icmp_ge 113 90 dL_law_87 rfl rfl (fun h87 => ?_) (fun h87 => ?_)
      · refine xw_aload_n 114 dL_law_113 rfl rfl rfl ?_
        refine xw_iload 116 dL_law_114 rfl rfl ?_
        refine xw_iload 118 dL_law_116 rfl rfl ?_
        refine xw_aload_n 119 dL_law_118 rfl rfl rfl ?_
        refine xw_aload_n 120 dL_law_119 rfl rfl rfl ?_
        refine xw_aload 122 dL_law_120 rfl rfl rfl ?_
        refine xw_aload 124 dL_law_122 rfl rfl rfl ?_
        refine xw_lSQ 127 dL_law_124 rfl ok_L_strings s_L_103 (S_L_strings hq hm N L) (lwQ_nt) rfl rfl rfl rfl rfl rfl rfl rfl (fun ov9 hp9 q9 => ?_)
        obtain ⟨q1, s2, sx2, n2, ch2, be2, st2, J2, R2, rfl⟩ := q9
        cases q1
        exact xW.pick [3, 4, 5, 6, 7, 8, 9] rfl (xW.less (by omega) (by omega) (s127 s2 sx2 n2 ch2 be2 st2 J2 R2))
      · exact xW.pick [2, 1, 3, 4, 5, 6, 7, 8, 9] rfl (s90 _ _)
theorem xInv_ini : xInv zini := by
  unfold xInv xnn zI
  refine ⟨by decide +kernel, by decide +kernel, by decide +kernel, by decide +kernel, by decide +kernel, by decide +kernel, by decide +kernel, by decide +kernel, ?_, by decide +kernel, ?_, ?_, ?_⟩
  · intro k hk
    have h1 : (zini 7).toNatClampNeg = 1 := by decide +kernel
    rw [h1] at hk
    obtain rfl : k = 0 := by omega
    decide +kernel
  · intro k hk
    have h1 : (zini 7).toNatClampNeg = 1 := by decide +kernel
    omega
  · intro k hk
    have h1 : (zini 6).toNatClampNeg = 0 := by decide +kernel
    omega
  · intro r c hr hc
    have h1 : (zini 4).toNatClampNeg = 1 := by decide +kernel
    have h2 : (zini 5).toNatClampNeg = 1 := by decide +kernel
    rw [h1] at hr
    rw [h2] at hc
    obtain rfl : r = 0 := by omega
    obtain rfl : c = 0 := by omega
    decide +kernel
theorem lwN_ini : lwN zini 0 (lfresh (fun _ => 0)) :=
  ⟨by decide +kernel, by decide +kernel, by decide +kernel, by decide +kernel, by decide +kernel, by decide +kernel, by decide +kernel, by decide +kernel, by decide +kernel, by decide +kernel, by decide +kernel, by decide +kernel, by decide +kernel⟩
theorem lwA_ini : lwA zini (fun _ => 0) (fun _ => 0) (fun _ => 0) := by
  have z7 : zI zini 7 = 1 := by decide +kernel
  have z6 : zI zini 6 = 0 := by decide +kernel
  have z4 : zI zini 4 = 1 := by decide +kernel
  have z5 : zI zini 5 = 1 := by decide +kernel
  refine ⟨xInv_ini, fun r c hr hc => ?_, fun k hk => ?_, fun k hk => ?_, fun c hc => ?_⟩
  · rw [z4] at hr
    rw [z5] at hc
    obtain rfl : r = 0 := by omega
    obtain rfl : c = 0 := by omega
    decide +kernel
  · rw [z6] at hk
    omega
  · rw [z7] at hk
    obtain rfl : k = 0 := by omega
    decide +kernel
  · rw [z6, zini_0 (by omega), zini_0 (by omega), zini_0 (by omega)]
    rfl
theorem LR_ini {sv : Nat → Nat → Int32} {co : Nat → Int32} : LR (zini, sv, 0, 0, 0, co) (lfresh (fun _ => 0)) (fun _ => 0) (fun _ => 0) (fun _ => 0) :=
  ⟨(show 0 < 6 by decide), Nat.zero_le _, rfl, lwN_ini, lwA_ini⟩
theorem lw_ini (S : xSta G) (h15 : (xgr G 0).1 ≤ 260) : xW G L_law (fun o _ => o = .inl (some (.int 1))) 0 [(0, .retAddr 0)] [] [] 0 28875 176454 := by
  refine xw_new 3 dL_law_0 rfl n_L_19 (fun _ => rfl) rfl rfl ?_
  refine xw_dup 4 dL_law_3 rfl rfl ?_
  refine xw_iI (kc0 := 28804) (ks0 := 172914) 7 dL_law_4 rfl ok_B_init rfl rfl s_L_93 (S_B_init S) (by decide) rfl rfl rfl rfl rfl rfl ?_
  refine xw_astore_n (ls' := [(1, _), (0, _)]) 8 dL_law_7 rfl rfl rfl rfl ?_
  refine xw_bipush 10 (nI 28) dL_law_8 rfl (by decide) ?_
  refine xw_newarray_int 12 dL_law_10 rfl (rfl) (by decide) rfl rfl ?_
  refine xw_astore_n (ls' := [(2, _), (1, _), (0, _)]) 13 dL_law_12 rfl rfl rfl rfl ?_
  refine xw_bipush 15 (nI 12) dL_law_13 rfl (by decide) ?_
  refine xw_newarray_int 17 dL_law_15 rfl (rfl) (by decide) rfl rfl ?_
  refine xw_astore_n (ls' := [(3, _), (2, _), (1, _), (0, _)]) 18 dL_law_17 rfl rfl rfl rfl ?_
  refine xw_bipush 20 (nI 24) dL_law_18 rfl (by decide) ?_
  refine xw_newarray_int 22 dL_law_20 rfl (rfl) (by decide) rfl rfl ?_
  refine xw_astore (ls' := [(4, _), (3, _), (2, _), (1, _), (0, _)]) 24 dL_law_22 rfl rfl rfl rfl ?_
  refine xw_bipush 26 (nI 50) dL_law_24 rfl (by decide) ?_
  refine xw_newarray_int 28 dL_law_26 rfl (rfl) (by decide) rfl rfl ?_
  refine xw_astore (ls' := [(5, _), (4, _), (3, _), (2, _), (1, _), (0, _)]) 30 dL_law_28 rfl rfl rfl rfl ?_
  refine xw_aload_n 31 dL_law_30 rfl rfl rfl ?_
  refine xw_pSv 34 dL_law_31 rfl ok_L_fresh s_L_94 (S_L_fresh rfl) (rfl) rfl rfl rfl rfl rfl rfl ?_
  refine xw_iconst 35 (nI 0) dL_law_34 rfl (xofI 0) ?_
  refine xw_istore (ls' := [(6, _), (5, _), (4, _), (3, _), (2, _), (1, _), (0, _)]) 37 dL_law_35 rfl rfl rfl ?_
  refine xW.cast (hp' := cHp (zini, fun _ => zini, 0, 0, 0, (fun _ => 0)) (nI 1, nI 1, (fun _ => 0), (fun _ => 0)) (lT (lfresh (fun _ => 0)) (fun _ => 0) (fun _ => 0) (fun _ => 0) [])) rfl rfl rfl ?_
  exact xW.pick [0, 6, 5, 4, 3, 2, 1] rfl (lw_loop S h15 36 0 _ _ _ _ _ _ [] (by decide) LR_ini)
end P51b

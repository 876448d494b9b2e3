/-! ===== the model: the numbers that it tells ===== -/
theorem xct_add (f : Nat → Bool) (n : Nat) : ∀ m, xct f (n + m) = xct f n + xct (fun k => f (n + k)) m
  | 0 => rfl
  | m + 1 => by
    show xct f (n + m) + _ = xct f n + (xct (fun k => f (n + k)) m + _)
    rw [xct_add f n m, Nat.add_assoc]
    rfl
theorem xct_z {f : Nat → Bool} {n : Nat} (h : ∀ k, k < n → f k = false) : xct f n = 0 := by
  induction n with
  | zero => rfl
  | succ n ih => rw [xct_n (by rw [h n (by omega)]; decide), ih (fun k hk => h k (by omega))]
theorem xct_row {q : Nat → Bool} {C : Nat} (hC : C ≤ 12) : xct (fun k => decide (k < C) && q k) 12 = xct q C := by
  have e := xct_add (fun k => decide (k < C) && q k) C (12 - C)
  rw [show C + (12 - C) = 12 by omega] at e
  rw [e, xct_congr (q := q) (n := C) (fun k hk => by simp [hk]), xct_z (n := 12 - C) (fun k hk => by simp [show ¬ C + k < C by omega]), Nat.add_zero]
/-- cells counted in one row of 120, or row by row -/
theorem xct_grid {p : Nat → Nat → Bool} {R C : Nat} (hR : R ≤ 10) (hC : C ≤ 12) : xct (fun k => decide (k / 12 < R ∧ k % 12 < C) && p (k / 12) (k % 12)) 120 = xct2 p C R := by
  have h : ∀ r, r ≤ 10 → xct (fun k => decide (k / 12 < R ∧ k % 12 < C) && p (k / 12) (k % 12)) (r * 12) = xct2 p C (min r R) := by
    intro r
    induction r with
    | zero => intro _; rw [Nat.zero_min]; rfl
    | succ r ih =>
      intro hr
      rw [Nat.succ_mul, xct_add, ih (by omega)]
      by_cases h1 : r < R
      · rw [xct_congr (q := fun k => decide (k < C) && p r k) (n := 12) (fun k hk => by
          rw [show (r * 12 + k) / 12 = r by omega, show (r * 12 + k) % 12 = k by omega]
          simp [h1]), xct_row hC, show min r R = r by omega, show min (r + 1) R = r + 1 by omega]
        rfl
      · rw [xct_z (n := 12) (fun k hk => by
          rw [show (r * 12 + k) / 12 = r by omega]
          simp [h1]), show min r R = R by omega, show min (r + 1) R = R by omega]
        rfl
  have := h 10 (Nat.le_refl _)
  rw [show min 10 R = R by omega] at this
  exact this
theorem xocc_xct (f : Nat → Int32) (v : Int32) : ∀ n, xct (fun i => decide (f i = v)) n = xocc f v n
  | 0 => rfl
  | n + 1 => by
    unfold xct xocc
    rw [xocc_xct f v n]
    by_cases h : f n = v
    · rw [if_pos h, if_pos (decide_eq_true h)]
    · rw [if_neg h, if_neg (by simpa using h)]
section P41
variable {G : xG} {hp : List xE} {x : Nat} {z : Nat → Int32} {st : Int32} {mo : List Value}
theorem S_M_beadNow {b what : Nat} (O : hp[71]? = some (.inr (5, .ref 72 :: .int st :: mo))) (Z : hp[72]? = some (.inl (0, 435, .inl z))) (I : xInv z) (hb : b < zI z 6) (hw : what < 4) : xMet G M_beadNow [.ref 71, .int (nI b), .int (nI what)] hp x 0 0 (xRetV (.int (zbead z b what)) hp) := by
  have hA1 := I.iA.2.1
  have hA2 := I.iA.2.2
  have hS2 := I.iS.2.2
  have hR1 := I.iR.2.1
  have hR2 := I.iR.2.2
  have hC1 := I.iC.2.1
  have hC2 := I.iC.2.2
  have hM2 := I.iM.2.2
  have hK1 := I.iK.2.1
  have hK2 := I.iK.2.2
  have hs := I.str b
  have hx := S_M_isWrong (G := G) (x := x) (n := b) O Z I (by omega)
  rcases (show what = 0 ∨ what = 1 ∨ what = 2 ∨ what = 3 by omega) with rfl | rfl | rfl | rfl
  · show xMet _ _ _ _ _ _ _ (xRetV (.int (z (147 + b))) hp)
    refine xw_iload_n 1 dX5_beadNow_0 rfl rfl ?_
    refine xw_table [28, 39, 53] 59 dX5_beadNow_1 rfl rfl rfl ⟨fun _ => ?_, fun h => absurd h (by decide), fun h => absurd h (by decide), trivial⟩ (fun h => absurd h (by decide))
    refine xw_aload_n 29 dX5_beadNow_28 rfl rfl rfl ?_
    refine xw_get 32 dX5_beadNow_29 rfl f_X5_7 (O) rfl ?_
    refine xw_sipush 35 (nI 147) dX5_beadNow_32 rfl (by decide) ?_
    refine xw_iload_n 36 dX5_beadNow_35 rfl rfl ?_
    refine xw_iadd 37 dX5_beadNow_36 rfl ?_
    refine xw_iaload (j := _) 38 dX5_beadNow_37 rfl (Z) (nI_add _ _) (by omega) (by omega) ?_
    exact xw_ireturn dX5_beadNow_38 rfl (⟨rfl, rfl⟩)
  · show xMet _ _ _ _ _ _ _ (xRetV (.int (nI (if zwr z b = true then 1 else 0))) hp)
    refine xw_iload_n 1 dX5_beadNow_0 rfl rfl ?_
    refine xw_table [28, 39, 53] 59 dX5_beadNow_1 rfl rfl rfl ⟨fun h => absurd h (by decide), fun _ => ?_, fun h => absurd h (by decide), trivial⟩ (fun h => absurd h (by decide))
    refine xw_aload_n 40 dX5_beadNow_39 rfl rfl rfl ?_
    refine xw_iload_n 41 dX5_beadNow_40 rfl rfl ?_
    refine xw_pV 44 dX5_beadNow_41 rfl ok_M_isWrong s_X5_68 (hx) (rfl) (O) rfl rfl rfl rfl rfl rfl rfl ?_
    refine xw_if_eq 51 47 dX5_beadNow_44 rfl rfl (fun h44 => ?_) (fun h44 => ?_)
    · rw [if_neg (b0 h44)]
      refine xw_iconst 52 (nI 0) dX5_beadNow_51 rfl (xofI 0) ?_
      exact xw_ireturn dX5_beadNow_52 rfl (⟨rfl, rfl⟩)
    · rw [if_pos (b1 h44)]
      refine xw_iconst 48 (nI 1) dX5_beadNow_47 rfl (xofI 1) ?_
      refine xw_goto 52 dX5_beadNow_48 rfl ?_
      exact xw_ireturn dX5_beadNow_52 rfl (⟨rfl, rfl⟩)
  · show xMet _ _ _ _ _ _ _ (xRetV (.int (nI (zstr z b))) hp)
    refine xw_iload_n 1 dX5_beadNow_0 rfl rfl ?_
    refine xw_table [28, 39, 53] 59 dX5_beadNow_1 rfl rfl rfl ⟨fun h => absurd h (by decide), fun h => absurd h (by decide), fun _ => ?_, trivial⟩ (fun h => absurd h (by decide))
    refine xw_aload_n 54 dX5_beadNow_53 rfl rfl rfl ?_
    refine xw_iload_n 55 dX5_beadNow_54 rfl rfl ?_
    refine xw_pV 58 dX5_beadNow_55 rfl ok_M_stringOf s_X5_143 (S_M_stringOf O Z I (by omega)) (rfl) (O) rfl rfl rfl rfl rfl rfl rfl ?_
    exact xw_ireturn dX5_beadNow_58 rfl (⟨rfl, rfl⟩)
  · show xMet _ _ _ _ _ _ _ (xRetV (.int (nI b - z (387 + zstr z b))) hp)
    refine xw_iload_n 1 dX5_beadNow_0 rfl rfl ?_
    refine xw_table [28, 39, 53] 59 dX5_beadNow_1 rfl rfl rfl ⟨fun h => absurd h (by decide), fun h => absurd h (by decide), fun h => absurd h (by decide), trivial⟩ (fun _ => ?_)
    refine xw_iload_n 60 dX5_beadNow_59 rfl rfl ?_
    refine xw_aload_n 61 dX5_beadNow_60 rfl rfl rfl ?_
    refine xw_get 64 dX5_beadNow_61 rfl f_X5_7 (O) rfl ?_
    refine xw_sipush 67 (nI 387) dX5_beadNow_64 rfl (by decide) ?_
    refine xw_aload_n 68 dX5_beadNow_67 rfl rfl rfl ?_
    refine xw_iload_n 69 dX5_beadNow_68 rfl rfl ?_
    refine xw_pV 72 dX5_beadNow_69 rfl ok_M_stringOf s_X5_143 (S_M_stringOf O Z I (by omega)) (rfl) (O) rfl rfl rfl rfl rfl rfl rfl ?_
    refine xw_iadd 73 dX5_beadNow_72 rfl ?_
    refine xw_iaload (j := _) 74 dX5_beadNow_73 rfl (Z) (nI_add _ _) (by omega) (by omega) ?_
    refine xw_isub 75 dX5_beadNow_74 rfl ?_
    exact xw_ireturn dX5_beadNow_75 rfl (⟨rfl, rfl⟩)
theorem S_M_strandNow {s what : Nat} (O : hp[71]? = some (.inr (5, .ref 72 :: .int st :: mo))) (Z : hp[72]? = some (.inl (0, 435, .inl z))) (I : xInv z) (hs : s < zI z 7) (hw : what < 4) : xMet G M_strandNow [.ref 71, .int (nI s), .int (nI what)] hp x 0 0 (xRetV (.int (zstrand z s what)) hp) := by
  have hA1 := I.iA.2.1
  have hA2 := I.iA.2.2
  have hS2 := I.iS.2.2
  have hR1 := I.iR.2.1
  have hR2 := I.iR.2.2
  have hC1 := I.iC.2.1
  have hC2 := I.iC.2.2
  have hM2 := I.iM.2.2
  have hK1 := I.iK.2.1
  have hK2 := I.iK.2.2
  have hB := I.iB s hs
  have hE := I.el hs
  have hx := S_M_hides (G := G) (x := x) (n := zI z (387 + s)) O Z I (by omega)
  have hhd : zhd z (zI z (387 + s)) = zhid z s := rfl
  rcases (show what = 0 ∨ what = 1 ∨ what = 2 ∨ what = 3 by omega) with rfl | rfl | rfl | rfl
  · show xMet _ _ _ _ _ _ _ (xRetV (.int (z (387 + s))) hp)
    refine xw_aload_n 1 dX5_strandNow_0 rfl rfl rfl ?_
    refine xw_get 4 dX5_strandNow_1 rfl f_X5_7 (O) rfl ?_
    refine xw_sipush 7 (nI 387) dX5_strandNow_4 rfl (by decide) ?_
    refine xw_iload_n 8 dX5_strandNow_7 rfl rfl ?_
    refine xw_iadd 9 dX5_strandNow_8 rfl ?_
    refine xw_iaload (j := _) 10 dX5_strandNow_9 rfl (Z) (nI_add _ _) (by omega) (by omega) ?_
    refine xw_istore_n (ls' := [(3, _), (0, _), (1, _), (2, _)]) 11 dX5_strandNow_10 rfl rfl rfl ?_
    refine xw_iload_n 12 dX5_strandNow_11 rfl rfl ?_
    refine xw_table [40, 42, 50] 72 dX5_strandNow_12 rfl rfl rfl ⟨fun _ => ?_, fun h => absurd h (by decide), fun h => absurd h (by decide), trivial⟩ (fun h => absurd h (by decide))
    refine xw_iload_n 41 dX5_strandNow_40 rfl rfl ?_
    exact xw_ireturn dX5_strandNow_41 rfl (⟨rfl, rfl⟩)
  · show xMet _ _ _ _ _ _ _ (xRetV (.int (nI (zlen z s))) hp)
    refine xw_aload_n 1 dX5_strandNow_0 rfl rfl rfl ?_
    refine xw_get 4 dX5_strandNow_1 rfl f_X5_7 (O) rfl ?_
    refine xw_sipush 7 (nI 387) dX5_strandNow_4 rfl (by decide) ?_
    refine xw_iload_n 8 dX5_strandNow_7 rfl rfl ?_
    refine xw_iadd 9 dX5_strandNow_8 rfl ?_
    refine xw_ialv (j := _) 10 dX5_strandNow_9 rfl (Z) (nI_add _ _) (by omega) (by omega) (hB.1) ?_
    refine xw_istore_n (ls' := [(3, _), (0, _), (1, _), (2, _)]) 11 dX5_strandNow_10 rfl rfl rfl ?_
    refine xw_iload_n 12 dX5_strandNow_11 rfl rfl ?_
    refine xw_table [40, 42, 50] 72 dX5_strandNow_12 rfl rfl rfl ⟨fun h => absurd h (by decide), fun _ => ?_, fun h => absurd h (by decide), trivial⟩ (fun h => absurd h (by decide))
    refine xw_aload_n 43 dX5_strandNow_42 rfl rfl rfl ?_
    refine xw_iload_n 44 dX5_strandNow_43 rfl rfl ?_
    refine xw_pV 47 dX5_strandNow_44 rfl ok_M_endOf s_X5_146 (S_M_endOf O Z I hs) (rfl) (O) rfl rfl rfl rfl rfl rfl rfl ?_
    refine xw_iload_n 48 dX5_strandNow_47 rfl rfl ?_
    refine xw_isub 49 dX5_strandNow_48 rfl ?_
    rw [pk_sub hE.1]
    exact xw_ireturn dX5_strandNow_49 rfl (⟨rfl, rfl⟩)
  · show xMet _ _ _ _ _ _ _ (xRetV (.int (if s = 0 then -1 else nI (if zhid z s = true then 1 else 0))) hp)
    refine xw_aload_n 1 dX5_strandNow_0 rfl rfl rfl ?_
    refine xw_get 4 dX5_strandNow_1 rfl f_X5_7 (O) rfl ?_
    refine xw_sipush 7 (nI 387) dX5_strandNow_4 rfl (by decide) ?_
    refine xw_iload_n 8 dX5_strandNow_7 rfl rfl ?_
    refine xw_iadd 9 dX5_strandNow_8 rfl ?_
    refine xw_ialv (j := _) 10 dX5_strandNow_9 rfl (Z) (nI_add _ _) (by omega) (by omega) (hB.1) ?_
    refine xw_istore_n (ls' := [(3, _), (0, _), (1, _), (2, _)]) 11 dX5_strandNow_10 rfl rfl rfl ?_
    refine xw_iload_n 12 dX5_strandNow_11 rfl rfl ?_
    refine xw_table [40, 42, 50] 72 dX5_strandNow_12 rfl rfl rfl ⟨fun h => absurd h (by decide), fun h => absurd h (by decide), fun _ => ?_, trivial⟩ (fun h => absurd h (by decide))
    refine xw_iload_n 51 dX5_strandNow_50 rfl rfl ?_
    refine xw_if_ne 58 54 dX5_strandNow_51 rfl rfl (fun h51 => ?_) (fun h51 => ?_)
    · rw [if_neg (show ¬ s = 0 from fun q => h51 (by rw [q]; rfl))]
      refine xw_aload_n 59 dX5_strandNow_58 rfl rfl rfl ?_
      refine xw_iload_n 60 dX5_strandNow_59 rfl rfl ?_
      refine xw_pV 63 dX5_strandNow_60 rfl ok_M_hides s_X5_137 (hx) (rfl) (O) rfl rfl rfl rfl rfl rfl rfl ?_
      refine xw_if_eq 70 66 dX5_strandNow_63 rfl rfl (fun h63 => ?_) (fun h63 => ?_)
      · rw [← hhd, if_neg (b0 h63)]
        refine xw_iconst 71 (nI 0) dX5_strandNow_70 rfl (xofI 0) ?_
        exact xw_ireturn dX5_strandNow_71 rfl (⟨rfl, rfl⟩)
      · rw [← hhd, if_pos (b1 h63)]
        refine xw_iconst 67 (nI 1) dX5_strandNow_66 rfl (xofI 1) ?_
        refine xw_goto 71 dX5_strandNow_67 rfl ?_
        exact xw_ireturn dX5_strandNow_71 rfl (⟨rfl, rfl⟩)
    · rw [if_pos (show s = 0 from (nI_eq (b := 0) (by omega) (by decide)).mp h51)]
      refine xw_iconst 55 (-1) dX5_strandNow_54 rfl rfl ?_
      refine xw_goto 71 dX5_strandNow_55 rfl ?_
      exact xw_ireturn dX5_strandNow_71 rfl (⟨rfl, rfl⟩)
  · show xMet _ _ _ _ _ _ _ (xRetV (.int (nI (xctr (zwr z) (zI z (387 + s)) (zend z s)))) hp)
    refine xw_aload_n 1 dX5_strandNow_0 rfl rfl rfl ?_
    refine xw_get 4 dX5_strandNow_1 rfl f_X5_7 (O) rfl ?_
    refine xw_sipush 7 (nI 387) dX5_strandNow_4 rfl (by decide) ?_
    refine xw_iload_n 8 dX5_strandNow_7 rfl rfl ?_
    refine xw_iadd 9 dX5_strandNow_8 rfl ?_
    refine xw_ialv (j := _) 10 dX5_strandNow_9 rfl (Z) (nI_add _ _) (by omega) (by omega) (hB.1) ?_
    refine xw_istore_n (ls' := [(3, _), (0, _), (1, _), (2, _)]) 11 dX5_strandNow_10 rfl rfl rfl ?_
    refine xw_iload_n 12 dX5_strandNow_11 rfl rfl ?_
    refine xw_table [40, 42, 50] 72 dX5_strandNow_12 rfl rfl rfl ⟨fun h => absurd h (by decide), fun h => absurd h (by decide), fun h => absurd h (by decide), trivial⟩ (fun _ => ?_)
    refine xw_aload_n 73 dX5_strandNow_72 rfl rfl rfl ?_
    refine xw_iload_n 74 dX5_strandNow_73 rfl rfl ?_
    refine xw_aload_n 75 dX5_strandNow_74 rfl rfl rfl ?_
    refine xw_iload_n 76 dX5_strandNow_75 rfl rfl ?_
    refine xw_pV 79 dX5_strandNow_76 rfl ok_M_endOf s_X5_146 (S_M_endOf O Z I hs) (rfl) (O) rfl rfl rfl rfl rfl rfl rfl ?_
    refine xw_pV 82 dX5_strandNow_79 rfl ok_M_wrongFrom s_X5_72 (S_M_wrongFrom O Z I (by omega) (by omega)) (rfl) (O) rfl rfl rfl rfl rfl rfl rfl ?_
    exact xw_ireturn dX5_strandNow_82 rfl (⟨rfl, rfl⟩)
theorem S_M_strung {c : Nat} {b : Bool} (O : hp[71]? = some (.inr (5, .ref 72 :: .int st :: mo))) (Z : hp[72]? = some (.inl (0, 435, .inl z))) (I : xInv z) : xMet G M_strung [.ref 71, .int (nI c), .int (nI (xb01 b))] hp x 0 0 (xRetV (.int (nI (xct (fun n => decide (z (147 + n) = nI c) && (!b || zwr z n)) (zI z 6)))) hp) := by
  have hA1 := I.iA.2.1
  have hA2 := I.iA.2.2
  have hS2 := I.iS.2.2
  have hR1 := I.iR.2.1
  have hR2 := I.iR.2.2
  have hC1 := I.iC.2.1
  have hC2 := I.iC.2.2
  have hM2 := I.iM.2.2
  have hK1 := I.iK.2.1
  have hK2 := I.iK.2.2
  have loop : ∀ (t i : Nat), i + t = zI z 6 → xW G M_strung (xRetV (.int (nI (xct (fun n => decide (z (147 + n) = nI c) && (!b || zwr z n)) (zI z 6)))) hp) 5 [(4, .int (nI i)), (3, .int (nI (xct (fun n => decide (z (147 + n) = nI c) && (!b || zwr z n)) i))), (0, .ref 71), (1, .int (nI c)), (2, .int (nI (xb01 b)))] [] hp x 0 0 := by
    intro t
    induction t with
    | zero =>
      intro i hi
      have e1 : i = zI z 6 := by omega
      refine xw_iload 7 dX5_strung_5 rfl rfl ?_
      refine xw_aload_n 8 dX5_strung_7 rfl rfl rfl ?_
      refine xw_get 11 dX5_strung_8 rfl f_X5_7 (O) rfl ?_
      refine xw_bipush 13 (nI 6) dX5_strung_11 rfl (by decide) ?_
      refine xw_ialv (j := 6) 14 dX5_strung_13 rfl (Z) (rfl) (by decide) (by decide) (I.iM.1) ?_
      refine xw_icmp_ge 59 17 dX5_strung_14 rfl rfl (fun h14 => ?_) (fun h14 => absurd (nI_le (by omega) (by omega)) h14)
      refine xw_iload_n 60 dX5_strung_59 rfl rfl ?_
      exact xw_ireturn dX5_strung_60 rfl (by rw [e1]; exact ⟨rfl, rfl⟩)
    | succ t ih =>
      intro i hi
      have ih := ih (i + 1) (by omega)
      refine xw_iload 7 dX5_strung_5 rfl rfl ?_
      refine xw_aload_n 8 dX5_strung_7 rfl rfl rfl ?_
      refine xw_get 11 dX5_strung_8 rfl f_X5_7 (O) rfl ?_
      refine xw_bipush 13 (nI 6) dX5_strung_11 rfl (by decide) ?_
      refine xw_ialv (j := 6) 14 dX5_strung_13 rfl (Z) (rfl) (by decide) (by decide) (I.iM.1) ?_
      refine xw_icmp_ge 59 17 dX5_strung_14 rfl rfl (fun h14 => absurd h14 (nI_ge (by omega) (by omega))) (fun h14 => ?_)
      refine xw_iload_n 18 dX5_strung_17 rfl rfl ?_
      refine xw_aload_n 19 dX5_strung_18 rfl rfl rfl ?_
      refine xw_get 22 dX5_strung_19 rfl f_X5_7 (O) rfl ?_
      refine xw_sipush 25 (nI 147) dX5_strung_22 rfl (by decide) ?_
      refine xw_iload 27 dX5_strung_25 rfl rfl ?_
      refine xw_iadd 28 dX5_strung_27 rfl ?_
      refine xw_iaload (j := _) 29 dX5_strung_28 rfl (Z) (nI_add _ _) (by omega) (by omega) ?_
      refine xw_iload_n 30 dX5_strung_29 rfl rfl ?_
      refine xw_icmp_ne 50 33 dX5_strung_30 rfl rfl (fun h30 => ?_) (fun h30 => ?_)
      · refine xw_iconst 51 (nI 0) dX5_strung_50 rfl (xofI 0) ?_
        refine xw_iadd 52 dX5_strung_51 rfl ?_
        rw [nI_add]
        refine xw_istore_n (ls' := [(3, _), (4, _), (0, _), (1, _), (2, _)]) 53 dX5_strung_52 rfl rfl rfl ?_
        refine xw_iinc (ls' := [(4, _), (3, _), (0, _), (1, _), (2, _)]) 56 _ dX5_strung_53 rfl rfl (xnI_inc _) rfl rfl ?_
        refine xw_goto 5 dX5_strung_56 rfl ?_
        have e1 : xct (fun n => decide (z (147 + n) = nI c) && (!b || zwr z n)) (i + 1) = xct (fun n => decide (z (147 + n) = nI c) && (!b || zwr z n)) i := xct_n (by simp [h30])
        rw [e1] at ih
        exact xW.pick [0, 1, 2, 3, 4] rfl (ih)
      · refine xw_iload_n 34 dX5_strung_33 rfl rfl ?_
        refine xw_if_eq 46 37 dX5_strung_34 rfl rfl (fun h34 => ?_) (fun h34 => ?_)
        · refine xw_iconst 47 (nI 1) dX5_strung_46 rfl (xofI 1) ?_
          refine xw_goto 51 dX5_strung_47 rfl ?_
          refine xw_iadd 52 dX5_strung_51 rfl ?_
          rw [nI_add]
          refine xw_istore_n (ls' := [(3, _), (4, _), (0, _), (1, _), (2, _)]) 53 dX5_strung_52 rfl rfl rfl ?_
          refine xw_iinc (ls' := [(4, _), (3, _), (0, _), (1, _), (2, _)]) 56 _ dX5_strung_53 rfl rfl (xnI_inc _) rfl rfl ?_
          refine xw_goto 5 dX5_strung_56 rfl ?_
          have hb : b = false := by cases b with | false => rfl | true => exact absurd h34 (by decide)
          have e1 : xct (fun n => decide (z (147 + n) = nI c) && (!b || zwr z n)) (i + 1) = xct (fun n => decide (z (147 + n) = nI c) && (!b || zwr z n)) i + 1 := xct_y (by simp [h30, hb])
          rw [e1] at ih
          exact xW.pick [0, 1, 2, 3, 4] rfl (ih)
        · refine xw_aload_n 38 dX5_strung_37 rfl rfl rfl ?_
          refine xw_iload 40 dX5_strung_38 rfl rfl ?_
          refine xw_pV 43 dX5_strung_40 rfl ok_M_isWrong s_X5_68 (S_M_isWrong O Z I (by omega)) (rfl) (O) rfl rfl rfl rfl rfl rfl rfl ?_
          refine xw_if_eq 50 46 dX5_strung_43 rfl rfl (fun h43 => ?_) (fun h43 => ?_)
          · refine xw_iconst 51 (nI 0) dX5_strung_50 rfl (xofI 0) ?_
            refine xw_iadd 52 dX5_strung_51 rfl ?_
            rw [nI_add]
            refine xw_istore_n (ls' := [(3, _), (4, _), (0, _), (1, _), (2, _)]) 53 dX5_strung_52 rfl rfl rfl ?_
            refine xw_iinc (ls' := [(4, _), (3, _), (0, _), (1, _), (2, _)]) 56 _ dX5_strung_53 rfl rfl (xnI_inc _) rfl rfl ?_
            refine xw_goto 5 dX5_strung_56 rfl ?_
            have hz := b0 h43
            have hb : b = true := by cases b with | true => rfl | false => exact absurd rfl h34
            have e1 : xct (fun n => decide (z (147 + n) = nI c) && (!b || zwr z n)) (i + 1) = xct (fun n => decide (z (147 + n) = nI c) && (!b || zwr z n)) i := xct_n (by simp [hb, hz])
            rw [e1] at ih
            exact xW.pick [0, 1, 2, 3, 4] rfl (ih)
          · refine xw_iconst 47 (nI 1) dX5_strung_46 rfl (xofI 1) ?_
            refine xw_goto 51 dX5_strung_47 rfl ?_
            refine xw_iadd 52 dX5_strung_51 rfl ?_
            rw [nI_add]
            refine xw_istore_n (ls' := [(3, _), (4, _), (0, _), (1, _), (2, _)]) 53 dX5_strung_52 rfl rfl rfl ?_
            refine xw_iinc (ls' := [(4, _), (3, _), (0, _), (1, _), (2, _)]) 56 _ dX5_strung_53 rfl rfl (xnI_inc _) rfl rfl ?_
            refine xw_goto 5 dX5_strung_56 rfl ?_
            have hz := b1 h43
            have e1 : xct (fun n => decide (z (147 + n) = nI c) && (!b || zwr z n)) (i + 1) = xct (fun n => decide (z (147 + n) = nI c) && (!b || zwr z n)) i + 1 := xct_y (by simp [h30, hz])
            rw [e1] at ih
            exact xW.pick [0, 1, 2, 3, 4] rfl (ih)
  refine xw_iconst 1 (nI 0) dX5_strung_0 rfl (xofI 0) ?_
  refine xw_istore_n (ls' := [(3, _), (0, _), (1, _), (2, _)]) 2 dX5_strung_1 rfl rfl rfl ?_
  refine xw_iconst 3 (nI 0) dX5_strung_2 rfl (xofI 0) ?_
  refine xw_istore (ls' := [(4, _), (3, _), (0, _), (1, _), (2, _)]) 5 dX5_strung_3 rfl rfl rfl ?_
  exact loop (zI z 6) 0 (by omega)
theorem S_M_cellsOf {c : Nat} (O : hp[71]? = some (.inr (5, .ref 72 :: .int st :: mo))) (Z : hp[72]? = some (.inl (0, 435, .inl z))) (I : xInv z) : xMet G M_cellsOf [.ref 71, .int (nI c)] hp x 0 0 (xRetV (.int (nI (xct2 (fun r d => decide (z (27 + (r * 12 + d)) = nI c)) (zI z 5) (zI z 4)))) hp) := by
  have hA1 := I.iA.2.1
  have hA2 := I.iA.2.2
  have hS2 := I.iS.2.2
  have hR1 := I.iR.2.1
  have hR2 := I.iR.2.2
  have hC1 := I.iC.2.1
  have hC2 := I.iC.2.2
  have hM2 := I.iM.2.2
  have hK1 := I.iK.2.1
  have hK2 := I.iK.2.2
  rw [← xct_grid (p := fun r d => decide (z (27 + (r * 12 + d)) = nI c)) hR2 hC2]
  have loop : ∀ (t i : Nat), i + t = 120 → xW G M_cellsOf (xRetV (.int (nI (xct (fun k => decide (k / 12 < zI z 4 ∧ k % 12 < zI z 5) && decide (z (27 + (k / 12 * 12 + k % 12)) = nI c)) 120))) hp) 4 [(3, .int (nI i)), (2, .int (nI (xct (fun k => decide (k / 12 < zI z 4 ∧ k % 12 < zI z 5) && decide (z (27 + (k / 12 * 12 + k % 12)) = nI c)) i))), (0, .ref 71), (1, .int (nI c))] [] hp x 0 0 := by
    intro t
    induction t with
    | zero =>
      intro i hi
      have e1 : i = 120 := by omega
      subst e1
      refine xw_iload_n 5 dX5_cellsOf_4 rfl rfl ?_
      refine xw_bipush 7 (nI 120) dX5_cellsOf_5 rfl (by decide) ?_
      refine xw_icmp_ge 52 10 dX5_cellsOf_7 rfl rfl (fun h7 => ?_) (fun h7 => absurd (nI_le (Nat.le_refl _) (by decide)) h7)
      refine xw_iload_n 53 dX5_cellsOf_52 rfl rfl ?_
      exact xw_ireturn dX5_cellsOf_53 rfl (⟨rfl, rfl⟩)
    | succ t ih =>
      intro i hi
      have ih := ih (i + 1) (by omega)
      have ei : z (27 + i) = z (27 + (i / 12 * 12 + i % 12)) := congrArg z (by omega)
      refine xw_iload_n 5 dX5_cellsOf_4 rfl rfl ?_
      refine xw_bipush 7 (nI 120) dX5_cellsOf_5 rfl (by decide) ?_
      refine xw_icmp_ge 52 10 dX5_cellsOf_7 rfl rfl (fun h7 => absurd h7 (nI_ge (by omega) (by omega))) (fun h7 => ?_)
      refine xw_iload_n 11 dX5_cellsOf_10 rfl rfl ?_
      refine xw_aload_n 12 dX5_cellsOf_11 rfl rfl rfl ?_
      refine xw_iload_n 13 dX5_cellsOf_12 rfl rfl ?_
      refine xw_bipush 15 (nI 12) dX5_cellsOf_13 rfl (by decide) ?_
      refine xw_idiv 16 dX5_cellsOf_15 rfl (by decide) ?_
      rw [pk_div (d := 12) (by omega) (by decide) (by decide)]
      refine xw_iload_n 17 dX5_cellsOf_16 rfl rfl ?_
      refine xw_bipush 19 (nI 12) dX5_cellsOf_17 rfl (by decide) ?_
      refine xw_irem 20 dX5_cellsOf_19 rfl (by decide) ?_
      rw [pk_rem (d := 12) (by omega) (by decide) (by decide)]
      refine xw_pV 23 dX5_cellsOf_20 rfl ok_M_isCell s_X5_111 (S_M_isCellN O Z I (by omega) (by omega)) (rfl) (O) rfl rfl rfl rfl rfl rfl rfl ?_
      refine xw_if_eq 43 26 dX5_cellsOf_23 rfl rfl (fun h23 => ?_) (fun h23 => ?_)
      · refine xw_iconst 44 (nI 0) dX5_cellsOf_43 rfl (xofI 0) ?_
        refine xw_iadd 45 dX5_cellsOf_44 rfl ?_
        rw [nI_add]
        refine xw_istore_n (ls' := [(2, _), (3, _), (0, _), (1, _)]) 46 dX5_cellsOf_45 rfl rfl rfl ?_
        refine xw_iinc (ls' := [(3, _), (2, _), (0, _), (1, _)]) 49 _ dX5_cellsOf_46 rfl rfl (xnI_inc _) rfl rfl ?_
        refine xw_goto 4 dX5_cellsOf_49 rfl ?_
        have hz := b0 h23
        have e1 : xct (fun k => decide (k / 12 < zI z 4 ∧ k % 12 < zI z 5) && decide (z (27 + (k / 12 * 12 + k % 12)) = nI c)) (i + 1) = xct (fun k => decide (k / 12 < zI z 4 ∧ k % 12 < zI z 5) && decide (z (27 + (k / 12 * 12 + k % 12)) = nI c)) i := xct_n (by simp [hz])
        rw [e1] at ih
        exact xW.pick [0, 1, 2, 3] rfl (ih)
      · refine xw_aload_n 27 dX5_cellsOf_26 rfl rfl rfl ?_
        refine xw_get 30 dX5_cellsOf_27 rfl f_X5_7 (O) rfl ?_
        refine xw_bipush 32 (nI 27) dX5_cellsOf_30 rfl (by decide) ?_
        refine xw_iload_n 33 dX5_cellsOf_32 rfl rfl ?_
        refine xw_iadd 34 dX5_cellsOf_33 rfl ?_
        refine xw_ialv (j := _) 35 dX5_cellsOf_34 rfl (Z) (nI_add _ _) (by omega) (by omega) (ei) ?_
        refine xw_iload_n 36 dX5_cellsOf_35 rfl rfl ?_
        refine xw_icmp_ne 43 39 dX5_cellsOf_36 rfl rfl (fun h36 => ?_) (fun h36 => ?_)
        · refine xw_iconst 44 (nI 0) dX5_cellsOf_43 rfl (xofI 0) ?_
          refine xw_iadd 45 dX5_cellsOf_44 rfl ?_
          rw [nI_add]
          refine xw_istore_n (ls' := [(2, _), (3, _), (0, _), (1, _)]) 46 dX5_cellsOf_45 rfl rfl rfl ?_
          refine xw_iinc (ls' := [(3, _), (2, _), (0, _), (1, _)]) 49 _ dX5_cellsOf_46 rfl rfl (xnI_inc _) rfl rfl ?_
          refine xw_goto 4 dX5_cellsOf_49 rfl ?_
          have e1 : xct (fun k => decide (k / 12 < zI z 4 ∧ k % 12 < zI z 5) && decide (z (27 + (k / 12 * 12 + k % 12)) = nI c)) (i + 1) = xct (fun k => decide (k / 12 < zI z 4 ∧ k % 12 < zI z 5) && decide (z (27 + (k / 12 * 12 + k % 12)) = nI c)) i := xct_n (by simp [h36])
          rw [e1] at ih
          exact xW.pick [0, 1, 2, 3] rfl (ih)
        · refine xw_iconst 40 (nI 1) dX5_cellsOf_39 rfl (xofI 1) ?_
          refine xw_goto 44 dX5_cellsOf_40 rfl ?_
          refine xw_iadd 45 dX5_cellsOf_44 rfl ?_
          rw [nI_add]
          refine xw_istore_n (ls' := [(2, _), (3, _), (0, _), (1, _)]) 46 dX5_cellsOf_45 rfl rfl rfl ?_
          refine xw_iinc (ls' := [(3, _), (2, _), (0, _), (1, _)]) 49 _ dX5_cellsOf_46 rfl rfl (xnI_inc _) rfl rfl ?_
          refine xw_goto 4 dX5_cellsOf_49 rfl ?_
          have hz := b1 h23
          have e1 : xct (fun k => decide (k / 12 < zI z 4 ∧ k % 12 < zI z 5) && decide (z (27 + (k / 12 * 12 + k % 12)) = nI c)) (i + 1) = xct (fun k => decide (k / 12 < zI z 4 ∧ k % 12 < zI z 5) && decide (z (27 + (k / 12 * 12 + k % 12)) = nI c)) i + 1 := xct_y (by simp [hz, h36])
          rw [e1] at ih
          exact xW.pick [0, 1, 2, 3] rfl (ih)
  refine xw_iconst 1 (nI 0) dX5_cellsOf_0 rfl (xofI 0) ?_
  refine xw_istore_n (ls' := [(2, _), (0, _), (1, _)]) 2 dX5_cellsOf_1 rfl rfl rfl ?_
  refine xw_iconst 3 (nI 0) dX5_cellsOf_2 rfl (xofI 0) ?_
  refine xw_istore_n (ls' := [(3, _), (2, _), (0, _), (1, _)]) 4 dX5_cellsOf_3 rfl rfl rfl ?_
  exact loop 120 0 (by omega)
theorem S_M_colourNow {c what : Nat} (O : hp[71]? = some (.inr (5, .ref 72 :: .int st :: mo))) (Z : hp[72]? = some (.inl (0, 435, .inl z))) (I : xInv z) (hc : c < 6) (hw : what < 6) : xMet G M_colourNow [.ref 71, .int (nI c), .int (nI what)] hp x 0 0 (xRetV (.int (zcolour z c what)) hp) := by
  have hA1 := I.iA.2.1
  have hA2 := I.iA.2.2
  have hS2 := I.iS.2.2
  have hR1 := I.iR.2.1
  have hR2 := I.iR.2.2
  have hC1 := I.iC.2.1
  have hC2 := I.iC.2.2
  have hM2 := I.iM.2.2
  have hK1 := I.iK.2.1
  have hK2 := I.iK.2.2
  have h2 := S_M_strung (G := G) (x := x) (c := c) (b := false) O Z I
  rw [xct_congr (q := fun i => decide ((fun k => z (147 + k)) i = nI c)) (fun k hk => by simp), xocc_xct] at h2
  have h5 := S_M_strung (G := G) (x := x) (c := c) (b := true) O Z I
  rw [xct_congr (q := fun n => decide (z (147 + n) = nI c) && zwr z n) (fun k hk => by simp)] at h5
  rcases (show what = 0 ∨ what = 1 ∨ what = 2 ∨ what = 3 ∨ what = 4 ∨ what = 5 by omega) with rfl | rfl | rfl | rfl | rfl | rfl
  · show xMet _ _ _ _ _ _ _ (xRetV (.int (z (9 + c))) hp)
    refine xw_iload_n 1 dX5_colourNow_0 rfl rfl ?_
    refine xw_table [36, 46, 56, 63, 73] 79 dX5_colourNow_1 rfl rfl rfl ⟨fun _ => ?_, fun h => absurd h (by decide), fun h => absurd h (by decide), fun h => absurd h (by decide), fun h => absurd h (by decide), trivial⟩ (fun h => absurd h (by decide))
    refine xw_aload_n 37 dX5_colourNow_36 rfl rfl rfl ?_
    refine xw_get 40 dX5_colourNow_37 rfl f_X5_7 (O) rfl ?_
    refine xw_bipush 42 (nI 9) dX5_colourNow_40 rfl (by decide) ?_
    refine xw_iload_n 43 dX5_colourNow_42 rfl rfl ?_
    refine xw_iadd 44 dX5_colourNow_43 rfl ?_
    refine xw_iaload (j := _) 45 dX5_colourNow_44 rfl (Z) (nI_add _ _) (by omega) (by omega) ?_
    exact xw_ireturn dX5_colourNow_45 rfl (⟨rfl, rfl⟩)
  · show xMet _ _ _ _ _ _ _ (xRetV (.int (z (15 + c))) hp)
    refine xw_iload_n 1 dX5_colourNow_0 rfl rfl ?_
    refine xw_table [36, 46, 56, 63, 73] 79 dX5_colourNow_1 rfl rfl rfl ⟨fun h => absurd h (by decide), fun _ => ?_, fun h => absurd h (by decide), fun h => absurd h (by decide), fun h => absurd h (by decide), trivial⟩ (fun h => absurd h (by decide))
    refine xw_aload_n 47 dX5_colourNow_46 rfl rfl rfl ?_
    refine xw_get 50 dX5_colourNow_47 rfl f_X5_7 (O) rfl ?_
    refine xw_bipush 52 (nI 15) dX5_colourNow_50 rfl (by decide) ?_
    refine xw_iload_n 53 dX5_colourNow_52 rfl rfl ?_
    refine xw_iadd 54 dX5_colourNow_53 rfl ?_
    refine xw_iaload (j := _) 55 dX5_colourNow_54 rfl (Z) (nI_add _ _) (by omega) (by omega) ?_
    exact xw_ireturn dX5_colourNow_55 rfl (⟨rfl, rfl⟩)
  · show xMet _ _ _ _ _ _ _ (xRetV (.int (nI (xocc (fun k => z (147 + k)) (nI c) (zI z 6)))) hp)
    refine xw_iload_n 1 dX5_colourNow_0 rfl rfl ?_
    refine xw_table [36, 46, 56, 63, 73] 79 dX5_colourNow_1 rfl rfl rfl ⟨fun h => absurd h (by decide), fun h => absurd h (by decide), fun _ => ?_, fun h => absurd h (by decide), fun h => absurd h (by decide), trivial⟩ (fun h => absurd h (by decide))
    refine xw_aload_n 57 dX5_colourNow_56 rfl rfl rfl ?_
    refine xw_iload_n 58 dX5_colourNow_57 rfl rfl ?_
    refine xw_iconst 59 (nI 0) dX5_colourNow_58 rfl (xofI 0) ?_
    refine xw_pV 62 dX5_colourNow_59 rfl ok_M_strung s_X5_178 (h2) (rfl) (O) rfl rfl rfl rfl rfl rfl rfl ?_
    exact xw_ireturn dX5_colourNow_62 rfl (⟨rfl, rfl⟩)
  · show xMet _ _ _ _ _ _ _ (xRetV (.int (z (21 + c))) hp)
    refine xw_iload_n 1 dX5_colourNow_0 rfl rfl ?_
    refine xw_table [36, 46, 56, 63, 73] 79 dX5_colourNow_1 rfl rfl rfl ⟨fun h => absurd h (by decide), fun h => absurd h (by decide), fun h => absurd h (by decide), fun _ => ?_, fun h => absurd h (by decide), trivial⟩ (fun h => absurd h (by decide))
    refine xw_aload_n 64 dX5_colourNow_63 rfl rfl rfl ?_
    refine xw_get 67 dX5_colourNow_64 rfl f_X5_7 (O) rfl ?_
    refine xw_bipush 69 (nI 21) dX5_colourNow_67 rfl (by decide) ?_
    refine xw_iload_n 70 dX5_colourNow_69 rfl rfl ?_
    refine xw_iadd 71 dX5_colourNow_70 rfl ?_
    refine xw_iaload (j := _) 72 dX5_colourNow_71 rfl (Z) (nI_add _ _) (by omega) (by omega) ?_
    exact xw_ireturn dX5_colourNow_72 rfl (⟨rfl, rfl⟩)
  · show xMet _ _ _ _ _ _ _ (xRetV (.int (nI (xct2 (fun r d => decide (z (27 + (r * 12 + d)) = nI c)) (zI z 5) (zI z 4)))) hp)
    refine xw_iload_n 1 dX5_colourNow_0 rfl rfl ?_
    refine xw_table [36, 46, 56, 63, 73] 79 dX5_colourNow_1 rfl rfl rfl ⟨fun h => absurd h (by decide), fun h => absurd h (by decide), fun h => absurd h (by decide), fun h => absurd h (by decide), fun _ => ?_, trivial⟩ (fun h => absurd h (by decide))
    refine xw_aload_n 74 dX5_colourNow_73 rfl rfl rfl ?_
    refine xw_iload_n 75 dX5_colourNow_74 rfl rfl ?_
    refine xw_pV 78 dX5_colourNow_75 rfl ok_M_cellsOf s_X5_182 (S_M_cellsOf O Z I) (rfl) (O) rfl rfl rfl rfl rfl rfl rfl ?_
    exact xw_ireturn dX5_colourNow_78 rfl (⟨rfl, rfl⟩)
  · show xMet _ _ _ _ _ _ _ (xRetV (.int (nI (xct (fun n => decide (z (147 + n) = nI c) && zwr z n) (zI z 6)))) hp)
    refine xw_iload_n 1 dX5_colourNow_0 rfl rfl ?_
    refine xw_table [36, 46, 56, 63, 73] 79 dX5_colourNow_1 rfl rfl rfl ⟨fun h => absurd h (by decide), fun h => absurd h (by decide), fun h => absurd h (by decide), fun h => absurd h (by decide), fun h => absurd h (by decide), trivial⟩ (fun _ => ?_)
    refine xw_aload_n 80 dX5_colourNow_79 rfl rfl rfl ?_
    refine xw_iload_n 81 dX5_colourNow_80 rfl rfl ?_
    refine xw_iconst 82 (nI 1) dX5_colourNow_81 rfl (xofI 1) ?_
    refine xw_pV 85 dX5_colourNow_82 rfl ok_M_strung s_X5_178 (h5) (rfl) (O) rfl rfl rfl rfl rfl rfl rfl ?_
    exact xw_ireturn dX5_colourNow_85 rfl (⟨rfl, rfl⟩)
theorem S_M_sumOf {p : Nat} (O : hp[71]? = some (.inr (5, .ref 72 :: .int st :: mo))) (Z : hp[72]? = some (.inl (0, 435, .inl z))) (hp6 : p + 6 ≤ 435) : xMet G M_sumOf [.ref 71, .int (nI p)] hp x 0 0 (xRetV (.int (xsum (fun k => z (p + k)) 6)) hp) := by
  have loop : ∀ (t i : Nat), i + t = 6 → xW G M_sumOf (xRetV (.int (xsum (fun k => z (p + k)) 6)) hp) 4 [(3, .int (nI i)), (2, .int (xsum (fun k => z (p + k)) i)), (0, .ref 71), (1, .int (nI p))] [] hp x 0 0 := by
    intro t
    induction t with
    | zero =>
      intro i hi
      have e1 : i = 6 := by omega
      subst e1
      refine xw_iload_n 5 dX5_sumOf_4 rfl rfl ?_
      refine xw_bipush 7 (nI 6) dX5_sumOf_5 rfl (by decide) ?_
      refine xw_icmp_ge 27 10 dX5_sumOf_7 rfl rfl (fun h7 => ?_) (fun h7 => absurd (nI_le (Nat.le_refl _) (by decide)) h7)
      refine xw_iload_n 28 dX5_sumOf_27 rfl rfl ?_
      exact xw_ireturn dX5_sumOf_28 rfl (⟨rfl, rfl⟩)
    | succ t ih =>
      intro i hi
      refine xw_iload_n 5 dX5_sumOf_4 rfl rfl ?_
      refine xw_bipush 7 (nI 6) dX5_sumOf_5 rfl (by decide) ?_
      refine xw_icmp_ge 27 10 dX5_sumOf_7 rfl rfl (fun h7 => absurd h7 (nI_ge (by omega) (by omega))) (fun h7 => ?_)
      refine xw_iload_n 11 dX5_sumOf_10 rfl rfl ?_
      refine xw_aload_n 12 dX5_sumOf_11 rfl rfl rfl ?_
      refine xw_get 15 dX5_sumOf_12 rfl f_X5_7 (O) rfl ?_
      refine xw_iload_n 16 dX5_sumOf_15 rfl rfl ?_
      refine xw_iload_n 17 dX5_sumOf_16 rfl rfl ?_
      refine xw_iadd 18 dX5_sumOf_17 rfl ?_
      refine xw_iaload (j := _) 19 dX5_sumOf_18 rfl (Z) (nI_add _ _) (by omega) (by omega) ?_
      refine xw_iadd 20 dX5_sumOf_19 rfl ?_
      refine xw_istore_n (ls' := [(2, _), (3, _), (0, _), (1, _)]) 21 dX5_sumOf_20 rfl rfl rfl ?_
      refine xw_iinc (ls' := [(3, _), (2, _), (0, _), (1, _)]) 24 _ dX5_sumOf_21 rfl rfl (xnI_inc _) rfl rfl ?_
      refine xw_goto 4 dX5_sumOf_24 rfl ?_
      exact xW.pick [0, 1, 2, 3] rfl (ih (i + 1) (by omega))
  refine xw_iconst 1 (nI 0) dX5_sumOf_0 rfl (xofI 0) ?_
  refine xw_istore_n (ls' := [(2, _), (0, _), (1, _)]) 2 dX5_sumOf_1 rfl rfl rfl ?_
  refine xw_iconst 3 (nI 0) dX5_sumOf_2 rfl (xofI 0) ?_
  refine xw_istore_n (ls' := [(3, _), (2, _), (0, _), (1, _)]) 4 dX5_sumOf_3 rfl rfl rfl ?_
  exact loop 6 0 (by omega)
theorem S_M_bareKnots (O : hp[71]? = some (.inr (5, .ref 72 :: .int st :: mo))) (Z : hp[72]? = some (.inl (0, 435, .inl z))) (I : xInv z) : xMet G M_bareKnots [.ref 71] hp x 0 0 (xRetV (.int (nI (zopen z))) hp) := by
  have hA1 := I.iA.2.1
  have hA2 := I.iA.2.2
  have hS2 := I.iS.2.2
  have hR1 := I.iR.2.1
  have hR2 := I.iR.2.2
  have hC1 := I.iC.2.1
  have hC2 := I.iC.2.2
  have hM2 := I.iM.2.2
  have hK1 := I.iK.2.1
  have hK2 := I.iK.2.2
  have loop : ∀ (t i : Nat), i + t = zI z 7 - 1 → xW G M_bareKnots (xRetV (.int (nI (zopen z))) hp) 4 [(2, .int (nI (i + 1))), (1, .int (nI (xct (fun i => !zhid z (i + 1)) i))), (0, .ref 71)] [] hp x 0 0 := by
    intro t
    induction t with
    | zero =>
      intro i hi
      have e1 : i = zI z 7 - 1 := by omega
      refine xw_iload_n 5 dX5_bareKnots_4 rfl rfl ?_
      refine xw_aload_n 6 dX5_bareKnots_5 rfl rfl rfl ?_
      refine xw_get 9 dX5_bareKnots_6 rfl f_X5_7 (O) rfl ?_
      refine xw_bipush 11 (nI 7) dX5_bareKnots_9 rfl (by decide) ?_
      refine xw_ialv (j := 7) 12 dX5_bareKnots_11 rfl (Z) (rfl) (by decide) (by decide) (I.iK.1) ?_
      refine xw_icmp_ge 46 15 dX5_bareKnots_12 rfl rfl (fun h12 => ?_) (fun h12 => absurd (nI_le (by omega) (by omega)) h12)
      refine xw_iload_n 47 dX5_bareKnots_46 rfl rfl ?_
      exact xw_ireturn dX5_bareKnots_47 rfl (by rw [e1]; exact ⟨rfl, rfl⟩)
    | succ t ih =>
      intro i hi
      have ih := ih (i + 1) (by omega)
      have hB := I.iB (i + 1) (by omega)
      have hx := S_M_hides (G := G) (x := x) (n := zI z (387 + (i + 1))) O Z I (by have := hB.2.2; omega)
      have hhd : zhd z (zI z (387 + (i + 1))) = zhid z (i + 1) := rfl
      rw [hhd] at hx
      refine xw_iload_n 5 dX5_bareKnots_4 rfl rfl ?_
      refine xw_aload_n 6 dX5_bareKnots_5 rfl rfl rfl ?_
      refine xw_get 9 dX5_bareKnots_6 rfl f_X5_7 (O) rfl ?_
      refine xw_bipush 11 (nI 7) dX5_bareKnots_9 rfl (by decide) ?_
      refine xw_ialv (j := 7) 12 dX5_bareKnots_11 rfl (Z) (rfl) (by decide) (by decide) (I.iK.1) ?_
      refine xw_icmp_ge 46 15 dX5_bareKnots_12 rfl rfl (fun h12 => absurd h12 (nI_ge (by omega) (by omega))) (fun h12 => ?_)
      refine xw_iload_n 16 dX5_bareKnots_15 rfl rfl ?_
      refine xw_aload_n 17 dX5_bareKnots_16 rfl rfl rfl ?_
      refine xw_aload_n 18 dX5_bareKnots_17 rfl rfl rfl ?_
      refine xw_get 21 dX5_bareKnots_18 rfl f_X5_7 (O) rfl ?_
      refine xw_sipush 24 (nI 387) dX5_bareKnots_21 rfl (by decide) ?_
      refine xw_iload_n 25 dX5_bareKnots_24 rfl rfl ?_
      refine xw_iadd 26 dX5_bareKnots_25 rfl ?_
      refine xw_ialv (j := _) 27 dX5_bareKnots_26 rfl (Z) (nI_add _ _) (by omega) (by omega) (hB.1) ?_
      refine xw_pV 30 dX5_bareKnots_27 rfl ok_M_hides s_X5_137 (hx) (rfl) (O) rfl rfl rfl rfl rfl rfl rfl ?_
      refine xw_if_eq 37 33 dX5_bareKnots_30 rfl rfl (fun h30 => ?_) (fun h30 => ?_)
      · refine xw_iconst 38 (nI 1) dX5_bareKnots_37 rfl (xofI 1) ?_
        refine xw_iadd 39 dX5_bareKnots_38 rfl ?_
        rw [nI_add]
        refine xw_istore_n (ls' := [(1, _), (2, _), (0, _)]) 40 dX5_bareKnots_39 rfl rfl rfl ?_
        refine xw_iinc (ls' := [(2, _), (1, _), (0, _)]) 43 _ dX5_bareKnots_40 rfl rfl (xnI_inc _) rfl rfl ?_
        refine xw_goto 4 dX5_bareKnots_43 rfl ?_
        have hz := b0 h30
        have e1 : xct (fun i => !zhid z (i + 1)) (i + 1) = xct (fun i => !zhid z (i + 1)) i + 1 := xct_y (by simp [hz])
        rw [e1] at ih
        exact xW.pick [0, 1, 2] rfl (ih)
      · refine xw_iconst 34 (nI 0) dX5_bareKnots_33 rfl (xofI 0) ?_
        refine xw_goto 38 dX5_bareKnots_34 rfl ?_
        refine xw_iadd 39 dX5_bareKnots_38 rfl ?_
        rw [nI_add]
        refine xw_istore_n (ls' := [(1, _), (2, _), (0, _)]) 40 dX5_bareKnots_39 rfl rfl rfl ?_
        refine xw_iinc (ls' := [(2, _), (1, _), (0, _)]) 43 _ dX5_bareKnots_40 rfl rfl (xnI_inc _) rfl rfl ?_
        refine xw_goto 4 dX5_bareKnots_43 rfl ?_
        have hz := b1 h30
        have e1 : xct (fun i => !zhid z (i + 1)) (i + 1) = xct (fun i => !zhid z (i + 1)) i := xct_n (by simp [hz])
        rw [e1] at ih
        exact xW.pick [0, 1, 2] rfl (ih)
  refine xw_iconst 1 (nI 0) dX5_bareKnots_0 rfl (xofI 0) ?_
  refine xw_istore_n (ls' := [(1, _), (0, _)]) 2 dX5_bareKnots_1 rfl rfl rfl ?_
  refine xw_iconst 3 (nI 1) dX5_bareKnots_2 rfl (xofI 1) ?_
  refine xw_istore_n (ls' := [(2, _), (1, _), (0, _)]) 4 dX5_bareKnots_3 rfl rfl rfl ?_
  exact loop (zI z 7 - 1) 0 (by omega)
theorem S_M_coloursThere (O : hp[71]? = some (.inr (5, .ref 72 :: .int st :: mo))) (Z : hp[72]? = some (.inl (0, 435, .inl z))) (I : xInv z) : xMet G M_coloursThere [.ref 71] hp x 0 0 (xRetV (.int (nI (xdiff (fun k => z (27 + k)) (zI z 4) (zI z 5) 6))) hp) := by
  have hA1 := I.iA.2.1
  have hA2 := I.iA.2.2
  have hS2 := I.iS.2.2
  have hR1 := I.iR.2.1
  have hR2 := I.iR.2.2
  have hC1 := I.iC.2.1
  have hC2 := I.iC.2.2
  have hM2 := I.iM.2.2
  have hK1 := I.iK.2.1
  have hK2 := I.iK.2.2
  have loop : ∀ (t i : Nat), i + t = 6 → xW G M_coloursThere (xRetV (.int (nI (xct (fun v => decide (0 < xct2 (fun r c => decide (z (27 + (r * 12 + c)) = nI v)) (zI z 5) (zI z 4))) 6))) hp) 4 [(2, .int (nI i)), (1, .int (nI (xct (fun v => decide (0 < xct2 (fun r c => decide (z (27 + (r * 12 + c)) = nI v)) (zI z 5) (zI z 4))) i))), (0, .ref 71)] [] hp x 0 0 := by
    intro t
    induction t with
    | zero =>
      intro i hi
      have e1 : i = 6 := by omega
      subst e1
      refine xw_iload_n 5 dX5_coloursThere_4 rfl rfl ?_
      refine xw_bipush 7 (nI 6) dX5_coloursThere_5 rfl (by decide) ?_
      refine xw_icmp_ge 32 10 dX5_coloursThere_7 rfl rfl (fun h7 => ?_) (fun h7 => absurd (nI_le (Nat.le_refl _) (by decide)) h7)
      refine xw_iload_n 33 dX5_coloursThere_32 rfl rfl ?_
      exact xw_ireturn dX5_coloursThere_33 rfl (⟨rfl, rfl⟩)
    | succ t ih =>
      intro i hi
      have ih := ih (i + 1) (by omega)
      have hle := xct2_le120 (fun r c => decide (z (27 + (r * 12 + c)) = nI i)) hC2 hR2
      refine xw_iload_n 5 dX5_coloursThere_4 rfl rfl ?_
      refine xw_bipush 7 (nI 6) dX5_coloursThere_5 rfl (by decide) ?_
      refine xw_icmp_ge 32 10 dX5_coloursThere_7 rfl rfl (fun h7 => absurd h7 (nI_ge (by omega) (by omega))) (fun h7 => ?_)
      refine xw_iload_n 11 dX5_coloursThere_10 rfl rfl ?_
      refine xw_aload_n 12 dX5_coloursThere_11 rfl rfl rfl ?_
      refine xw_iload_n 13 dX5_coloursThere_12 rfl rfl ?_
      refine xw_pV 16 dX5_coloursThere_13 rfl ok_M_cellsOf s_X5_182 (S_M_cellsOf O Z I) (rfl) (O) rfl rfl rfl rfl rfl rfl rfl ?_
      refine xw_if_le 23 19 dX5_coloursThere_16 rfl rfl (fun h16 => ?_) (fun h16 => ?_)
      · refine xw_iconst 24 (nI 0) dX5_coloursThere_23 rfl (xofI 0) ?_
        refine xw_iadd 25 dX5_coloursThere_24 rfl ?_
        rw [nI_add]
        refine xw_istore_n (ls' := [(1, _), (2, _), (0, _)]) 26 dX5_coloursThere_25 rfl rfl rfl ?_
        refine xw_iinc (ls' := [(2, _), (1, _), (0, _)]) 29 _ dX5_coloursThere_26 rfl rfl (xnI_inc _) rfl rfl ?_
        refine xw_goto 4 dX5_coloursThere_29 rfl ?_
        have e1 : xct (fun v => decide (0 < xct2 (fun r c => decide (z (27 + (r * 12 + c)) = nI v)) (zI z 5) (zI z 4))) (i + 1) = xct (fun v => decide (0 < xct2 (fun r c => decide (z (27 + (r * 12 + c)) = nI v)) (zI z 5) (zI z 4))) i := xct_n (fun q => xle0 (of_decide_eq_true q) (by omega) h16)
        rw [e1] at ih
        exact xW.pick [0, 1, 2] rfl (ih)
      · refine xw_iconst 20 (nI 1) dX5_coloursThere_19 rfl (xofI 1) ?_
        refine xw_goto 24 dX5_coloursThere_20 rfl ?_
        refine xw_iadd 25 dX5_coloursThere_24 rfl ?_
        rw [nI_add]
        refine xw_istore_n (ls' := [(1, _), (2, _), (0, _)]) 26 dX5_coloursThere_25 rfl rfl rfl ?_
        refine xw_iinc (ls' := [(2, _), (1, _), (0, _)]) 29 _ dX5_coloursThere_26 rfl rfl (xnI_inc _) rfl rfl ?_
        refine xw_goto 4 dX5_coloursThere_29 rfl ?_
        have e1 : xct (fun v => decide (0 < xct2 (fun r c => decide (z (27 + (r * 12 + c)) = nI v)) (zI z 5) (zI z 4))) (i + 1) = xct (fun v => decide (0 < xct2 (fun r c => decide (z (27 + (r * 12 + c)) = nI v)) (zI z 5) (zI z 4))) i + 1 := xct_y (decide_eq_true (Decidable.byContradiction fun q => h16 (xle0' (by omega))))
        rw [e1] at ih
        exact xW.pick [0, 1, 2] rfl (ih)
  unfold xdiff
  refine xw_iconst 1 (nI 0) dX5_coloursThere_0 rfl (xofI 0) ?_
  refine xw_istore_n (ls' := [(1, _), (0, _)]) 2 dX5_coloursThere_1 rfl rfl rfl ?_
  refine xw_iconst 3 (nI 0) dX5_coloursThere_2 rfl (xofI 0) ?_
  refine xw_istore_n (ls' := [(2, _), (1, _), (0, _)]) 4 dX5_coloursThere_3 rfl rfl rfl ?_
  exact loop 6 0 (by omega)
theorem S_M_room (O : hp[71]? = some (.inr (5, .ref 72 :: .int st :: mo))) (Z : hp[72]? = some (.inl (0, 435, .inl z))) (I : xInv z) : xMet G M_room [.ref 71] hp x 0 0 (xRetV (.int (zroom z)) hp) := by
  unfold zroom
  refine xw_aload_n 1 dX5_room_0 rfl rfl rfl ?_
  refine xw_get 4 dX5_room_1 rfl f_X5_7 (O) rfl ?_
  refine xw_iconst 5 (nI 2) dX5_room_4 rfl (xofI 2) ?_
  refine xw_ialv (j := 2) 6 dX5_room_5 rfl (Z) (rfl) (by decide) (by decide) (rfl) ?_
  refine xw_aload_n 7 dX5_room_6 rfl rfl rfl ?_
  refine xw_pV 10 dX5_room_7 rfl ok_M_onLast s_X5_121 (S_M_onLast O Z I) (rfl) (O) rfl rfl rfl rfl rfl rfl rfl ?_
  refine xw_isub 11 dX5_room_10 rfl ?_
  refine xw_istore_n (ls' := [(1, _), (0, _)]) 12 dX5_room_11 rfl rfl rfl ?_
  refine xw_iload_n 13 dX5_room_12 rfl rfl ?_
  refine xw_if_ge 20 16 dX5_room_13 rfl rfl (fun h13 => ?_) (fun h13 => ?_)
  · have e9 : (if nI 0 < z 2 - nI (zlen z (zI z 7 - 1)) then z 2 - nI (zlen z (zI z 7 - 1)) else nI 0) = z 2 - nI (zlen z (zI z 7 - 1)) := by
      by_cases q : nI 0 < z 2 - nI (zlen z (zI z 7 - 1))
      · rw [if_pos q]
      · rw [if_neg q]
        exact Int32.le_antisymm h13 (Int32.not_lt.mp q)
    rw [e9]
    refine xw_iload_n 21 dX5_room_20 rfl rfl ?_
    exact xw_ireturn dX5_room_21 rfl (⟨rfl, rfl⟩)
  · rw [if_neg (show ¬ nI 0 < z 2 - nI (zlen z (zI z 7 - 1)) from fun q => h13 (Int32.le_of_lt q))]
    refine xw_iconst 17 (nI 0) dX5_room_16 rfl (xofI 0) ?_
    refine xw_goto 21 dX5_room_17 rfl ?_
    exact xw_ireturn dX5_room_21 rfl (⟨rfl, rfl⟩)
theorem S_M_counted {what : Nat} (O : hp[71]? = some (.inr (5, .ref 72 :: .int st :: mo))) (Z : hp[72]? = some (.inl (0, 435, .inl z))) (I : xInv z) (hw : what < 13) : xMet G M_counted [.ref 71, .int (nI what)] hp x 0 0 (xRetV (.int (znum z st what)) hp) := by
  rcases (show what = 0 ∨ what = 1 ∨ what = 2 ∨ what = 3 ∨ what = 4 ∨ what = 5 ∨ what = 6 ∨ what = 7 ∨ what = 8 ∨ what = 9 ∨ what = 10 ∨ what = 11 ∨ what = 12 by omega) with rfl | rfl | rfl | rfl | rfl | rfl | rfl | rfl | rfl | rfl | rfl | rfl | rfl
  · show xMet _ _ _ _ _ _ _ (xRetV (.int (z 4)) hp)
    refine xw_iload_n 1 dX5_counted_0 rfl rfl ?_
    refine xw_table [64, 71, 78, 86, 94, 99, 104, 111, 118, 125, 133, 138] 143 dX5_counted_1 rfl rfl rfl ⟨fun _ => ?_, fun h => absurd h (by decide), fun h => absurd h (by decide), fun h => absurd h (by decide), fun h => absurd h (by decide), fun h => absurd h (by decide), fun h => absurd h (by decide), fun h => absurd h (by decide), fun h => absurd h (by decide), fun h => absurd h (by decide), fun h => absurd h (by decide), fun h => absurd h (by decide), trivial⟩ (fun h => absurd h (by decide))
    refine xw_aload_n 65 dX5_counted_64 rfl rfl rfl ?_
    refine xw_get 68 dX5_counted_65 rfl f_X5_7 (O) rfl ?_
    refine xw_iconst 69 (nI 4) dX5_counted_68 rfl (xofI 4) ?_
    refine xw_ialv (j := 4) 70 dX5_counted_69 rfl (Z) (rfl) (by decide) (by decide) (rfl) ?_
    exact xw_ireturn dX5_counted_70 rfl (⟨rfl, rfl⟩)
  · show xMet _ _ _ _ _ _ _ (xRetV (.int (z 5)) hp)
    refine xw_iload_n 1 dX5_counted_0 rfl rfl ?_
    refine xw_table [64, 71, 78, 86, 94, 99, 104, 111, 118, 125, 133, 138] 143 dX5_counted_1 rfl rfl rfl ⟨fun h => absurd h (by decide), fun _ => ?_, fun h => absurd h (by decide), fun h => absurd h (by decide), fun h => absurd h (by decide), fun h => absurd h (by decide), fun h => absurd h (by decide), fun h => absurd h (by decide), fun h => absurd h (by decide), fun h => absurd h (by decide), fun h => absurd h (by decide), fun h => absurd h (by decide), trivial⟩ (fun h => absurd h (by decide))
    refine xw_aload_n 72 dX5_counted_71 rfl rfl rfl ?_
    refine xw_get 75 dX5_counted_72 rfl f_X5_7 (O) rfl ?_
    refine xw_iconst 76 (nI 5) dX5_counted_75 rfl (xofI 5) ?_
    refine xw_ialv (j := 5) 77 dX5_counted_76 rfl (Z) (rfl) (by decide) (by decide) (rfl) ?_
    exact xw_ireturn dX5_counted_77 rfl (⟨rfl, rfl⟩)
  · show xMet _ _ _ _ _ _ _ (xRetV (.int (z 6)) hp)
    refine xw_iload_n 1 dX5_counted_0 rfl rfl ?_
    refine xw_table [64, 71, 78, 86, 94, 99, 104, 111, 118, 125, 133, 138] 143 dX5_counted_1 rfl rfl rfl ⟨fun h => absurd h (by decide), fun h => absurd h (by decide), fun _ => ?_, fun h => absurd h (by decide), fun h => absurd h (by decide), fun h => absurd h (by decide), fun h => absurd h (by decide), fun h => absurd h (by decide), fun h => absurd h (by decide), fun h => absurd h (by decide), fun h => absurd h (by decide), fun h => absurd h (by decide), trivial⟩ (fun h => absurd h (by decide))
    refine xw_aload_n 79 dX5_counted_78 rfl rfl rfl ?_
    refine xw_get 82 dX5_counted_79 rfl f_X5_7 (O) rfl ?_
    refine xw_bipush 84 (nI 6) dX5_counted_82 rfl (by decide) ?_
    refine xw_ialv (j := 6) 85 dX5_counted_84 rfl (Z) (rfl) (by decide) (by decide) (rfl) ?_
    exact xw_ireturn dX5_counted_85 rfl (⟨rfl, rfl⟩)
  · show xMet _ _ _ _ _ _ _ (xRetV (.int (z 7)) hp)
    refine xw_iload_n 1 dX5_counted_0 rfl rfl ?_
    refine xw_table [64, 71, 78, 86, 94, 99, 104, 111, 118, 125, 133, 138] 143 dX5_counted_1 rfl rfl rfl ⟨fun h => absurd h (by decide), fun h => absurd h (by decide), fun h => absurd h (by decide), fun _ => ?_, fun h => absurd h (by decide), fun h => absurd h (by decide), fun h => absurd h (by decide), fun h => absurd h (by decide), fun h => absurd h (by decide), fun h => absurd h (by decide), fun h => absurd h (by decide), fun h => absurd h (by decide), trivial⟩ (fun h => absurd h (by decide))
    refine xw_aload_n 87 dX5_counted_86 rfl rfl rfl ?_
    refine xw_get 90 dX5_counted_87 rfl f_X5_7 (O) rfl ?_
    refine xw_bipush 92 (nI 7) dX5_counted_90 rfl (by decide) ?_
    refine xw_ialv (j := 7) 93 dX5_counted_92 rfl (Z) (rfl) (by decide) (by decide) (rfl) ?_
    exact xw_ireturn dX5_counted_93 rfl (⟨rfl, rfl⟩)
  · show xMet _ _ _ _ _ _ _ (xRetV (.int (nI (xctr (zwr z) 0 (zI z 6)))) hp)
    refine xw_iload_n 1 dX5_counted_0 rfl rfl ?_
    refine xw_table [64, 71, 78, 86, 94, 99, 104, 111, 118, 125, 133, 138] 143 dX5_counted_1 rfl rfl rfl ⟨fun h => absurd h (by decide), fun h => absurd h (by decide), fun h => absurd h (by decide), fun h => absurd h (by decide), fun _ => ?_, fun h => absurd h (by decide), fun h => absurd h (by decide), fun h => absurd h (by decide), fun h => absurd h (by decide), fun h => absurd h (by decide), fun h => absurd h (by decide), fun h => absurd h (by decide), trivial⟩ (fun h => absurd h (by decide))
    refine xw_aload_n 95 dX5_counted_94 rfl rfl rfl ?_
    refine xw_pV 98 dX5_counted_95 rfl ok_M_wrongs s_X5_188 (S_M_wrongs O Z I) (rfl) (O) rfl rfl rfl rfl rfl rfl rfl ?_
    exact xw_ireturn dX5_counted_98 rfl (⟨rfl, rfl⟩)
  · show xMet _ _ _ _ _ _ _ (xRetV (.int (nI (zopen z))) hp)
    refine xw_iload_n 1 dX5_counted_0 rfl rfl ?_
    refine xw_table [64, 71, 78, 86, 94, 99, 104, 111, 118, 125, 133, 138] 143 dX5_counted_1 rfl rfl rfl ⟨fun h => absurd h (by decide), fun h => absurd h (by decide), fun h => absurd h (by decide), fun h => absurd h (by decide), fun h => absurd h (by decide), fun _ => ?_, fun h => absurd h (by decide), fun h => absurd h (by decide), fun h => absurd h (by decide), fun h => absurd h (by decide), fun h => absurd h (by decide), fun h => absurd h (by decide), trivial⟩ (fun h => absurd h (by decide))
    refine xw_aload_n 100 dX5_counted_99 rfl rfl rfl ?_
    refine xw_pV 103 dX5_counted_100 rfl ok_M_bareKnots s_X5_191 (S_M_bareKnots O Z I) (rfl) (O) rfl rfl rfl rfl rfl rfl rfl ?_
    exact xw_ireturn dX5_counted_103 rfl (⟨rfl, rfl⟩)
  · show xMet _ _ _ _ _ _ _ (xRetV (.int (xsum (fun k => z (9 + k)) 6)) hp)
    refine xw_iload_n 1 dX5_counted_0 rfl rfl ?_
    refine xw_table [64, 71, 78, 86, 94, 99, 104, 111, 118, 125, 133, 138] 143 dX5_counted_1 rfl rfl rfl ⟨fun h => absurd h (by decide), fun h => absurd h (by decide), fun h => absurd h (by decide), fun h => absurd h (by decide), fun h => absurd h (by decide), fun h => absurd h (by decide), fun _ => ?_, fun h => absurd h (by decide), fun h => absurd h (by decide), fun h => absurd h (by decide), fun h => absurd h (by decide), fun h => absurd h (by decide), trivial⟩ (fun h => absurd h (by decide))
    refine xw_aload_n 105 dX5_counted_104 rfl rfl rfl ?_
    refine xw_bipush 107 (nI 9) dX5_counted_105 rfl (by decide) ?_
    refine xw_pV 110 dX5_counted_107 rfl ok_M_sumOf s_X5_194 (S_M_sumOf O Z (by decide)) (rfl) (O) rfl rfl rfl rfl rfl rfl rfl ?_
    exact xw_ireturn dX5_counted_110 rfl (⟨rfl, rfl⟩)
  · show xMet _ _ _ _ _ _ _ (xRetV (.int (xsum (fun k => z (15 + k)) 6)) hp)
    refine xw_iload_n 1 dX5_counted_0 rfl rfl ?_
    refine xw_table [64, 71, 78, 86, 94, 99, 104, 111, 118, 125, 133, 138] 143 dX5_counted_1 rfl rfl rfl ⟨fun h => absurd h (by decide), fun h => absurd h (by decide), fun h => absurd h (by decide), fun h => absurd h (by decide), fun h => absurd h (by decide), fun h => absurd h (by decide), fun h => absurd h (by decide), fun _ => ?_, fun h => absurd h (by decide), fun h => absurd h (by decide), fun h => absurd h (by decide), fun h => absurd h (by decide), trivial⟩ (fun h => absurd h (by decide))
    refine xw_aload_n 112 dX5_counted_111 rfl rfl rfl ?_
    refine xw_bipush 114 (nI 15) dX5_counted_112 rfl (by decide) ?_
    refine xw_pV 117 dX5_counted_114 rfl ok_M_sumOf s_X5_194 (S_M_sumOf O Z (by decide)) (rfl) (O) rfl rfl rfl rfl rfl rfl rfl ?_
    exact xw_ireturn dX5_counted_117 rfl (⟨rfl, rfl⟩)
  · show xMet _ _ _ _ _ _ _ (xRetV (.int (xsum (fun k => z (21 + k)) 6)) hp)
    refine xw_iload_n 1 dX5_counted_0 rfl rfl ?_
    refine xw_table [64, 71, 78, 86, 94, 99, 104, 111, 118, 125, 133, 138] 143 dX5_counted_1 rfl rfl rfl ⟨fun h => absurd h (by decide), fun h => absurd h (by decide), fun h => absurd h (by decide), fun h => absurd h (by decide), fun h => absurd h (by decide), fun h => absurd h (by decide), fun h => absurd h (by decide), fun h => absurd h (by decide), fun _ => ?_, fun h => absurd h (by decide), fun h => absurd h (by decide), fun h => absurd h (by decide), trivial⟩ (fun h => absurd h (by decide))
    refine xw_aload_n 119 dX5_counted_118 rfl rfl rfl ?_
    refine xw_bipush 121 (nI 21) dX5_counted_119 rfl (by decide) ?_
    refine xw_pV 124 dX5_counted_121 rfl ok_M_sumOf s_X5_194 (S_M_sumOf O Z (by decide)) (rfl) (O) rfl rfl rfl rfl rfl rfl rfl ?_
    exact xw_ireturn dX5_counted_124 rfl (⟨rfl, rfl⟩)
  · show xMet _ _ _ _ _ _ _ (xRetV (.int (z 8)) hp)
    refine xw_iload_n 1 dX5_counted_0 rfl rfl ?_
    refine xw_table [64, 71, 78, 86, 94, 99, 104, 111, 118, 125, 133, 138] 143 dX5_counted_1 rfl rfl rfl ⟨fun h => absurd h (by decide), fun h => absurd h (by decide), fun h => absurd h (by decide), fun h => absurd h (by decide), fun h => absurd h (by decide), fun h => absurd h (by decide), fun h => absurd h (by decide), fun h => absurd h (by decide), fun h => absurd h (by decide), fun _ => ?_, fun h => absurd h (by decide), fun h => absurd h (by decide), trivial⟩ (fun h => absurd h (by decide))
    refine xw_aload_n 126 dX5_counted_125 rfl rfl rfl ?_
    refine xw_get 129 dX5_counted_126 rfl f_X5_7 (O) rfl ?_
    refine xw_bipush 131 (nI 8) dX5_counted_129 rfl (by decide) ?_
    refine xw_iaload (j := 8) 132 dX5_counted_131 rfl (Z) (rfl) (by decide) (by decide) ?_
    exact xw_ireturn dX5_counted_132 rfl (⟨rfl, rfl⟩)
  · show xMet _ _ _ _ _ _ _ (xRetV (.int (nI (xdiff (fun k => z (27 + k)) (zI z 4) (zI z 5) 6))) hp)
    refine xw_iload_n 1 dX5_counted_0 rfl rfl ?_
    refine xw_table [64, 71, 78, 86, 94, 99, 104, 111, 118, 125, 133, 138] 143 dX5_counted_1 rfl rfl rfl ⟨fun h => absurd h (by decide), fun h => absurd h (by decide), fun h => absurd h (by decide), fun h => absurd h (by decide), fun h => absurd h (by decide), fun h => absurd h (by decide), fun h => absurd h (by decide), fun h => absurd h (by decide), fun h => absurd h (by decide), fun h => absurd h (by decide), fun _ => ?_, fun h => absurd h (by decide), trivial⟩ (fun h => absurd h (by decide))
    refine xw_aload_n 134 dX5_counted_133 rfl rfl rfl ?_
    refine xw_pV 137 dX5_counted_134 rfl ok_M_coloursThere s_X5_197 (S_M_coloursThere O Z I) (rfl) (O) rfl rfl rfl rfl rfl rfl rfl ?_
    exact xw_ireturn dX5_counted_137 rfl (⟨rfl, rfl⟩)
  · show xMet _ _ _ _ _ _ _ (xRetV (.int (zroom z)) hp)
    refine xw_iload_n 1 dX5_counted_0 rfl rfl ?_
    refine xw_table [64, 71, 78, 86, 94, 99, 104, 111, 118, 125, 133, 138] 143 dX5_counted_1 rfl rfl rfl ⟨fun h => absurd h (by decide), fun h => absurd h (by decide), fun h => absurd h (by decide), fun h => absurd h (by decide), fun h => absurd h (by decide), fun h => absurd h (by decide), fun h => absurd h (by decide), fun h => absurd h (by decide), fun h => absurd h (by decide), fun h => absurd h (by decide), fun h => absurd h (by decide), fun _ => ?_, trivial⟩ (fun h => absurd h (by decide))
    refine xw_aload_n 139 dX5_counted_138 rfl rfl rfl ?_
    refine xw_pV 142 dX5_counted_139 rfl ok_M_room s_X5_200 (S_M_room O Z I) (rfl) (O) rfl rfl rfl rfl rfl rfl rfl ?_
    exact xw_ireturn dX5_counted_142 rfl (⟨rfl, rfl⟩)
  · show xMet _ _ _ _ _ _ _ (xRetV (.int (st)) hp)
    refine xw_iload_n 1 dX5_counted_0 rfl rfl ?_
    refine xw_table [64, 71, 78, 86, 94, 99, 104, 111, 118, 125, 133, 138] 143 dX5_counted_1 rfl rfl rfl ⟨fun h => absurd h (by decide), fun h => absurd h (by decide), fun h => absurd h (by decide), fun h => absurd h (by decide), fun h => absurd h (by decide), fun h => absurd h (by decide), fun h => absurd h (by decide), fun h => absurd h (by decide), fun h => absurd h (by decide), fun h => absurd h (by decide), fun h => absurd h (by decide), fun h => absurd h (by decide), trivial⟩ (fun _ => ?_)
    refine xw_aload_n 144 dX5_counted_143 rfl rfl rfl ?_
    refine xw_get 147 dX5_counted_144 rfl f_X5_44 (O) rfl ?_
    exact xw_ireturn dX5_counted_147 rfl (⟨rfl, rfl⟩)
theorem S_M_neededNow {c t0 : Nat} (O : hp[71]? = some (.inr (5, .ref 72 :: .int st :: mo))) (Z : hp[72]? = some (.inl (0, 435, .inl z))) (I : xInv z) (h0 : t0 ≤ 240) : xMet G M_neededNow [.ref 71, .int (nI c), .int (nI t0)] hp x 0 0 (xRetV (.int (nI (xct (fun n => decide (pcol z n = nI c)) t0))) hp) := by
  have loop : ∀ (t i : Nat), i + t = t0 → xW G M_neededNow (xRetV (.int (nI (xct (fun n => decide (pcol z n = nI c)) t0))) hp) 5 [(4, .int (nI i)), (3, .int (nI (xct (fun n => decide (pcol z n = nI c)) i))), (0, .ref 71), (1, .int (nI c)), (2, .int (nI t0))] [] hp x 0 0 := by
    intro t
    induction t with
    | zero =>
      intro i hi
      have e1 : i = t0 := by omega
      subst e1
      refine xw_iload 7 dX5_neededNow_5 rfl rfl ?_
      refine xw_iload_n 8 dX5_neededNow_7 rfl rfl ?_
      refine xw_icmp_ge 35 11 dX5_neededNow_8 rfl rfl (fun h8 => ?_) (fun h8 => absurd (nI_le (Nat.le_refl _) (by omega)) h8)
      refine xw_iload_n 36 dX5_neededNow_35 rfl rfl ?_
      exact xw_ireturn dX5_neededNow_36 rfl (⟨rfl, rfl⟩)
    | succ t ih =>
      intro i hi
      have ih := ih (i + 1) (by omega)
      refine xw_iload 7 dX5_neededNow_5 rfl rfl ?_
      refine xw_iload_n 8 dX5_neededNow_7 rfl rfl ?_
      refine xw_icmp_ge 35 11 dX5_neededNow_8 rfl rfl (fun h8 => absurd h8 (nI_ge (by omega) (by omega))) (fun h8 => ?_)
      refine xw_iload_n 12 dX5_neededNow_11 rfl rfl ?_
      refine xw_aload_n 13 dX5_neededNow_12 rfl rfl rfl ?_
      refine xw_iload 15 dX5_neededNow_13 rfl rfl ?_
      refine xw_pV 18 dX5_neededNow_15 rfl ok_M_colourOf s_X5_65 (S_M_colourOf O Z I (by omega)) (rfl) (O) rfl rfl rfl rfl rfl rfl rfl ?_
      refine xw_iload_n 19 dX5_neededNow_18 rfl rfl ?_
      refine xw_icmp_ne 26 22 dX5_neededNow_19 rfl rfl (fun h19 => ?_) (fun h19 => ?_)
      · refine xw_iconst 27 (nI 0) dX5_neededNow_26 rfl (xofI 0) ?_
        refine xw_iadd 28 dX5_neededNow_27 rfl ?_
        rw [nI_add]
        refine xw_istore_n (ls' := [(3, _), (4, _), (0, _), (1, _), (2, _)]) 29 dX5_neededNow_28 rfl rfl rfl ?_
        refine xw_iinc (ls' := [(4, _), (3, _), (0, _), (1, _), (2, _)]) 32 _ dX5_neededNow_29 rfl rfl (xnI_inc _) rfl rfl ?_
        refine xw_goto 5 dX5_neededNow_32 rfl ?_
        have e1 : xct (fun n => decide (pcol z n = nI c)) (i + 1) = xct (fun n => decide (pcol z n = nI c)) i := xct_n (by simp [h19])
        rw [e1] at ih
        exact xW.pick [0, 1, 2, 3, 4] rfl (ih)
      · refine xw_iconst 23 (nI 1) dX5_neededNow_22 rfl (xofI 1) ?_
        refine xw_goto 27 dX5_neededNow_23 rfl ?_
        refine xw_iadd 28 dX5_neededNow_27 rfl ?_
        rw [nI_add]
        refine xw_istore_n (ls' := [(3, _), (4, _), (0, _), (1, _), (2, _)]) 29 dX5_neededNow_28 rfl rfl rfl ?_
        refine xw_iinc (ls' := [(4, _), (3, _), (0, _), (1, _), (2, _)]) 32 _ dX5_neededNow_29 rfl rfl (xnI_inc _) rfl rfl ?_
        refine xw_goto 5 dX5_neededNow_32 rfl ?_
        have e1 : xct (fun n => decide (pcol z n = nI c)) (i + 1) = xct (fun n => decide (pcol z n = nI c)) i + 1 := xct_y (by simp [h19])
        rw [e1] at ih
        exact xW.pick [0, 1, 2, 3, 4] rfl (ih)
  refine xw_iconst 1 (nI 0) dX5_neededNow_0 rfl (xofI 0) ?_
  refine xw_istore_n (ls' := [(3, _), (0, _), (1, _), (2, _)]) 2 dX5_neededNow_1 rfl rfl rfl ?_
  refine xw_iconst 3 (nI 0) dX5_neededNow_2 rfl (xofI 0) ?_
  refine xw_istore (ls' := [(4, _), (3, _), (0, _), (1, _), (2, _)]) 5 dX5_neededNow_3 rfl rfl rfl ?_
  exact loop t0 0 (by omega)
theorem S_M_wrongOne (O : hp[71]? = some (.inr (5, .ref 72 :: .int st :: mo))) (Z : hp[72]? = some (.inl (0, 435, .inl z))) (I : xInv z) : xMet G M_wrongOne [.ref 71] hp x 0 0 (xRetV (.int (xoI (xfnd (zwr z) 0 (zI z 6)))) hp) := by
  have hA1 := I.iA.2.1
  have hA2 := I.iA.2.2
  have hS2 := I.iS.2.2
  have hR1 := I.iR.2.1
  have hR2 := I.iR.2.2
  have hC1 := I.iC.2.1
  have hC2 := I.iC.2.2
  have hM2 := I.iM.2.2
  have hK1 := I.iK.2.1
  have hK2 := I.iK.2.2
  have loop : ∀ (t i : Nat), i + t = zI z 6 → xW G M_wrongOne (xRetV (.int (xoI (xfnd (zwr z) i t))) hp) 2 [(1, .int (nI i)), (0, .ref 71)] [] hp x 0 0 := by
    intro t
    induction t with
    | zero =>
      intro i hi
      have e1 : i = zI z 6 := by omega
      refine xw_iload_n 3 dX5_wrongOne_2 rfl rfl ?_
      refine xw_aload_n 4 dX5_wrongOne_3 rfl rfl rfl ?_
      refine xw_get 7 dX5_wrongOne_4 rfl f_X5_7 (O) rfl ?_
      refine xw_bipush 9 (nI 6) dX5_wrongOne_7 rfl (by decide) ?_
      refine xw_ialv (j := 6) 10 dX5_wrongOne_9 rfl (Z) (rfl) (by decide) (by decide) (I.iM.1) ?_
      refine xw_icmp_ge 27 13 dX5_wrongOne_10 rfl rfl (fun h10 => ?_) (fun h10 => absurd (nI_le (by omega) (by omega)) h10)
      refine xw_iload_n 28 dX5_wrongOne_27 rfl rfl ?_
      refine xw_aload_n 29 dX5_wrongOne_28 rfl rfl rfl ?_
      refine xw_get 32 dX5_wrongOne_29 rfl f_X5_7 (O) rfl ?_
      refine xw_bipush 34 (nI 6) dX5_wrongOne_32 rfl (by decide) ?_
      refine xw_ialv (j := 6) 35 dX5_wrongOne_34 rfl (Z) (rfl) (by decide) (by decide) (I.iM.1) ?_
      refine xw_icmp_ne 42 38 dX5_wrongOne_35 rfl rfl (fun h35 => absurd (congrArg nI e1) h35) (fun h35 => ?_)
      refine xw_iconst 39 (-1) dX5_wrongOne_38 rfl rfl ?_
      refine xw_goto 43 dX5_wrongOne_39 rfl ?_
      exact xw_ireturn dX5_wrongOne_43 rfl (⟨rfl, rfl⟩)
    | succ t ih =>
      intro i hi
      have ih := ih (i + 1) (by omega)
      have hx := S_M_isWrong (G := G) (x := x) (n := i) O Z I (by omega)
      by_cases hz : zwr z i = true
      · have e1 : xfnd (zwr z) i (t + 1) = some i := if_pos hz
        rw [if_pos hz] at hx
        rw [e1]
        refine xw_iload_n 3 dX5_wrongOne_2 rfl rfl ?_
        refine xw_aload_n 4 dX5_wrongOne_3 rfl rfl rfl ?_
        refine xw_get 7 dX5_wrongOne_4 rfl f_X5_7 (O) rfl ?_
        refine xw_bipush 9 (nI 6) dX5_wrongOne_7 rfl (by decide) ?_
        refine xw_ialv (j := 6) 10 dX5_wrongOne_9 rfl (Z) (rfl) (by decide) (by decide) (I.iM.1) ?_
        refine xw_icmp_ge 27 13 dX5_wrongOne_10 rfl rfl (fun h10 => absurd h10 (nI_ge (by omega) (by omega))) (fun h10 => ?_)
        refine xw_aload_n 14 dX5_wrongOne_13 rfl rfl rfl ?_
        refine xw_iload_n 15 dX5_wrongOne_14 rfl rfl ?_
        refine xw_pV 18 dX5_wrongOne_15 rfl ok_M_isWrong s_X5_68 (hx) (rfl) (O) rfl rfl rfl rfl rfl rfl rfl ?_
        refine xw_if_ne 27 21 dX5_wrongOne_18 rfl rfl (fun h18 => ?_) (fun h18 => absurd h18 (by decide))
        refine xw_iload_n 28 dX5_wrongOne_27 rfl rfl ?_
        refine xw_aload_n 29 dX5_wrongOne_28 rfl rfl rfl ?_
        refine xw_get 32 dX5_wrongOne_29 rfl f_X5_7 (O) rfl ?_
        refine xw_bipush 34 (nI 6) dX5_wrongOne_32 rfl (by decide) ?_
        refine xw_ialv (j := 6) 35 dX5_wrongOne_34 rfl (Z) (rfl) (by decide) (by decide) (I.iM.1) ?_
        refine xw_icmp_ne 42 38 dX5_wrongOne_35 rfl rfl (fun h35 => ?_) (fun h35 => absurd h35 (fun q => by rw [nI_eq (by omega) (by omega)] at q; omega))
        refine xw_iload_n 43 dX5_wrongOne_42 rfl rfl ?_
        exact xw_ireturn dX5_wrongOne_43 rfl (⟨rfl, rfl⟩)
      · have e1 : xfnd (zwr z) i (t + 1) = xfnd (zwr z) (i + 1) t := if_neg hz
        rw [if_neg hz] at hx
        rw [e1]
        refine xw_iload_n 3 dX5_wrongOne_2 rfl rfl ?_
        refine xw_aload_n 4 dX5_wrongOne_3 rfl rfl rfl ?_
        refine xw_get 7 dX5_wrongOne_4 rfl f_X5_7 (O) rfl ?_
        refine xw_bipush 9 (nI 6) dX5_wrongOne_7 rfl (by decide) ?_
        refine xw_ialv (j := 6) 10 dX5_wrongOne_9 rfl (Z) (rfl) (by decide) (by decide) (I.iM.1) ?_
        refine xw_icmp_ge 27 13 dX5_wrongOne_10 rfl rfl (fun h10 => absurd h10 (nI_ge (by omega) (by omega))) (fun h10 => ?_)
        refine xw_aload_n 14 dX5_wrongOne_13 rfl rfl rfl ?_
        refine xw_iload_n 15 dX5_wrongOne_14 rfl rfl ?_
        refine xw_pV 18 dX5_wrongOne_15 rfl ok_M_isWrong s_X5_68 (hx) (rfl) (O) rfl rfl rfl rfl rfl rfl rfl ?_
        refine xw_if_ne 27 21 dX5_wrongOne_18 rfl rfl (fun h18 => absurd (rfl) h18) (fun h18 => ?_)
        refine xw_iinc (ls' := [(1, _), (0, _)]) 24 _ dX5_wrongOne_21 rfl rfl (xnI_inc _) rfl rfl ?_
        refine xw_goto 2 dX5_wrongOne_24 rfl ?_
        exact xW.pick [0, 1] rfl (ih)
  refine xw_iconst 1 (nI 0) dX5_wrongOne_0 rfl (xofI 0) ?_
  refine xw_istore_n (ls' := [(1, _), (0, _)]) 2 dX5_wrongOne_1 rfl rfl rfl ?_
  exact loop (zI z 6) 0 (by omega)
theorem S_M_rightLeft (O : hp[71]? = some (.inr (5, .ref 72 :: .int st :: mo))) (Z : hp[72]? = some (.inl (0, 435, .inl z))) (I : xInv z) : xMet G M_rightLeft [.ref 71] hp x 0 0 (xRetV (.int (nI (zkeep z (zI z 6)))) hp) := by
  have hA1 := I.iA.2.1
  have hA2 := I.iA.2.2
  have hS2 := I.iS.2.2
  have hR1 := I.iR.2.1
  have hR2 := I.iR.2.2
  have hC1 := I.iC.2.1
  have hC2 := I.iC.2.2
  have hM2 := I.iM.2.2
  have hK1 := I.iK.2.1
  have hK2 := I.iK.2.2
  have loop : ∀ (t i : Nat), i + t = zI z 6 → xW G M_rightLeft (xRetV (.int (nI (zkeep z (zI z 6)))) hp) 4 [(2, .int (nI i)), (1, .int (nI (zkeep z i))), (0, .ref 71)] [] hp x 0 0 := by
    intro t
    induction t with
    | zero =>
      intro i hi
      have e1 : i = zI z 6 := by omega
      refine xw_iload_n 5 dX5_rightLeft_4 rfl rfl ?_
      refine xw_aload_n 6 dX5_rightLeft_5 rfl rfl rfl ?_
      refine xw_get 9 dX5_rightLeft_6 rfl f_X5_7 (O) rfl ?_
      refine xw_bipush 11 (nI 6) dX5_rightLeft_9 rfl (by decide) ?_
      refine xw_ialv (j := 6) 12 dX5_rightLeft_11 rfl (Z) (rfl) (by decide) (by decide) (I.iM.1) ?_
      refine xw_icmp_ge 47 15 dX5_rightLeft_12 rfl rfl (fun h12 => ?_) (fun h12 => absurd (nI_le (by omega) (by omega)) h12)
      refine xw_iload_n 48 dX5_rightLeft_47 rfl rfl ?_
      exact xw_ireturn dX5_rightLeft_48 rfl (by rw [e1]; exact ⟨rfl, rfl⟩)
    | succ t ih =>
      intro i hi
      have ih := ih (i + 1) (by omega)
      have hk := zkeep_le z i
      refine xw_iload_n 5 dX5_rightLeft_4 rfl rfl ?_
      refine xw_aload_n 6 dX5_rightLeft_5 rfl rfl rfl ?_
      refine xw_get 9 dX5_rightLeft_6 rfl f_X5_7 (O) rfl ?_
      refine xw_bipush 11 (nI 6) dX5_rightLeft_9 rfl (by decide) ?_
      refine xw_ialv (j := 6) 12 dX5_rightLeft_11 rfl (Z) (rfl) (by decide) (by decide) (I.iM.1) ?_
      refine xw_icmp_ge 47 15 dX5_rightLeft_12 rfl rfl (fun h12 => absurd h12 (nI_ge (by omega) (by omega))) (fun h12 => ?_)
      refine xw_iload_n 16 dX5_rightLeft_15 rfl rfl ?_
      refine xw_aload_n 17 dX5_rightLeft_16 rfl rfl rfl ?_
      refine xw_get 20 dX5_rightLeft_17 rfl f_X5_7 (O) rfl ?_
      refine xw_sipush 23 (nI 147) dX5_rightLeft_20 rfl (by decide) ?_
      refine xw_iload_n 24 dX5_rightLeft_23 rfl rfl ?_
      refine xw_iadd 25 dX5_rightLeft_24 rfl ?_
      refine xw_iaload (j := _) 26 dX5_rightLeft_25 rfl (Z) (nI_add _ _) (by omega) (by omega) ?_
      refine xw_aload_n 27 dX5_rightLeft_26 rfl rfl rfl ?_
      refine xw_iload_n 28 dX5_rightLeft_27 rfl rfl ?_
      refine xw_pV 31 dX5_rightLeft_28 rfl ok_M_colourOf s_X5_65 (S_M_colourOf O Z I (by omega)) (rfl) (O) rfl rfl rfl rfl rfl rfl rfl ?_
      refine xw_icmp_ne 38 34 dX5_rightLeft_31 rfl rfl (fun h31 => ?_) (fun h31 => ?_)
      · refine xw_iconst 39 (nI 0) dX5_rightLeft_38 rfl (xofI 0) ?_
        refine xw_iadd 40 dX5_rightLeft_39 rfl ?_
        rw [nI_add]
        refine xw_istore_n (ls' := [(1, _), (2, _), (0, _)]) 41 dX5_rightLeft_40 rfl rfl rfl ?_
        refine xw_iinc (ls' := [(2, _), (1, _), (0, _)]) 44 _ dX5_rightLeft_41 rfl rfl (xnI_inc _) rfl rfl ?_
        refine xw_goto 4 dX5_rightLeft_44 rfl ?_
        have e1 : zkeep z (i + 1) = zkeep z i := if_neg h31
        rw [e1] at ih
        exact xW.pick [0, 1, 2] rfl (ih)
      · refine xw_iconst 35 (nI 1) dX5_rightLeft_34 rfl (xofI 1) ?_
        refine xw_goto 39 dX5_rightLeft_35 rfl ?_
        refine xw_iadd 40 dX5_rightLeft_39 rfl ?_
        rw [nI_add]
        refine xw_istore_n (ls' := [(1, _), (2, _), (0, _)]) 41 dX5_rightLeft_40 rfl rfl rfl ?_
        refine xw_iinc (ls' := [(2, _), (1, _), (0, _)]) 44 _ dX5_rightLeft_41 rfl rfl (xnI_inc _) rfl rfl ?_
        refine xw_goto 4 dX5_rightLeft_44 rfl ?_
        have e1 : zkeep z (i + 1) = zkeep z i + 1 := if_pos h31
        rw [e1] at ih
        exact xW.pick [0, 1, 2] rfl (ih)
  refine xw_iconst 1 (nI 0) dX5_rightLeft_0 rfl (xofI 0) ?_
  refine xw_istore_n (ls' := [(1, _), (0, _)]) 2 dX5_rightLeft_1 rfl rfl rfl ?_
  refine xw_iconst 3 (nI 0) dX5_rightLeft_2 rfl (xofI 0) ?_
  refine xw_istore_n (ls' := [(2, _), (1, _), (0, _)]) 4 dX5_rightLeft_3 rfl rfl rfl ?_
  exact loop (zI z 6) 0 (by omega)
theorem S_M_share (O : hp[71]? = some (.inr (5, .ref 72 :: .int st :: mo))) (Z : hp[72]? = some (.inl (0, 435, .inl z))) (I : xInv z) : xMet G M_share [.ref 71] hp x 0 0 (xRetV (.double (zshare z)) hp) := by
  have hA1 := I.iA.2.1
  have hA2 := I.iA.2.2
  have hS2 := I.iS.2.2
  have hR1 := I.iR.2.1
  have hR2 := I.iR.2.2
  have hC1 := I.iC.2.1
  have hC2 := I.iC.2.2
  have hM2 := I.iM.2.2
  have hK1 := I.iK.2.1
  have hK2 := I.iK.2.2
  have hn := zshare_nn I
  by_cases h0 : zI z 6 = 0
  · have e : zshare z = FP.dconst0 := if_pos h0
    rw [e]
    refine xw_aload_n 1 dX5_share_0 rfl rfl rfl ?_
    refine xw_get 4 dX5_share_1 rfl f_X5_7 (O) rfl ?_
    refine xw_bipush 6 (nI 6) dX5_share_4 rfl (by decide) ?_
    refine xw_ialv (j := 6) 7 dX5_share_6 rfl (Z) (rfl) (by decide) (by decide) (I.iM.1) ?_
    refine xw_if_ne 14 10 dX5_share_7 rfl rfl (fun h7 => absurd (by rw [h0]; rfl) h7) (fun h7 => ?_)
    refine xw_dconst0 11 dX5_share_10 rfl ?_
    refine xw_goto 28 dX5_share_11 rfl ?_
    exact xw_dreturn dX5_share_28 rfl (⟨rfl, rfl⟩)
  · have e : zshare z = FP.ddiv (FP.i2d (nI (xctr (zwr z) 0 (zI z 6)))) (FP.i2d (nI (zI z 6))) := if_neg h0
    rw [e] at hn ⊢
    refine xw_aload_n 1 dX5_share_0 rfl rfl rfl ?_
    refine xw_get 4 dX5_share_1 rfl f_X5_7 (O) rfl ?_
    refine xw_bipush 6 (nI 6) dX5_share_4 rfl (by decide) ?_
    refine xw_ialv (j := 6) 7 dX5_share_6 rfl (Z) (rfl) (by decide) (by decide) (I.iM.1) ?_
    refine xw_if_ne 14 10 dX5_share_7 rfl rfl (fun h7 => ?_) (fun h7 => absurd h7 (nI_ne0 (by omega) (by omega)))
    refine xw_aload_n 15 dX5_share_14 rfl rfl rfl ?_
    refine xw_pV 18 dX5_share_15 rfl ok_M_wrongs s_X5_188 (S_M_wrongs O Z I) (rfl) (O) rfl rfl rfl rfl rfl rfl rfl ?_
    refine xw_i2d 19 dX5_share_18 rfl ?_
    refine xw_aload_n 20 dX5_share_19 rfl rfl rfl ?_
    refine xw_get 23 dX5_share_20 rfl f_X5_7 (O) rfl ?_
    refine xw_bipush 25 (nI 6) dX5_share_23 rfl (by decide) ?_
    refine xw_ialv (j := 6) 26 dX5_share_25 rfl (Z) (rfl) (by decide) (by decide) (I.iM.1) ?_
    refine xw_i2d 27 dX5_share_26 rfl ?_
    refine xw_ddiv 28 dX5_share_27 rfl (hn) ?_
    exact xw_dreturn dX5_share_28 rfl (⟨rfl, rfl⟩)
end P41

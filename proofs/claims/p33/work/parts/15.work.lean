/-! ===== Work: what only reads ===== -/
theorem zcells_eq {w : Nat → Int32} {C R : Nat} {v : Int32} (hR : R ≤ 10) (hC : C ≤ 12) : xct2 (fun r c => decide (xsl w 27 120 (r * 12 + c) = v)) C R = xct2 (fun r c => decide (w (27 + (r * 12 + c)) = v)) C R :=
  xct2_congr fun r c hr hc => by rw [xsl_at (by omega)]
section P15
variable {G : xG} {hp : List xE} {x : Nat} {p : Nat} {w : Nat → Int32}
theorem S_W_patternColour {n : Nat} (W : xWk hp p w) (I : xInv w) (hn : n ≤ 1000) : xMet G W_patternColour [.ref p, .int (nI n)] hp x 0 0 (xRetV (.int (pcol w n)) hp) := by
  have hpl := I.pl n
  refine xw_aload_n 1 dX3_patternColour_0 rfl rfl rfl ?_
  refine xw_get 4 dX3_patternColour_1 rfl f_X3_12 (W.o) rfl ?_
  refine xw_iload_n 5 dX3_patternColour_4 rfl rfl ?_
  refine xw_aload_n 6 dX3_patternColour_5 rfl rfl rfl ?_
  refine xw_get 9 dX3_patternColour_6 rfl f_X3_18 (W.o) rfl ?_
  refine xw_iconst 10 (nI 0) dX3_patternColour_9 rfl (xofI 0) ?_
  refine xw_pSN 13 dX3_patternColour_10 rfl ok_B_at s_X3_58 (S_B_ats W.se (by decide) rfl (by decide) I.iA.1) (rfl) rfl rfl rfl rfl rfl rfl ?_
  refine xw_aload_n 14 dX3_patternColour_13 rfl rfl rfl ?_
  refine xw_get 17 dX3_patternColour_14 rfl f_X3_18 (W.o) rfl ?_
  refine xw_iconst 18 (nI 1) dX3_patternColour_17 rfl (xofI 1) ?_
  refine xw_pSN 21 dX3_patternColour_18 rfl ok_B_at s_X3_58 (S_B_ats W.se (j := 1) (by decide) rfl (by decide) I.iS.1) (rfl) rfl rfl rfl rfl rfl rfl ?_
  refine xw_pVN 24 dX3_patternColour_21 rfl ok_C_placeFor s_X3_62 (S_C_placeFor (W.cc I) I.iR.2.1 I.iR.2.2 I.iC.2.1 I.iC.2.2 (Nat.le_trans (by decide) I.iA.2.1) I.iA.2.2 I.iS.2.2 hn) (rfl) (W.ch) rfl rfl rfl rfl rfl rfl rfl ?_
  refine xw_istore_n (ls' := [(2, _), (0, _), (1, _)]) 25 dX3_patternColour_24 rfl rfl rfl ?_
  refine xw_aload_n 26 dX3_patternColour_25 rfl rfl rfl ?_
  refine xw_get 29 dX3_patternColour_26 rfl f_X3_12 (W.o) rfl ?_
  refine xw_get 32 dX3_patternColour_29 rfl f_X3_66 (W.ch) rfl ?_
  refine xw_iload_n 33 dX3_patternColour_32 rfl rfl ?_
  refine xw_pSN 36 dX3_patternColour_33 rfl ok_B_at s_X3_58 (S_B_ats W.ce (by decide) rfl hpl rfl) (rfl) rfl rfl rfl rfl rfl rfl ?_
  exact xw_ireturn dX3_patternColour_36 rfl (⟨rfl, rfl⟩)
theorem S_W_isWrong {n : Nat} (W : xWk hp p w) (I : xInv w) (hn : n < 240) : xMet G W_isWrong [.ref p, .int (nI n)] hp x 0 0 (xRetV (.int (nI (if zwr w n = true then 1 else 0))) hp) := by
  by_cases h : w (147 + n) = pcol w n
  · have hz : ¬ zwr w n = true := by simp [zwr, h]
    rw [if_neg hz]
    refine xw_aload_n 1 dX3_isWrong_0 rfl rfl rfl ?_
    refine xw_get 4 dX3_isWrong_1 rfl f_X3_38 (W.o) rfl ?_
    refine xw_iload_n 5 dX3_isWrong_4 rfl rfl ?_
    refine xw_pSN 8 dX3_isWrong_5 rfl ok_B_at s_X3_58 (S_B_ats W.be (by decide) rfl hn rfl) (rfl) rfl rfl rfl rfl rfl rfl ?_
    refine xw_aload_n 9 dX3_isWrong_8 rfl rfl rfl ?_
    refine xw_iload_n 10 dX3_isWrong_9 rfl rfl ?_
    refine xw_pV 13 dX3_isWrong_10 rfl ok_W_patternColour s_X3_73 (S_W_patternColour W I (by omega)) (rfl) (W.o) rfl rfl rfl rfl rfl rfl rfl ?_
    refine xw_icmp_eq 20 16 dX3_isWrong_13 rfl rfl (fun h13 => ?_) (fun h13 => absurd (h) h13)
    refine xw_iconst 21 (nI 0) dX3_isWrong_20 rfl (xofI 0) ?_
    exact xw_zreturn dX3_isWrong_21 rfl (by decide) (⟨rfl, rfl⟩)
  · have hz : zwr w n = true := by simp [zwr, h]
    rw [if_pos hz]
    refine xw_aload_n 1 dX3_isWrong_0 rfl rfl rfl ?_
    refine xw_get 4 dX3_isWrong_1 rfl f_X3_38 (W.o) rfl ?_
    refine xw_iload_n 5 dX3_isWrong_4 rfl rfl ?_
    refine xw_pSN 8 dX3_isWrong_5 rfl ok_B_at s_X3_58 (S_B_ats W.be (by decide) rfl hn rfl) (rfl) rfl rfl rfl rfl rfl rfl ?_
    refine xw_aload_n 9 dX3_isWrong_8 rfl rfl rfl ?_
    refine xw_iload_n 10 dX3_isWrong_9 rfl rfl ?_
    refine xw_pV 13 dX3_isWrong_10 rfl ok_W_patternColour s_X3_73 (S_W_patternColour W I (by omega)) (rfl) (W.o) rfl rfl rfl rfl rfl rfl rfl ?_
    refine xw_icmp_eq 20 16 dX3_isWrong_13 rfl rfl (fun h13 => absurd h13 (h)) (fun h13 => ?_)
    refine xw_iconst 17 (nI 1) dX3_isWrong_16 rfl (xofI 1) ?_
    refine xw_goto 21 dX3_isWrong_17 rfl ?_
    exact xw_zreturn dX3_isWrong_21 rfl (by decide) (⟨rfl, rfl⟩)
theorem S_W_wrongBetween {b e : Nat} (W : xWk hp p w) (I : xInv w) (he : e ≤ 240) (hb : b ≤ 1000) : xMet G W_wrongBetween [.ref p, .int (nI b), .int (nI e)] hp x 0 0 (xRetV (.int (nI (xctr (zwr w) b e))) hp) := by
  have loop : ∀ (t i : Nat), i + t = e - b → xW G W_wrongBetween (xRetV (.int (nI (xctr (zwr w) b e))) hp) 5 [(4, .int (nI (b + i))), (3, .int (nI (xct (fun k => zwr w (b + k)) i))), (0, .ref p), (1, .int (nI b)), (2, .int (nI e))] [] hp x 0 0 := by
    intro t
    induction t with
    | zero =>
      intro i hi
      have e1 : i = e - b := by omega
      subst e1
      refine xw_iload 7 dX3_wrongBetween_5 rfl rfl ?_
      refine xw_iload_n 8 dX3_wrongBetween_7 rfl rfl ?_
      refine xw_icmp_ge 29 11 dX3_wrongBetween_8 rfl rfl (fun h8 => ?_) (fun h8 => absurd (nI_le (by omega) (by omega)) h8)
      refine xw_iload_n 30 dX3_wrongBetween_29 rfl rfl ?_
      exact xw_ireturn dX3_wrongBetween_30 rfl (⟨rfl, rfl⟩)
    | succ t ih =>
      intro i hi
      have ih := ih (i + 1) (by omega)
      have hx := S_W_isWrong (G := G) (x := x) (n := b + i) W I (by omega)
      by_cases hz : zwr w (b + i) = true
      · rw [if_pos hz] at hx
        have e1 : xct (fun k => zwr w (b + k)) (i + 1) = xct (fun k => zwr w (b + k)) i + 1 := xct_y hz
        rw [e1] at ih
        refine xw_iload 7 dX3_wrongBetween_5 rfl rfl ?_
        refine xw_iload_n 8 dX3_wrongBetween_7 rfl rfl ?_
        refine xw_icmp_ge 29 11 dX3_wrongBetween_8 rfl rfl (fun h8 => absurd h8 (nI_ge (by omega) (by omega))) (fun h8 => ?_)
        refine xw_aload_n 12 dX3_wrongBetween_11 rfl rfl rfl ?_
        refine xw_iload 14 dX3_wrongBetween_12 rfl rfl ?_
        refine xw_pV 17 dX3_wrongBetween_14 rfl ok_W_isWrong s_X3_77 (hx) (rfl) (W.o) rfl rfl rfl rfl rfl rfl rfl ?_
        refine xw_if_eq 23 20 dX3_wrongBetween_17 rfl rfl (fun h17 => absurd h17 (by decide)) (fun h17 => ?_)
        refine xw_iinc (ls' := [(3, _), (4, _), (0, _), (1, _), (2, _)]) 23 _ dX3_wrongBetween_20 rfl rfl (xnI_inc _) rfl rfl ?_
        refine xw_iinc (ls' := [(4, _), (3, _), (0, _), (1, _), (2, _)]) 26 _ dX3_wrongBetween_23 rfl rfl (xnI_inc _) rfl rfl ?_
        refine xw_goto 5 dX3_wrongBetween_26 rfl ?_
        exact xW.pick [0, 1, 2, 3, 4] rfl (ih)
      · rw [if_neg hz] at hx
        have e1 : xct (fun k => zwr w (b + k)) (i + 1) = xct (fun k => zwr w (b + k)) i := xct_n hz
        rw [e1] at ih
        refine xw_iload 7 dX3_wrongBetween_5 rfl rfl ?_
        refine xw_iload_n 8 dX3_wrongBetween_7 rfl rfl ?_
        refine xw_icmp_ge 29 11 dX3_wrongBetween_8 rfl rfl (fun h8 => absurd h8 (nI_ge (by omega) (by omega))) (fun h8 => ?_)
        refine xw_aload_n 12 dX3_wrongBetween_11 rfl rfl rfl ?_
        refine xw_iload 14 dX3_wrongBetween_12 rfl rfl ?_
        refine xw_pV 17 dX3_wrongBetween_14 rfl ok_W_isWrong s_X3_77 (hx) (rfl) (W.o) rfl rfl rfl rfl rfl rfl rfl ?_
        refine xw_if_eq 23 20 dX3_wrongBetween_17 rfl rfl (fun h17 => ?_) (fun h17 => absurd (by decide) h17)
        refine xw_iinc (ls' := [(4, _), (3, _), (0, _), (1, _), (2, _)]) 26 _ dX3_wrongBetween_23 rfl rfl (xnI_inc _) rfl rfl ?_
        refine xw_goto 5 dX3_wrongBetween_26 rfl ?_
        exact xW.pick [0, 1, 2, 3, 4] rfl (ih)
  refine xw_iconst 1 (nI 0) dX3_wrongBetween_0 rfl (xofI 0) ?_
  refine xw_istore_n (ls' := [(3, _), (0, _), (1, _), (2, _)]) 2 dX3_wrongBetween_1 rfl rfl rfl ?_
  refine xw_iload_n 3 dX3_wrongBetween_2 rfl rfl ?_
  refine xw_istore (ls' := [(4, _), (3, _), (0, _), (1, _), (2, _)]) 5 dX3_wrongBetween_3 rfl rfl rfl ?_
  exact loop (e - b) 0 (by omega)
theorem S_W_wrongOf {c : Nat} (W : xWk hp p w) (I : xInv w) : xMet G W_wrongOf [.ref p, .int (nI c)] hp x 0 0 (xRetV (.int (nI (xct (fun n => decide (w (147 + n) = nI c) && zwr w n) (zI w 6)))) hp) := by
  have hM := I.iM.2.2
  have hW := W.o
  rw [I.iM.1] at hW
  have loop : ∀ (t i : Nat), i + t = zI w 6 → xW G W_wrongOf (xRetV (.int (nI (xct (fun n => decide (w (147 + n) = nI c) && zwr w n) (zI w 6)))) hp) 4 [(3, .int (nI i)), (2, .int (nI (xct (fun n => decide (w (147 + n) = nI c) && zwr w n) i))), (0, .ref p), (1, .int (nI c))] [] hp x 0 0 := by
    intro t
    induction t with
    | zero =>
      intro i hi
      have e1 : i = zI w 6 := by omega
      refine xw_iload_n 5 dX3_wrongOf_4 rfl rfl ?_
      refine xw_aload_n 6 dX3_wrongOf_5 rfl rfl rfl ?_
      refine xw_get 9 dX3_wrongOf_6 rfl f_X3_44 (hW) rfl ?_
      refine xw_icmp_ge 41 12 dX3_wrongOf_9 rfl rfl (fun h9 => ?_) (fun h9 => absurd (nI_le (by omega) (by omega)) h9)
      refine xw_iload_n 42 dX3_wrongOf_41 rfl rfl ?_
      exact xw_ireturn dX3_wrongOf_42 rfl (by rw [e1]; exact ⟨rfl, rfl⟩)
    | succ t ih =>
      intro i hi
      have ih := ih (i + 1) (by omega)
      have hx := S_W_isWrong (G := G) (x := x) (n := i) W I (by omega)
      by_cases hc : w (147 + i) = nI c
      · by_cases hz : zwr w i = true
        · rw [if_pos hz] at hx
          have e1 : xct (fun n => decide (w (147 + n) = nI c) && zwr w n) (i + 1) = xct (fun n => decide (w (147 + n) = nI c) && zwr w n) i + 1 := xct_y (by simp [hc, hz])
          rw [e1] at ih
          refine xw_iload_n 5 dX3_wrongOf_4 rfl rfl ?_
          refine xw_aload_n 6 dX3_wrongOf_5 rfl rfl rfl ?_
          refine xw_get 9 dX3_wrongOf_6 rfl f_X3_44 (hW) rfl ?_
          refine xw_icmp_ge 41 12 dX3_wrongOf_9 rfl rfl (fun h9 => absurd h9 (nI_ge (by omega) (by omega))) (fun h9 => ?_)
          refine xw_aload_n 13 dX3_wrongOf_12 rfl rfl rfl ?_
          refine xw_get 16 dX3_wrongOf_13 rfl f_X3_38 (W.o) rfl ?_
          refine xw_iload_n 17 dX3_wrongOf_16 rfl rfl ?_
          refine xw_pSN 20 dX3_wrongOf_17 rfl ok_B_at s_X3_58 (S_B_ats W.be (by decide) rfl (by omega) rfl) (rfl) rfl rfl rfl rfl rfl rfl ?_
          refine xw_iload_n 21 dX3_wrongOf_20 rfl rfl ?_
          refine xw_icmp_ne 35 24 dX3_wrongOf_21 rfl rfl (fun h21 => absurd (hc) h21) (fun h21 => ?_)
          refine xw_aload_n 25 dX3_wrongOf_24 rfl rfl rfl ?_
          refine xw_iload_n 26 dX3_wrongOf_25 rfl rfl ?_
          refine xw_pV 29 dX3_wrongOf_26 rfl ok_W_isWrong s_X3_77 (hx) (rfl) (W.o) rfl rfl rfl rfl rfl rfl rfl ?_
          refine xw_if_eq 35 32 dX3_wrongOf_29 rfl rfl (fun h29 => absurd h29 (by decide)) (fun h29 => ?_)
          refine xw_iinc (ls' := [(2, _), (3, _), (0, _), (1, _)]) 35 _ dX3_wrongOf_32 rfl rfl (xnI_inc _) rfl rfl ?_
          refine xw_iinc (ls' := [(3, _), (2, _), (0, _), (1, _)]) 38 _ dX3_wrongOf_35 rfl rfl (xnI_inc _) rfl rfl ?_
          refine xw_goto 4 dX3_wrongOf_38 rfl ?_
          exact xW.pick [0, 1, 2, 3] rfl (ih)
        · rw [if_neg hz] at hx
          have e1 : xct (fun n => decide (w (147 + n) = nI c) && zwr w n) (i + 1) = xct (fun n => decide (w (147 + n) = nI c) && zwr w n) i := xct_n (by simp [hz])
          rw [e1] at ih
          refine xw_iload_n 5 dX3_wrongOf_4 rfl rfl ?_
          refine xw_aload_n 6 dX3_wrongOf_5 rfl rfl rfl ?_
          refine xw_get 9 dX3_wrongOf_6 rfl f_X3_44 (hW) rfl ?_
          refine xw_icmp_ge 41 12 dX3_wrongOf_9 rfl rfl (fun h9 => absurd h9 (nI_ge (by omega) (by omega))) (fun h9 => ?_)
          refine xw_aload_n 13 dX3_wrongOf_12 rfl rfl rfl ?_
          refine xw_get 16 dX3_wrongOf_13 rfl f_X3_38 (W.o) rfl ?_
          refine xw_iload_n 17 dX3_wrongOf_16 rfl rfl ?_
          refine xw_pSN 20 dX3_wrongOf_17 rfl ok_B_at s_X3_58 (S_B_ats W.be (by decide) rfl (by omega) rfl) (rfl) rfl rfl rfl rfl rfl rfl ?_
          refine xw_iload_n 21 dX3_wrongOf_20 rfl rfl ?_
          refine xw_icmp_ne 35 24 dX3_wrongOf_21 rfl rfl (fun h21 => absurd (hc) h21) (fun h21 => ?_)
          refine xw_aload_n 25 dX3_wrongOf_24 rfl rfl rfl ?_
          refine xw_iload_n 26 dX3_wrongOf_25 rfl rfl ?_
          refine xw_pV 29 dX3_wrongOf_26 rfl ok_W_isWrong s_X3_77 (hx) (rfl) (W.o) rfl rfl rfl rfl rfl rfl rfl ?_
          refine xw_if_eq 35 32 dX3_wrongOf_29 rfl rfl (fun h29 => ?_) (fun h29 => absurd (by decide) h29)
          refine xw_iinc (ls' := [(3, _), (2, _), (0, _), (1, _)]) 38 _ dX3_wrongOf_35 rfl rfl (xnI_inc _) rfl rfl ?_
          refine xw_goto 4 dX3_wrongOf_38 rfl ?_
          exact xW.pick [0, 1, 2, 3] rfl (ih)
      · have e1 : xct (fun n => decide (w (147 + n) = nI c) && zwr w n) (i + 1) = xct (fun n => decide (w (147 + n) = nI c) && zwr w n) i := xct_n (by simp [hc])
        rw [e1] at ih
        refine xw_iload_n 5 dX3_wrongOf_4 rfl rfl ?_
        refine xw_aload_n 6 dX3_wrongOf_5 rfl rfl rfl ?_
        refine xw_get 9 dX3_wrongOf_6 rfl f_X3_44 (hW) rfl ?_
        refine xw_icmp_ge 41 12 dX3_wrongOf_9 rfl rfl (fun h9 => absurd h9 (nI_ge (by omega) (by omega))) (fun h9 => ?_)
        refine xw_aload_n 13 dX3_wrongOf_12 rfl rfl rfl ?_
        refine xw_get 16 dX3_wrongOf_13 rfl f_X3_38 (W.o) rfl ?_
        refine xw_iload_n 17 dX3_wrongOf_16 rfl rfl ?_
        refine xw_pSN 20 dX3_wrongOf_17 rfl ok_B_at s_X3_58 (S_B_ats W.be (by decide) rfl (by omega) rfl) (rfl) rfl rfl rfl rfl rfl rfl ?_
        refine xw_iload_n 21 dX3_wrongOf_20 rfl rfl ?_
        refine xw_icmp_ne 35 24 dX3_wrongOf_21 rfl rfl (fun h21 => ?_) (fun h21 => absurd h21 (hc))
        refine xw_iinc (ls' := [(3, _), (2, _), (0, _), (1, _)]) 38 _ dX3_wrongOf_35 rfl rfl (xnI_inc _) rfl rfl ?_
        refine xw_goto 4 dX3_wrongOf_38 rfl ?_
        exact xW.pick [0, 1, 2, 3] rfl (ih)
  refine xw_iconst 1 (nI 0) dX3_wrongOf_0 rfl (xofI 0) ?_
  refine xw_istore_n (ls' := [(2, _), (0, _), (1, _)]) 2 dX3_wrongOf_1 rfl rfl rfl ?_
  refine xw_iconst 3 (nI 0) dX3_wrongOf_2 rfl (xofI 0) ?_
  refine xw_istore_n (ls' := [(3, _), (2, _), (0, _), (1, _)]) 4 dX3_wrongOf_3 rfl rfl rfl ?_
  exact loop (zI w 6) 0 (by omega)
theorem S_W_endOf {s : Nat} (W : xWk hp p w) (I : xInv w) (hs : s < zI w 7) : xMet G W_endOf [.ref p, .int (nI s)] hp x 0 0 (xRetV (.int (nI (zend w s))) hp) := by
  have hK := I.iK.2.2
  have hW := W.o
  rw [I.iK.1, I.iM.1] at hW
  by_cases h : s + 1 < zI w 7
  · have e : zend w s = zI w (387 + (s + 1)) := if_pos h
    rw [e]
    refine xw_iload_n 1 dX3_endOf_0 rfl rfl ?_
    refine xw_iconst 2 (nI 1) dX3_endOf_1 rfl (xofI 1) ?_
    refine xw_iadd 3 dX3_endOf_2 rfl ?_
    refine xw_aload_n 4 dX3_endOf_3 rfl rfl rfl ?_
    refine xw_get 7 dX3_endOf_4 rfl f_X3_48 (hW) rfl ?_
    refine xw_icmp_ge 23 10 dX3_endOf_7 rfl rfl (fun h7 => absurd h7 (by rw [nI_add]; exact nI_ge h (by omega))) (fun h7 => ?_)
    refine xw_aload_n 11 dX3_endOf_10 rfl rfl rfl ?_
    refine xw_get 14 dX3_endOf_11 rfl f_X3_41 (hW) rfl ?_
    refine xw_iload_n 15 dX3_endOf_14 rfl rfl ?_
    refine xw_iconst 16 (nI 1) dX3_endOf_15 rfl (xofI 1) ?_
    refine xw_iadd 17 dX3_endOf_16 rfl ?_
    refine xw_pSN 20 dX3_endOf_17 rfl ok_B_at s_X3_58 (S_B_ats W.bg (by decide) (nI_add _ _) (by omega) (I.iB _ h).1) (rfl) rfl rfl rfl rfl rfl rfl ?_
    refine xw_goto 27 dX3_endOf_20 rfl ?_
    exact xw_ireturn dX3_endOf_27 rfl (⟨rfl, rfl⟩)
  · have e : zend w s = zI w 6 := if_neg h
    rw [e]
    refine xw_iload_n 1 dX3_endOf_0 rfl rfl ?_
    refine xw_iconst 2 (nI 1) dX3_endOf_1 rfl (xofI 1) ?_
    refine xw_iadd 3 dX3_endOf_2 rfl ?_
    refine xw_aload_n 4 dX3_endOf_3 rfl rfl rfl ?_
    refine xw_get 7 dX3_endOf_4 rfl f_X3_48 (hW) rfl ?_
    refine xw_icmp_ge 23 10 dX3_endOf_7 rfl rfl (fun h7 => ?_) (fun h7 => absurd (by rw [nI_add]; exact nI_le (by omega) (by omega)) h7)
    refine xw_aload_n 24 dX3_endOf_23 rfl rfl rfl ?_
    refine xw_get 27 dX3_endOf_24 rfl f_X3_44 (hW) rfl ?_
    exact xw_ireturn dX3_endOf_27 rfl (⟨rfl, rfl⟩)
theorem S_W_lengthOf {s : Nat} (W : xWk hp p w) (I : xInv w) (hs : s < zI w 7) : xMet G W_lengthOf [.ref p, .int (nI s)] hp x 0 0 (xRetV (.int (nI (zlen w s))) hp) := by
  have hK := I.iK.2.2
  refine xw_aload_n 1 dX3_lengthOf_0 rfl rfl rfl ?_
  refine xw_iload_n 2 dX3_lengthOf_1 rfl rfl ?_
  refine xw_pV 5 dX3_lengthOf_2 rfl ok_W_endOf s_X3_81 (S_W_endOf W I hs) (rfl) (W.o) rfl rfl rfl rfl rfl rfl rfl ?_
  refine xw_aload_n 6 dX3_lengthOf_5 rfl rfl rfl ?_
  refine xw_get 9 dX3_lengthOf_6 rfl f_X3_41 (W.o) rfl ?_
  refine xw_iload_n 10 dX3_lengthOf_9 rfl rfl ?_
  refine xw_pSN 13 dX3_lengthOf_10 rfl ok_B_at s_X3_58 (S_B_ats W.bg (by decide) rfl (by omega) (I.iB _ hs).1) (rfl) rfl rfl rfl rfl rfl rfl ?_
  refine xw_isub 14 dX3_lengthOf_13 rfl ?_
  exact xw_ireturn dX3_lengthOf_14 rfl (by rw [pk_sub (I.el hs).1]; exact ⟨rfl, rfl⟩)
theorem S_W_stringOf {b : Nat} (W : xWk hp p w) (I : xInv w) (hb : b < 2 ^ 31) : xMet G W_stringOf [.ref p, .int (nI b)] hp x 0 0 (xRetV (.int (nI (zstr w b))) hp) := by
  have hK := I.iK.2.2
  have hK1 := I.iK.2.1
  have hM := I.iM.2.2
  have hW := W.o
  rw [I.iK.1] at hW
  have loop : ∀ (i : Nat), i < zI w 7 → xW G W_stringOf (xRetV (.int (nI (xdown (fun s => decide (zI w (387 + s) ≤ b)) i))) hp) 7 [(2, .int (nI i)), (0, .ref p), (1, .int (nI b))] [] hp x 0 0 := by
    intro i
    induction i with
    | zero =>
      intro hi
      refine xw_iload_n 8 dX3_stringOf_7 rfl rfl ?_
      refine xw_if_le 31 11 dX3_stringOf_8 rfl rfl (fun h8 => ?_) (fun h8 => absurd (xle0' rfl) h8)
      refine xw_iconst 32 (nI 0) dX3_stringOf_31 rfl (xofI 0) ?_
      exact xw_ireturn dX3_stringOf_32 rfl (⟨rfl, rfl⟩)
    | succ i ih =>
      intro hi
      have ih := ih (by omega)
      have hB := I.iB _ hi
      have hB2 := hB.2.2
      by_cases hz : zI w (387 + (i + 1)) ≤ b
      · have e1 : xdown (fun s => decide (zI w (387 + s) ≤ b)) (i + 1) = i + 1 := if_pos (by simpa using hz)
        rw [e1]
        refine xw_iload_n 8 dX3_stringOf_7 rfl rfl ?_
        refine xw_if_le 31 11 dX3_stringOf_8 rfl rfl (fun h8 => absurd h8 (xle0 (by omega) (by omega))) (fun h8 => ?_)
        refine xw_aload_n 12 dX3_stringOf_11 rfl rfl rfl ?_
        refine xw_get 15 dX3_stringOf_12 rfl f_X3_41 (hW) rfl ?_
        refine xw_iload_n 16 dX3_stringOf_15 rfl rfl ?_
        refine xw_pSN 19 dX3_stringOf_16 rfl ok_B_at s_X3_58 (S_B_ats W.bg (by decide) rfl (by omega) hB.1) (rfl) rfl rfl rfl rfl rfl rfl ?_
        refine xw_iload_n 20 dX3_stringOf_19 rfl rfl ?_
        refine xw_icmp_gt 25 23 dX3_stringOf_20 rfl rfl (fun h20 => absurd h20 (nI_nlt hz (by omega))) (fun h20 => ?_)
        refine xw_iload_n 24 dX3_stringOf_23 rfl rfl ?_
        exact xw_ireturn dX3_stringOf_24 rfl (⟨rfl, rfl⟩)
      · have e1 : xdown (fun s => decide (zI w (387 + s) ≤ b)) (i + 1) = xdown (fun s => decide (zI w (387 + s) ≤ b)) i := if_neg (by simpa using hz)
        rw [e1]
        refine xw_iload_n 8 dX3_stringOf_7 rfl rfl ?_
        refine xw_if_le 31 11 dX3_stringOf_8 rfl rfl (fun h8 => absurd h8 (xle0 (by omega) (by omega))) (fun h8 => ?_)
        refine xw_aload_n 12 dX3_stringOf_11 rfl rfl rfl ?_
        refine xw_get 15 dX3_stringOf_12 rfl f_X3_41 (hW) rfl ?_
        refine xw_iload_n 16 dX3_stringOf_15 rfl rfl ?_
        refine xw_pSN 19 dX3_stringOf_16 rfl ok_B_at s_X3_58 (S_B_ats W.bg (by decide) rfl (by omega) hB.1) (rfl) rfl rfl rfl rfl rfl rfl ?_
        refine xw_iload_n 20 dX3_stringOf_19 rfl rfl ?_
        refine xw_icmp_gt 25 23 dX3_stringOf_20 rfl rfl (fun h20 => ?_) (fun h20 => absurd (nI_lt (by omega) (by omega)) h20)
        refine xw_iinc (ls' := [(2, _), (0, _), (1, _)]) 28 _ dX3_stringOf_25 rfl rfl (xnI_dec _) rfl rfl ?_
        refine xw_goto 7 dX3_stringOf_28 rfl ?_
        exact xW.pick [0, 1, 2] rfl (ih)
  refine xw_aload_n 1 dX3_stringOf_0 rfl rfl rfl ?_
  refine xw_get 4 dX3_stringOf_1 rfl f_X3_48 (hW) rfl ?_
  refine xw_iconst 5 (nI 1) dX3_stringOf_4 rfl (xofI 1) ?_
  refine xw_isub 6 dX3_stringOf_5 rfl ?_
  refine xw_istore_n (ls' := [(2, _), (0, _), (1, _)]) 7 dX3_stringOf_6 rfl rfl rfl ?_
  rw [nI_1s hK1]
  exact loop (zI w 7 - 1) (by omega)
theorem S_W_isHidden {s : Nat} (W : xWk hp p w) (I : xInv w) (hs : s < zI w 7) : xMet G W_isHidden [.ref p, .int (nI s)] hp x 0 0 (xRetV (.int (nI (if zhid w s = true then 1 else 0))) hp) := by
  have hK := I.iK.2.2
  have hM := I.iM.2.2
  have hB := I.iB _ hs
  have hB2 := hB.2.2
  by_cases h : pcol w (zI w (387 + s)) = w 3
  · have hz : zhid w s = true := by simp [zhid, h]
    rw [if_pos hz]
    refine xw_aload_n 1 dX3_isHidden_0 rfl rfl rfl ?_
    refine xw_aload_n 2 dX3_isHidden_1 rfl rfl rfl ?_
    refine xw_get 5 dX3_isHidden_2 rfl f_X3_41 (W.o) rfl ?_
    refine xw_iload_n 6 dX3_isHidden_5 rfl rfl ?_
    refine xw_pSN 9 dX3_isHidden_6 rfl ok_B_at s_X3_58 (S_B_ats W.bg (by decide) rfl (by omega) hB.1) (rfl) rfl rfl rfl rfl rfl rfl ?_
    refine xw_pV 12 dX3_isHidden_9 rfl ok_W_patternColour s_X3_73 (S_W_patternColour W I (by omega)) (rfl) (W.o) rfl rfl rfl rfl rfl rfl rfl ?_
    refine xw_aload_n 13 dX3_isHidden_12 rfl rfl rfl ?_
    refine xw_get 16 dX3_isHidden_13 rfl f_X3_18 (W.o) rfl ?_
    refine xw_iconst 17 (nI 3) dX3_isHidden_16 rfl (xofI 3) ?_
    refine xw_pSN 20 dX3_isHidden_17 rfl ok_B_at s_X3_58 (S_B_ats W.se (j := 3) (by decide) rfl (by decide) rfl) (rfl) rfl rfl rfl rfl rfl rfl ?_
    refine xw_icmp_ne 27 23 dX3_isHidden_20 rfl rfl (fun h20 => absurd (h) h20) (fun h20 => ?_)
    refine xw_iconst 24 (nI 1) dX3_isHidden_23 rfl (xofI 1) ?_
    refine xw_goto 28 dX3_isHidden_24 rfl ?_
    exact xw_zreturn dX3_isHidden_28 rfl (by decide) (⟨rfl, rfl⟩)
  · have hz : ¬ zhid w s = true := by simp [zhid, h]
    rw [if_neg hz]
    refine xw_aload_n 1 dX3_isHidden_0 rfl rfl rfl ?_
    refine xw_aload_n 2 dX3_isHidden_1 rfl rfl rfl ?_
    refine xw_get 5 dX3_isHidden_2 rfl f_X3_41 (W.o) rfl ?_
    refine xw_iload_n 6 dX3_isHidden_5 rfl rfl ?_
    refine xw_pSN 9 dX3_isHidden_6 rfl ok_B_at s_X3_58 (S_B_ats W.bg (by decide) rfl (by omega) hB.1) (rfl) rfl rfl rfl rfl rfl rfl ?_
    refine xw_pV 12 dX3_isHidden_9 rfl ok_W_patternColour s_X3_73 (S_W_patternColour W I (by omega)) (rfl) (W.o) rfl rfl rfl rfl rfl rfl rfl ?_
    refine xw_aload_n 13 dX3_isHidden_12 rfl rfl rfl ?_
    refine xw_get 16 dX3_isHidden_13 rfl f_X3_18 (W.o) rfl ?_
    refine xw_iconst 17 (nI 3) dX3_isHidden_16 rfl (xofI 3) ?_
    refine xw_pSN 20 dX3_isHidden_17 rfl ok_B_at s_X3_58 (S_B_ats W.se (j := 3) (by decide) rfl (by decide) rfl) (rfl) rfl rfl rfl rfl rfl rfl ?_
    refine xw_icmp_ne 27 23 dX3_isHidden_20 rfl rfl (fun h20 => ?_) (fun h20 => absurd h20 (h))
    refine xw_iconst 28 (nI 0) dX3_isHidden_27 rfl (xofI 0) ?_
    exact xw_zreturn dX3_isHidden_28 rfl (by decide) (⟨rfl, rfl⟩)
theorem S_W_openKnots (W : xWk hp p w) (I : xInv w) : xMet G W_openKnots [.ref p] hp x 0 0 (xRetV (.int (nI (zopen w))) hp) := by
  have hK := I.iK.2.2
  have hK1 := I.iK.2.1
  have hW := W.o
  rw [I.iK.1] at hW
  have loop : ∀ (t i : Nat), i + t = zI w 7 - 1 → xW G W_openKnots (xRetV (.int (nI (zopen w))) hp) 4 [(2, .int (nI (i + 1))), (1, .int (nI (xct (fun i => !zhid w (i + 1)) i))), (0, .ref p)] [] hp x 0 0 := by
    intro t
    induction t with
    | zero =>
      intro i hi
      have e1 : i = zI w 7 - 1 := by omega
      refine xw_iload_n 5 dX3_openKnots_4 rfl rfl ?_
      refine xw_aload_n 6 dX3_openKnots_5 rfl rfl rfl ?_
      refine xw_get 9 dX3_openKnots_6 rfl f_X3_48 (hW) rfl ?_
      refine xw_icmp_ge 29 12 dX3_openKnots_9 rfl rfl (fun h9 => ?_) (fun h9 => absurd (nI_le (by omega) (by omega)) h9)
      refine xw_iload_n 30 dX3_openKnots_29 rfl rfl ?_
      exact xw_ireturn dX3_openKnots_30 rfl (by rw [e1]; exact ⟨rfl, rfl⟩)
    | succ t ih =>
      intro i hi
      have ih := ih (i + 1) (by omega)
      have hx := S_W_isHidden (G := G) (x := x) (s := i + 1) W I (by omega)
      by_cases hz : zhid w (i + 1) = true
      · rw [if_pos hz] at hx
        have e1 : xct (fun i => !zhid w (i + 1)) (i + 1) = xct (fun i => !zhid w (i + 1)) i := xct_n (by simp [hz])
        rw [e1] at ih
        refine xw_iload_n 5 dX3_openKnots_4 rfl rfl ?_
        refine xw_aload_n 6 dX3_openKnots_5 rfl rfl rfl ?_
        refine xw_get 9 dX3_openKnots_6 rfl f_X3_48 (hW) rfl ?_
        refine xw_icmp_ge 29 12 dX3_openKnots_9 rfl rfl (fun h9 => absurd h9 (nI_ge (by omega) (by omega))) (fun h9 => ?_)
        refine xw_aload_n 13 dX3_openKnots_12 rfl rfl rfl ?_
        refine xw_iload_n 14 dX3_openKnots_13 rfl rfl ?_
        refine xw_pV 17 dX3_openKnots_14 rfl ok_W_isHidden s_X3_84 (hx) (rfl) (W.o) rfl rfl rfl rfl rfl rfl rfl ?_
        refine xw_if_ne 23 20 dX3_openKnots_17 rfl rfl (fun h17 => ?_) (fun h17 => absurd h17 (by decide))
        refine xw_iinc (ls' := [(2, _), (1, _), (0, _)]) 26 _ dX3_openKnots_23 rfl rfl (xnI_inc _) rfl rfl ?_
        refine xw_goto 4 dX3_openKnots_26 rfl ?_
        exact xW.pick [0, 1, 2] rfl (ih)
      · rw [if_neg hz] at hx
        have e1 : xct (fun i => !zhid w (i + 1)) (i + 1) = xct (fun i => !zhid w (i + 1)) i + 1 := xct_y (by simp [hz])
        rw [e1] at ih
        refine xw_iload_n 5 dX3_openKnots_4 rfl rfl ?_
        refine xw_aload_n 6 dX3_openKnots_5 rfl rfl rfl ?_
        refine xw_get 9 dX3_openKnots_6 rfl f_X3_48 (hW) rfl ?_
        refine xw_icmp_ge 29 12 dX3_openKnots_9 rfl rfl (fun h9 => absurd h9 (nI_ge (by omega) (by omega))) (fun h9 => ?_)
        refine xw_aload_n 13 dX3_openKnots_12 rfl rfl rfl ?_
        refine xw_iload_n 14 dX3_openKnots_13 rfl rfl ?_
        refine xw_pV 17 dX3_openKnots_14 rfl ok_W_isHidden s_X3_84 (hx) (rfl) (W.o) rfl rfl rfl rfl rfl rfl rfl ?_
        refine xw_if_ne 23 20 dX3_openKnots_17 rfl rfl (fun h17 => absurd (by decide) h17) (fun h17 => ?_)
        refine xw_iinc (ls' := [(1, _), (2, _), (0, _)]) 23 _ dX3_openKnots_20 rfl rfl (xnI_inc _) rfl rfl ?_
        refine xw_iinc (ls' := [(2, _), (1, _), (0, _)]) 26 _ dX3_openKnots_23 rfl rfl (xnI_inc _) rfl rfl ?_
        refine xw_goto 4 dX3_openKnots_26 rfl ?_
        exact xW.pick [0, 1, 2] rfl (ih)
  refine xw_iconst 1 (nI 0) dX3_openKnots_0 rfl (xofI 0) ?_
  refine xw_istore_n (ls' := [(1, _), (0, _)]) 2 dX3_openKnots_1 rfl rfl rfl ?_
  refine xw_iconst 3 (nI 1) dX3_openKnots_2 rfl (xofI 1) ?_
  refine xw_istore_n (ls' := [(2, _), (1, _), (0, _)]) 4 dX3_openKnots_3 rfl rfl rfl ?_
  exact loop (zI w 7 - 1) 0 (by omega)
theorem S_W_room (W : xWk hp p w) (I : xInv w) : xMet G W_room [.ref p] hp x 0 0 (xRetV (.int (w 2 - nI (zlen w (zI w 7 - 1)))) hp) := by
  have hK1 := I.iK.2.1
  have hW := W.o
  rw [I.iK.1] at hW
  refine xw_aload_n 1 dX3_room_0 rfl rfl rfl ?_
  refine xw_get 4 dX3_room_1 rfl f_X3_18 (W.o) rfl ?_
  refine xw_iconst 5 (nI 2) dX3_room_4 rfl (xofI 2) ?_
  refine xw_pSN 8 dX3_room_5 rfl ok_B_at s_X3_58 (S_B_ats W.se (j := 2) (by decide) rfl (by decide) rfl) (rfl) rfl rfl rfl rfl rfl rfl ?_
  refine xw_aload_n 9 dX3_room_8 rfl rfl rfl ?_
  refine xw_aload_n 10 dX3_room_9 rfl rfl rfl ?_
  refine xw_get 13 dX3_room_10 rfl f_X3_48 (hW) rfl ?_
  refine xw_iconst 14 (nI 1) dX3_room_13 rfl (xofI 1) ?_
  refine xw_isub 15 dX3_room_14 rfl ?_
  rw [nI_1s hK1]
  refine xw_pV 18 dX3_room_15 rfl ok_W_lengthOf s_X3_87 (S_W_lengthOf W I (by omega)) (rfl) (W.o) rfl rfl rfl rfl rfl rfl rfl ?_
  refine xw_isub 19 dX3_room_18 rfl ?_
  exact xw_ireturn dX3_room_19 rfl (⟨rfl, rfl⟩)
theorem S_W_beadNumber {b what : Nat} (W : xWk hp p w) (I : xInv w) (hb : b < zI w 6) (hw : what < 4) : xMet G W_beadNumber [.ref p, .int (nI b), .int (nI what)] hp x 0 0 (xRetV (.int (zbead w b what)) hp) := by
  have hM := I.iM.2.2
  have hK := I.iK.2.2
  have hs := I.str b
  have hx := S_W_isWrong (G := G) (x := x) (n := b) W I (by omega)
  rcases (show what = 0 ∨ what = 1 ∨ what = 2 ∨ what = 3 by omega) with rfl | rfl | rfl | rfl
  · show xMet _ _ _ _ _ _ _ (xRetV (.int (w (147 + b))) hp)
    refine xw_iload_n 1 dX3_beadNumber_0 rfl rfl ?_
    refine xw_table [28, 37, 51] 57 dX3_beadNumber_1 rfl rfl rfl ⟨fun _ => ?_, fun h => absurd h (by decide), fun h => absurd h (by decide), trivial⟩ (fun h => absurd h (by decide))
    refine xw_aload_n 29 dX3_beadNumber_28 rfl rfl rfl ?_
    refine xw_get 32 dX3_beadNumber_29 rfl f_X3_38 (W.o) rfl ?_
    refine xw_iload_n 33 dX3_beadNumber_32 rfl rfl ?_
    refine xw_pSN 36 dX3_beadNumber_33 rfl ok_B_at s_X3_58 (S_B_ats W.be (by decide) rfl (by omega) rfl) (rfl) rfl rfl rfl rfl rfl rfl ?_
    exact xw_ireturn dX3_beadNumber_36 rfl (⟨rfl, rfl⟩)
  · show xMet _ _ _ _ _ _ _ (xRetV (.int (nI (if zwr w b = true then 1 else 0))) hp)
    by_cases hz : zwr w b = true
    · rw [if_pos hz] at hx ⊢
      refine xw_iload_n 1 dX3_beadNumber_0 rfl rfl ?_
      refine xw_table [28, 37, 51] 57 dX3_beadNumber_1 rfl rfl rfl ⟨fun h => absurd h (by decide), fun _ => ?_, fun h => absurd h (by decide), trivial⟩ (fun h => absurd h (by decide))
      refine xw_aload_n 38 dX3_beadNumber_37 rfl rfl rfl ?_
      refine xw_iload_n 39 dX3_beadNumber_38 rfl rfl ?_
      refine xw_pV 42 dX3_beadNumber_39 rfl ok_W_isWrong s_X3_77 (hx) (rfl) (W.o) rfl rfl rfl rfl rfl rfl rfl ?_
      refine xw_if_eq 49 45 dX3_beadNumber_42 rfl rfl (fun h42 => absurd h42 (by decide)) (fun h42 => ?_)
      refine xw_iconst 46 (nI 1) dX3_beadNumber_45 rfl (xofI 1) ?_
      refine xw_goto 50 dX3_beadNumber_46 rfl ?_
      exact xw_ireturn dX3_beadNumber_50 rfl (⟨rfl, rfl⟩)
    · rw [if_neg hz] at hx ⊢
      refine xw_iload_n 1 dX3_beadNumber_0 rfl rfl ?_
      refine xw_table [28, 37, 51] 57 dX3_beadNumber_1 rfl rfl rfl ⟨fun h => absurd h (by decide), fun _ => ?_, fun h => absurd h (by decide), trivial⟩ (fun h => absurd h (by decide))
      refine xw_aload_n 38 dX3_beadNumber_37 rfl rfl rfl ?_
      refine xw_iload_n 39 dX3_beadNumber_38 rfl rfl ?_
      refine xw_pV 42 dX3_beadNumber_39 rfl ok_W_isWrong s_X3_77 (hx) (rfl) (W.o) rfl rfl rfl rfl rfl rfl rfl ?_
      refine xw_if_eq 49 45 dX3_beadNumber_42 rfl rfl (fun h42 => ?_) (fun h42 => absurd (by decide) h42)
      refine xw_iconst 50 (nI 0) dX3_beadNumber_49 rfl (xofI 0) ?_
      exact xw_ireturn dX3_beadNumber_50 rfl (⟨rfl, rfl⟩)
  · show xMet _ _ _ _ _ _ _ (xRetV (.int (nI (zstr w b))) hp)
    refine xw_iload_n 1 dX3_beadNumber_0 rfl rfl ?_
    refine xw_table [28, 37, 51] 57 dX3_beadNumber_1 rfl rfl rfl ⟨fun h => absurd h (by decide), fun h => absurd h (by decide), fun _ => ?_, trivial⟩ (fun h => absurd h (by decide))
    refine xw_aload_n 52 dX3_beadNumber_51 rfl rfl rfl ?_
    refine xw_iload_n 53 dX3_beadNumber_52 rfl rfl ?_
    refine xw_pV 56 dX3_beadNumber_53 rfl ok_W_stringOf s_X3_90 (S_W_stringOf W I (by omega)) (rfl) (W.o) rfl rfl rfl rfl rfl rfl rfl ?_
    exact xw_ireturn dX3_beadNumber_56 rfl (⟨rfl, rfl⟩)
  · show xMet _ _ _ _ _ _ _ (xRetV (.int (nI b - w (387 + zstr w b))) hp)
    refine xw_iload_n 1 dX3_beadNumber_0 rfl rfl ?_
    refine xw_table [28, 37, 51] 57 dX3_beadNumber_1 rfl rfl rfl ⟨fun h => absurd h (by decide), fun h => absurd h (by decide), fun h => absurd h (by decide), trivial⟩ (fun _ => ?_)
    refine xw_iload_n 58 dX3_beadNumber_57 rfl rfl ?_
    refine xw_aload_n 59 dX3_beadNumber_58 rfl rfl rfl ?_
    refine xw_get 62 dX3_beadNumber_59 rfl f_X3_41 (W.o) rfl ?_
    refine xw_aload_n 63 dX3_beadNumber_62 rfl rfl rfl ?_
    refine xw_iload_n 64 dX3_beadNumber_63 rfl rfl ?_
    refine xw_pV 67 dX3_beadNumber_64 rfl ok_W_stringOf s_X3_90 (S_W_stringOf W I (by omega)) (rfl) (W.o) rfl rfl rfl rfl rfl rfl rfl ?_
    refine xw_pSN 70 dX3_beadNumber_67 rfl ok_B_at s_X3_58 (S_B_ats W.bg (by decide) rfl (by omega) rfl) (rfl) rfl rfl rfl rfl rfl rfl ?_
    refine xw_isub 71 dX3_beadNumber_70 rfl ?_
    exact xw_ireturn dX3_beadNumber_71 rfl (⟨rfl, rfl⟩)
theorem S_W_stringNumber {s what : Nat} (W : xWk hp p w) (I : xInv w) (hs : s < zI w 7) (hw : what < 4) : xMet G W_stringNumber [.ref p, .int (nI s), .int (nI what)] hp x 0 0 (xRetV (.int (zstrand w s what)) hp) := by
  have hM := I.iM.2.2
  have hK := I.iK.2.2
  have hB := I.iB s hs
  have hE := I.el hs
  have hx := S_W_isHidden (G := G) (x := x) W I hs
  rcases (show what = 0 ∨ what = 1 ∨ what = 2 ∨ what = 3 by omega) with rfl | rfl | rfl | rfl
  · show xMet _ _ _ _ _ _ _ (xRetV (.int (w (387 + s))) hp)
    refine xw_iload_n 1 dX3_stringNumber_0 rfl rfl ?_
    refine xw_table [28, 37, 43] 65 dX3_stringNumber_1 rfl rfl rfl ⟨fun _ => ?_, fun h => absurd h (by decide), fun h => absurd h (by decide), trivial⟩ (fun h => absurd h (by decide))
    refine xw_aload_n 29 dX3_stringNumber_28 rfl rfl rfl ?_
    refine xw_get 32 dX3_stringNumber_29 rfl f_X3_41 (W.o) rfl ?_
    refine xw_iload_n 33 dX3_stringNumber_32 rfl rfl ?_
    refine xw_pSN 36 dX3_stringNumber_33 rfl ok_B_at s_X3_58 (S_B_ats W.bg (by decide) rfl (by omega) rfl) (rfl) rfl rfl rfl rfl rfl rfl ?_
    exact xw_ireturn dX3_stringNumber_36 rfl (⟨rfl, rfl⟩)
  · show xMet _ _ _ _ _ _ _ (xRetV (.int (nI (zlen w s))) hp)
    refine xw_iload_n 1 dX3_stringNumber_0 rfl rfl ?_
    refine xw_table [28, 37, 43] 65 dX3_stringNumber_1 rfl rfl rfl ⟨fun h => absurd h (by decide), fun _ => ?_, fun h => absurd h (by decide), trivial⟩ (fun h => absurd h (by decide))
    refine xw_aload_n 38 dX3_stringNumber_37 rfl rfl rfl ?_
    refine xw_iload_n 39 dX3_stringNumber_38 rfl rfl ?_
    refine xw_pV 42 dX3_stringNumber_39 rfl ok_W_lengthOf s_X3_87 (S_W_lengthOf W I hs) (rfl) (W.o) rfl rfl rfl rfl rfl rfl rfl ?_
    exact xw_ireturn dX3_stringNumber_42 rfl (⟨rfl, rfl⟩)
  · show xMet _ _ _ _ _ _ _ (xRetV (.int (if s = 0 then -1 else nI (if zhid w s = true then 1 else 0))) hp)
    by_cases h0 : s = 0
    · rw [if_pos h0]
      refine xw_iload_n 1 dX3_stringNumber_0 rfl rfl ?_
      refine xw_table [28, 37, 43] 65 dX3_stringNumber_1 rfl rfl rfl ⟨fun h => absurd h (by decide), fun h => absurd h (by decide), fun _ => ?_, trivial⟩ (fun h => absurd h (by decide))
      refine xw_iload_n 44 dX3_stringNumber_43 rfl rfl ?_
      refine xw_if_ne 51 47 dX3_stringNumber_44 rfl rfl (fun h44 => absurd (by rw [h0]; decide) h44) (fun h44 => ?_)
      refine xw_iconst 48 (-1) dX3_stringNumber_47 rfl rfl ?_
      refine xw_goto 64 dX3_stringNumber_48 rfl ?_
      exact xw_ireturn dX3_stringNumber_64 rfl (⟨rfl, rfl⟩)
    · rw [if_neg h0]
      have hne : ¬ nI s = 0 := nI_ne0 (by omega) (by omega)
      by_cases hz : zhid w s = true
      · rw [if_pos hz] at hx ⊢
        refine xw_iload_n 1 dX3_stringNumber_0 rfl rfl ?_
        refine xw_table [28, 37, 43] 65 dX3_stringNumber_1 rfl rfl rfl ⟨fun h => absurd h (by decide), fun h => absurd h (by decide), fun _ => ?_, trivial⟩ (fun h => absurd h (by decide))
        refine xw_iload_n 44 dX3_stringNumber_43 rfl rfl ?_
        refine xw_if_ne 51 47 dX3_stringNumber_44 rfl rfl (fun h44 => ?_) (fun h44 => absurd h44 (hne))
        refine xw_aload_n 52 dX3_stringNumber_51 rfl rfl rfl ?_
        refine xw_iload_n 53 dX3_stringNumber_52 rfl rfl ?_
        refine xw_pV 56 dX3_stringNumber_53 rfl ok_W_isHidden s_X3_84 (hx) (rfl) (W.o) rfl rfl rfl rfl rfl rfl rfl ?_
        refine xw_if_eq 63 59 dX3_stringNumber_56 rfl rfl (fun h56 => absurd h56 (by decide)) (fun h56 => ?_)
        refine xw_iconst 60 (nI 1) dX3_stringNumber_59 rfl (xofI 1) ?_
        refine xw_goto 64 dX3_stringNumber_60 rfl ?_
        exact xw_ireturn dX3_stringNumber_64 rfl (⟨rfl, rfl⟩)
      · rw [if_neg hz] at hx ⊢
        refine xw_iload_n 1 dX3_stringNumber_0 rfl rfl ?_
        refine xw_table [28, 37, 43] 65 dX3_stringNumber_1 rfl rfl rfl ⟨fun h => absurd h (by decide), fun h => absurd h (by decide), fun _ => ?_, trivial⟩ (fun h => absurd h (by decide))
        refine xw_iload_n 44 dX3_stringNumber_43 rfl rfl ?_
        refine xw_if_ne 51 47 dX3_stringNumber_44 rfl rfl (fun h44 => ?_) (fun h44 => absurd h44 (hne))
        refine xw_aload_n 52 dX3_stringNumber_51 rfl rfl rfl ?_
        refine xw_iload_n 53 dX3_stringNumber_52 rfl rfl ?_
        refine xw_pV 56 dX3_stringNumber_53 rfl ok_W_isHidden s_X3_84 (hx) (rfl) (W.o) rfl rfl rfl rfl rfl rfl rfl ?_
        refine xw_if_eq 63 59 dX3_stringNumber_56 rfl rfl (fun h56 => ?_) (fun h56 => absurd (by decide) h56)
        refine xw_iconst 64 (nI 0) dX3_stringNumber_63 rfl (xofI 0) ?_
        exact xw_ireturn dX3_stringNumber_64 rfl (⟨rfl, rfl⟩)
  · show xMet _ _ _ _ _ _ _ (xRetV (.int (nI (xctr (zwr w) (zI w (387 + s)) (zend w s)))) hp)
    refine xw_iload_n 1 dX3_stringNumber_0 rfl rfl ?_
    refine xw_table [28, 37, 43] 65 dX3_stringNumber_1 rfl rfl rfl ⟨fun h => absurd h (by decide), fun h => absurd h (by decide), fun h => absurd h (by decide), trivial⟩ (fun _ => ?_)
    refine xw_aload_n 66 dX3_stringNumber_65 rfl rfl rfl ?_
    refine xw_aload_n 67 dX3_stringNumber_66 rfl rfl rfl ?_
    refine xw_get 70 dX3_stringNumber_67 rfl f_X3_41 (W.o) rfl ?_
    refine xw_iload_n 71 dX3_stringNumber_70 rfl rfl ?_
    refine xw_pSN 74 dX3_stringNumber_71 rfl ok_B_at s_X3_58 (S_B_ats W.bg (by decide) rfl (by omega) hB.1) (rfl) rfl rfl rfl rfl rfl rfl ?_
    refine xw_aload_n 75 dX3_stringNumber_74 rfl rfl rfl ?_
    refine xw_iload_n 76 dX3_stringNumber_75 rfl rfl ?_
    refine xw_pV 79 dX3_stringNumber_76 rfl ok_W_endOf s_X3_81 (S_W_endOf W I hs) (rfl) (W.o) rfl rfl rfl rfl rfl rfl rfl ?_
    refine xw_pV 82 dX3_stringNumber_79 rfl ok_W_wrongBetween s_X3_93 (S_W_wrongBetween W I (by omega) (by omega)) (rfl) (W.o) rfl rfl rfl rfl rfl rfl rfl ?_
    exact xw_ireturn dX3_stringNumber_82 rfl (⟨rfl, rfl⟩)
theorem S_W_colourNumber {c what : Nat} (W : xWk hp p w) (I : xInv w) (hc : c < 6) (hw : what < 6) : xMet G W_colourNumber [.ref p, .int (nI c), .int (nI what)] hp x 0 0 (xRetV (.int (zcolour w c what)) hp) := by
  have hM := I.iM.2.2
  have hW := W.o
  rw [I.iM.1] at hW
  rcases (show what = 0 ∨ what = 1 ∨ what = 2 ∨ what = 3 ∨ what = 4 ∨ what = 5 by omega) with rfl | rfl | rfl | rfl | rfl | rfl
  · show xMet _ _ _ _ _ _ _ (xRetV (.int (w (9 + c))) hp)
    refine xw_iload_n 1 dX3_colourNumber_0 rfl rfl ?_
    refine xw_table [36, 45, 54, 67, 76] 85 dX3_colourNumber_1 rfl rfl rfl ⟨fun _ => ?_, fun h => absurd h (by decide), fun h => absurd h (by decide), fun h => absurd h (by decide), fun h => absurd h (by decide), trivial⟩ (fun h => absurd h (by decide))
    refine xw_aload_n 37 dX3_colourNumber_36 rfl rfl rfl ?_
    refine xw_get 40 dX3_colourNumber_37 rfl f_X3_29 (W.o) rfl ?_
    refine xw_iload_n 41 dX3_colourNumber_40 rfl rfl ?_
    refine xw_pSN 44 dX3_colourNumber_41 rfl ok_B_at s_X3_58 (S_B_ats W.st (by decide) rfl hc rfl) (rfl) rfl rfl rfl rfl rfl rfl ?_
    exact xw_ireturn dX3_colourNumber_44 rfl (⟨rfl, rfl⟩)
  · show xMet _ _ _ _ _ _ _ (xRetV (.int (w (15 + c))) hp)
    refine xw_iload_n 1 dX3_colourNumber_0 rfl rfl ?_
    refine xw_table [36, 45, 54, 67, 76] 85 dX3_colourNumber_1 rfl rfl rfl ⟨fun h => absurd h (by decide), fun _ => ?_, fun h => absurd h (by decide), fun h => absurd h (by decide), fun h => absurd h (by decide), trivial⟩ (fun h => absurd h (by decide))
    refine xw_aload_n 46 dX3_colourNumber_45 rfl rfl rfl ?_
    refine xw_get 49 dX3_colourNumber_46 rfl f_X3_32 (W.o) rfl ?_
    refine xw_iload_n 50 dX3_colourNumber_49 rfl rfl ?_
    refine xw_pSN 53 dX3_colourNumber_50 rfl ok_B_at s_X3_58 (S_B_ats W.bo (by decide) rfl hc rfl) (rfl) rfl rfl rfl rfl rfl rfl ?_
    exact xw_ireturn dX3_colourNumber_53 rfl (⟨rfl, rfl⟩)
  · show xMet _ _ _ _ _ _ _ (xRetV (.int (nI (xocc (fun k => w (147 + k)) (nI c) (zI w 6)))) hp)
    refine xw_iload_n 1 dX3_colourNumber_0 rfl rfl ?_
    refine xw_table [36, 45, 54, 67, 76] 85 dX3_colourNumber_1 rfl rfl rfl ⟨fun h => absurd h (by decide), fun h => absurd h (by decide), fun _ => ?_, fun h => absurd h (by decide), fun h => absurd h (by decide), trivial⟩ (fun h => absurd h (by decide))
    refine xw_aload_n 55 dX3_colourNumber_54 rfl rfl rfl ?_
    refine xw_get 58 dX3_colourNumber_55 rfl f_X3_38 (W.o) rfl ?_
    refine xw_aload_n 59 dX3_colourNumber_58 rfl rfl rfl ?_
    refine xw_get 62 dX3_colourNumber_59 rfl f_X3_44 (hW) rfl ?_
    refine xw_iload_n 63 dX3_colourNumber_62 rfl rfl ?_
    refine xw_pSN 66 dX3_colourNumber_63 rfl ok_B_occurrences s_X3_96 (xcast_v (S_B_occurrences W.be (by decide) (by omega)) (by rw [xocc_congr (fun k hk => xsl_at (show k < 240 by omega))])) (rfl) rfl rfl rfl rfl rfl rfl ?_
    exact xw_ireturn dX3_colourNumber_66 rfl (⟨rfl, rfl⟩)
  · show xMet _ _ _ _ _ _ _ (xRetV (.int (w (21 + c))) hp)
    refine xw_iload_n 1 dX3_colourNumber_0 rfl rfl ?_
    refine xw_table [36, 45, 54, 67, 76] 85 dX3_colourNumber_1 rfl rfl rfl ⟨fun h => absurd h (by decide), fun h => absurd h (by decide), fun h => absurd h (by decide), fun _ => ?_, fun h => absurd h (by decide), trivial⟩ (fun h => absurd h (by decide))
    refine xw_aload_n 68 dX3_colourNumber_67 rfl rfl rfl ?_
    refine xw_get 71 dX3_colourNumber_68 rfl f_X3_35 (W.o) rfl ?_
    refine xw_iload_n 72 dX3_colourNumber_71 rfl rfl ?_
    refine xw_pSN 75 dX3_colourNumber_72 rfl ok_B_at s_X3_58 (S_B_ats W.cr (by decide) rfl hc rfl) (rfl) rfl rfl rfl rfl rfl rfl ?_
    exact xw_ireturn dX3_colourNumber_75 rfl (⟨rfl, rfl⟩)
  · show xMet _ _ _ _ _ _ _ (xRetV (.int (nI (xct2 (fun r d => decide (w (27 + (r * 12 + d)) = nI c)) (zI w 5) (zI w 4)))) hp)
    refine xw_iload_n 1 dX3_colourNumber_0 rfl rfl ?_
    refine xw_table [36, 45, 54, 67, 76] 85 dX3_colourNumber_1 rfl rfl rfl ⟨fun h => absurd h (by decide), fun h => absurd h (by decide), fun h => absurd h (by decide), fun h => absurd h (by decide), fun _ => ?_, trivial⟩ (fun h => absurd h (by decide))
    refine xw_aload_n 77 dX3_colourNumber_76 rfl rfl rfl ?_
    refine xw_get 80 dX3_colourNumber_77 rfl f_X3_12 (W.o) rfl ?_
    refine xw_iload_n 81 dX3_colourNumber_80 rfl rfl ?_
    refine xw_pVN 84 dX3_colourNumber_81 rfl ok_C_cellsOf s_X3_100 (xcast_v (S_C_cellsOf (W.cc I) W.ce I.iR.2.1 I.iR.2.2 I.iC.2.1 I.iC.2.2) (by rw [zcells_eq I.iR.2.2 I.iC.2.2])) (rfl) (W.ch) rfl rfl rfl rfl rfl rfl rfl ?_
    exact xw_ireturn dX3_colourNumber_84 rfl (⟨rfl, rfl⟩)
  · show xMet _ _ _ _ _ _ _ (xRetV (.int (nI (xct (fun n => decide (w (147 + n) = nI c) && zwr w n) (zI w 6)))) hp)
    refine xw_iload_n 1 dX3_colourNumber_0 rfl rfl ?_
    refine xw_table [36, 45, 54, 67, 76] 85 dX3_colourNumber_1 rfl rfl rfl ⟨fun h => absurd h (by decide), fun h => absurd h (by decide), fun h => absurd h (by decide), fun h => absurd h (by decide), fun h => absurd h (by decide), trivial⟩ (fun _ => ?_)
    refine xw_aload_n 86 dX3_colourNumber_85 rfl rfl rfl ?_
    refine xw_iload_n 87 dX3_colourNumber_86 rfl rfl ?_
    refine xw_pV 90 dX3_colourNumber_87 rfl ok_W_wrongOf s_X3_103 (S_W_wrongOf W I) (rfl) (W.o) rfl rfl rfl rfl rfl rfl rfl ?_
    exact xw_ireturn dX3_colourNumber_90 rfl (⟨rfl, rfl⟩)
end P15

/-! ===== the model: calls that only tell ===== -/
section P44
variable {G : xG} {x : Nat} {A T : List xE} {z hi tx ot wa pR pC pM fe kc : Nat → Int32} {s ln : Nat} {th oR oC ps rr ha nu : Int32} {hs : Int64}
theorem S_M_bead {p q : Int32} (hA : A.length = 71) (I : xInv z) : xMet G M_bead [.ref 71, .int p, .int q] (mH A z (nI s) hi (nI ln) tx th ot oR oC wa pR pC pM ps rr ha nu fe kc hs T) x 0 0 (xQm A T (rBead z p q) (z, hi, s, ln, tx)) := by
  have hA1 := I.iA.2.1
  have hA2 := I.iA.2.2
  have hS2 := I.iS.2.2
  have hR1 := I.iR.2.1
  have hR2 := I.iR.2.2
  have hC1 := I.iC.2.1
  have hC2 := I.iC.2.2
  have hM2 := I.iM.2.2
  have hK1 := I.iK.2.1
  have hK2 := I.iK.2.2
  unfold rBead
  by_cases g0 : xlt p (zI z 6)
  · have w0 : nI (if xlt p (zI z 6) then 1 else 0) = nI 1 := bIf g0
    rw [if_pos g0]
    obtain ⟨a, a1, rfl⟩ := xlt_y (by first | decide | omega) g0
    by_cases g1 : xlt q 4
    · have w1 : nI (if xlt q 4 then 1 else 0) = nI 1 := bIf g1
      rw [if_pos g1]
      obtain ⟨b, b1, rfl⟩ := xlt_y (by first | decide | omega) g1
      rw [pN_k (by omega), pN_k (by omega)]
      refine xw_aload_n 1 dX5_bead_0 rfl rfl rfl ?_
      refine xw_aload_n 2 dX5_bead_1 rfl rfl rfl ?_
      refine xw_iload_n 3 dX5_bead_2 rfl rfl ?_
      refine xw_pV 6 dX5_bead_3 rfl ok_M_isBead s_X5_140 (S_M_isBead (xA hA rfl) (xA hA rfl) I) (mH_len) (xA hA rfl) rfl rfl rfl rfl rfl rfl rfl ?_
      refine xw_if_ne 13 9 dX5_bead_6 rfl rfl (fun h6 => ?_) (fun h6 => absurd h6 (by rw [w0]; decide))
      refine xw_iload_n 14 dX5_bead_13 rfl rfl ?_
      refine xw_iconst 15 (nI 0) dX5_bead_14 rfl (xofI 0) ?_
      refine xw_iconst 16 (nI 3) dX5_bead_15 rfl (xofI 3) ?_
      refine xw_pS 19 dX5_bead_16 rfl ok_M_within s_X5_47 (xcast_t (.int (nI (if xlt (nI b) 4 then 1 else 0))) S_M_within (congrArg Value.int (bIff (xin_lt (n := 3) (by decide))))) (mH_len) rfl rfl rfl rfl rfl rfl ?_
      refine xw_if_eq 26 22 dX5_bead_19 rfl rfl (fun h19 => absurd h19 (by rw [w1]; decide)) (fun h19 => ?_)
      refine xw_iconst 23 (nI 0) dX5_bead_22 rfl (xofI 0) ?_
      refine xw_goto 27 dX5_bead_23 rfl ?_
      refine xw_put (hp' := (mH A z (nI s) hi (nI ln) tx (nI 0) ot oR oC wa pR pC pM ps rr ha nu fe kc hs T)) 30 dX5_bead_27 rfl f_X5_40 (xA hA rfl) ⟨rfl, rfl⟩ rfl rfl (xAs hA rfl) ?_
      refine xw_aload_n 31 dX5_bead_30 rfl rfl rfl ?_
      refine xw_get 34 dX5_bead_31 rfl f_X5_40 (xA hA rfl) rfl ?_
      refine xw_if_le 41 37 dX5_bead_34 rfl rfl (fun h34 => ?_) (fun h34 => absurd (by decide) h34)
      refine xw_aload_n 42 dX5_bead_41 rfl rfl rfl ?_
      refine xw_iload_n 43 dX5_bead_42 rfl rfl ?_
      refine xw_iload_n 44 dX5_bead_43 rfl rfl ?_
      refine xw_pV 47 dX5_bead_44 rfl ok_M_beadNow s_X5_172 (S_M_beadNow (xA hA rfl) (xA hA rfl) I a1 b1) (mH_len) (xA hA rfl) rfl rfl rfl rfl rfl rfl rfl ?_
      exact xw_ireturn dX5_bead_47 rfl (⟨rfl, (ot, oR, oC, wa, pR, pC, pM, ps, rr, ha, nu, fe, kc, hs), rfl⟩)
    · have w1 : nI (if xlt q 4 then 1 else 0) = nI 0 := bIfn g1
      rw [if_neg g1]
      refine xw_aload_n 1 dX5_bead_0 rfl rfl rfl ?_
      refine xw_aload_n 2 dX5_bead_1 rfl rfl rfl ?_
      refine xw_iload_n 3 dX5_bead_2 rfl rfl ?_
      refine xw_pV 6 dX5_bead_3 rfl ok_M_isBead s_X5_140 (S_M_isBead (xA hA rfl) (xA hA rfl) I) (mH_len) (xA hA rfl) rfl rfl rfl rfl rfl rfl rfl ?_
      refine xw_if_ne 13 9 dX5_bead_6 rfl rfl (fun h6 => ?_) (fun h6 => absurd h6 (by rw [w0]; decide))
      refine xw_iload_n 14 dX5_bead_13 rfl rfl ?_
      refine xw_iconst 15 (nI 0) dX5_bead_14 rfl (xofI 0) ?_
      refine xw_iconst 16 (nI 3) dX5_bead_15 rfl (xofI 3) ?_
      refine xw_pS 19 dX5_bead_16 rfl ok_M_within s_X5_47 (xcast_t (.int (nI (if xlt q 4 then 1 else 0))) S_M_within (congrArg Value.int (bIff (xin_lt (n := 3) (by decide))))) (mH_len) rfl rfl rfl rfl rfl rfl ?_
      refine xw_if_eq 26 22 dX5_bead_19 rfl rfl (fun h19 => ?_) (fun h19 => absurd (w1) h19)
      refine xw_iconst 27 (nI 2) dX5_bead_26 rfl (xofI 2) ?_
      refine xw_put (hp' := (mH A z (nI s) hi (nI ln) tx (nI 2) ot oR oC wa pR pC pM ps rr ha nu fe kc hs T)) 30 dX5_bead_27 rfl f_X5_40 (xA hA rfl) ⟨rfl, rfl⟩ rfl rfl (xAs hA rfl) ?_
      refine xw_aload_n 31 dX5_bead_30 rfl rfl rfl ?_
      refine xw_get 34 dX5_bead_31 rfl f_X5_40 (xA hA rfl) rfl ?_
      refine xw_if_le 41 37 dX5_bead_34 rfl rfl (fun h34 => absurd h34 (by decide)) (fun h34 => ?_)
      refine xw_iconst 38 (nI 0) dX5_bead_37 rfl (xofI 0) ?_
      refine xw_goto 47 dX5_bead_38 rfl ?_
      exact xw_ireturn dX5_bead_47 rfl (⟨rfl, (ot, oR, oC, wa, pR, pC, pM, ps, rr, ha, nu, fe, kc, hs), rfl⟩)
  · have w0 : nI (if xlt p (zI z 6) then 1 else 0) = nI 0 := bIfn g0
    rw [if_neg g0]
    refine xw_aload_n 1 dX5_bead_0 rfl rfl rfl ?_
    refine xw_aload_n 2 dX5_bead_1 rfl rfl rfl ?_
    refine xw_iload_n 3 dX5_bead_2 rfl rfl ?_
    refine xw_pV 6 dX5_bead_3 rfl ok_M_isBead s_X5_140 (S_M_isBead (xA hA rfl) (xA hA rfl) I) (mH_len) (xA hA rfl) rfl rfl rfl rfl rfl rfl rfl ?_
    refine xw_if_ne 13 9 dX5_bead_6 rfl rfl (fun h6 => absurd (w0) h6) (fun h6 => ?_)
    refine xw_iconst 10 (nI 1) dX5_bead_9 rfl (xofI 1) ?_
    refine xw_goto 27 dX5_bead_10 rfl ?_
    refine xw_put (hp' := (mH A z (nI s) hi (nI ln) tx (nI 1) ot oR oC wa pR pC pM ps rr ha nu fe kc hs T)) 30 dX5_bead_27 rfl f_X5_40 (xA hA rfl) ⟨rfl, rfl⟩ rfl rfl (xAs hA rfl) ?_
    refine xw_aload_n 31 dX5_bead_30 rfl rfl rfl ?_
    refine xw_get 34 dX5_bead_31 rfl f_X5_40 (xA hA rfl) rfl ?_
    refine xw_if_le 41 37 dX5_bead_34 rfl rfl (fun h34 => absurd h34 (by decide)) (fun h34 => ?_)
    refine xw_iconst 38 (nI 0) dX5_bead_37 rfl (xofI 0) ?_
    refine xw_goto 47 dX5_bead_38 rfl ?_
    exact xw_ireturn dX5_bead_47 rfl (⟨rfl, (ot, oR, oC, wa, pR, pC, pM, ps, rr, ha, nu, fe, kc, hs), rfl⟩)
theorem S_M_strand {p q : Int32} (hA : A.length = 71) (I : xInv z) : xMet G M_strand [.ref 71, .int p, .int q] (mH A z (nI s) hi (nI ln) tx th ot oR oC wa pR pC pM ps rr ha nu fe kc hs T) x 0 0 (xQm A T (rStr z p q) (z, hi, s, ln, tx)) := by
  have hA1 := I.iA.2.1
  have hA2 := I.iA.2.2
  have hS2 := I.iS.2.2
  have hR1 := I.iR.2.1
  have hR2 := I.iR.2.2
  have hC1 := I.iC.2.1
  have hC2 := I.iC.2.2
  have hM2 := I.iM.2.2
  have hK1 := I.iK.2.1
  have hK2 := I.iK.2.2
  unfold rStr
  by_cases g0 : xlt p (zI z 7)
  · have w0 : nI (if xlt p (zI z 7) then 1 else 0) = nI 1 := bIf g0
    rw [if_pos g0]
    obtain ⟨a, a1, rfl⟩ := xlt_y (by first | decide | omega) g0
    by_cases g1 : xlt q 4
    · have w1 : nI (if xlt q 4 then 1 else 0) = nI 1 := bIf g1
      rw [if_pos g1]
      obtain ⟨b, b1, rfl⟩ := xlt_y (by first | decide | omega) g1
      rw [pN_k (by omega), pN_k (by omega)]
      refine xw_aload_n 1 dX5_strand_0 rfl rfl rfl ?_
      refine xw_iload_n 2 dX5_strand_1 rfl rfl ?_
      refine xw_iconst 3 (nI 0) dX5_strand_2 rfl (xofI 0) ?_
      refine xw_aload_n 4 dX5_strand_3 rfl rfl rfl ?_
      refine xw_get 7 dX5_strand_4 rfl f_X5_7 (xA hA rfl) rfl ?_
      refine xw_bipush 9 (nI 7) dX5_strand_7 rfl (by decide) ?_
      refine xw_ialv (j := 7) 10 dX5_strand_9 rfl (xA hA rfl) (rfl) (by decide) (by decide) (I.iK.1) ?_
      refine xw_iconst 11 (nI 1) dX5_strand_10 rfl (xofI 1) ?_
      refine xw_isub 12 dX5_strand_11 rfl ?_
      refine xw_pS 15 dX5_strand_12 rfl ok_M_within s_X5_47 (xcast_t (.int (nI (if xlt (nI a) (zI z 7) then 1 else 0))) S_M_within (congrArg Value.int (bIff (xbt_lt (n := zI z 7) (by omega))))) (mH_len) rfl rfl rfl rfl rfl rfl ?_
      refine xw_if_ne 22 18 dX5_strand_15 rfl rfl (fun h15 => ?_) (fun h15 => absurd h15 (by rw [w0]; decide))
      refine xw_iload_n 23 dX5_strand_22 rfl rfl ?_
      refine xw_iconst 24 (nI 0) dX5_strand_23 rfl (xofI 0) ?_
      refine xw_iconst 25 (nI 3) dX5_strand_24 rfl (xofI 3) ?_
      refine xw_pS 28 dX5_strand_25 rfl ok_M_within s_X5_47 (xcast_t (.int (nI (if xlt (nI b) 4 then 1 else 0))) S_M_within (congrArg Value.int (bIff (xin_lt (n := 3) (by decide))))) (mH_len) rfl rfl rfl rfl rfl rfl ?_
      refine xw_if_eq 35 31 dX5_strand_28 rfl rfl (fun h28 => absurd h28 (by rw [w1]; decide)) (fun h28 => ?_)
      refine xw_iconst 32 (nI 0) dX5_strand_31 rfl (xofI 0) ?_
      refine xw_goto 36 dX5_strand_32 rfl ?_
      refine xw_put (hp' := (mH A z (nI s) hi (nI ln) tx (nI 0) ot oR oC wa pR pC pM ps rr ha nu fe kc hs T)) 39 dX5_strand_36 rfl f_X5_40 (xA hA rfl) ⟨rfl, rfl⟩ rfl rfl (xAs hA rfl) ?_
      refine xw_aload_n 40 dX5_strand_39 rfl rfl rfl ?_
      refine xw_get 43 dX5_strand_40 rfl f_X5_40 (xA hA rfl) rfl ?_
      refine xw_if_le 50 46 dX5_strand_43 rfl rfl (fun h43 => ?_) (fun h43 => absurd (by decide) h43)
      refine xw_aload_n 51 dX5_strand_50 rfl rfl rfl ?_
      refine xw_iload_n 52 dX5_strand_51 rfl rfl ?_
      refine xw_iload_n 53 dX5_strand_52 rfl rfl ?_
      refine xw_pV 56 dX5_strand_53 rfl ok_M_strandNow s_X5_175 (S_M_strandNow (xA hA rfl) (xA hA rfl) I a1 b1) (mH_len) (xA hA rfl) rfl rfl rfl rfl rfl rfl rfl ?_
      exact xw_ireturn dX5_strand_56 rfl (⟨rfl, (ot, oR, oC, wa, pR, pC, pM, ps, rr, ha, nu, fe, kc, hs), rfl⟩)
    · have w1 : nI (if xlt q 4 then 1 else 0) = nI 0 := bIfn g1
      rw [if_neg g1]
      refine xw_aload_n 1 dX5_strand_0 rfl rfl rfl ?_
      refine xw_iload_n 2 dX5_strand_1 rfl rfl ?_
      refine xw_iconst 3 (nI 0) dX5_strand_2 rfl (xofI 0) ?_
      refine xw_aload_n 4 dX5_strand_3 rfl rfl rfl ?_
      refine xw_get 7 dX5_strand_4 rfl f_X5_7 (xA hA rfl) rfl ?_
      refine xw_bipush 9 (nI 7) dX5_strand_7 rfl (by decide) ?_
      refine xw_ialv (j := 7) 10 dX5_strand_9 rfl (xA hA rfl) (rfl) (by decide) (by decide) (I.iK.1) ?_
      refine xw_iconst 11 (nI 1) dX5_strand_10 rfl (xofI 1) ?_
      refine xw_isub 12 dX5_strand_11 rfl ?_
      refine xw_pS 15 dX5_strand_12 rfl ok_M_within s_X5_47 (xcast_t (.int (nI (if xlt (nI a) (zI z 7) then 1 else 0))) S_M_within (congrArg Value.int (bIff (xbt_lt (n := zI z 7) (by omega))))) (mH_len) rfl rfl rfl rfl rfl rfl ?_
      refine xw_if_ne 22 18 dX5_strand_15 rfl rfl (fun h15 => ?_) (fun h15 => absurd h15 (by rw [w0]; decide))
      refine xw_iload_n 23 dX5_strand_22 rfl rfl ?_
      refine xw_iconst 24 (nI 0) dX5_strand_23 rfl (xofI 0) ?_
      refine xw_iconst 25 (nI 3) dX5_strand_24 rfl (xofI 3) ?_
      refine xw_pS 28 dX5_strand_25 rfl ok_M_within s_X5_47 (xcast_t (.int (nI (if xlt q 4 then 1 else 0))) S_M_within (congrArg Value.int (bIff (xin_lt (n := 3) (by decide))))) (mH_len) rfl rfl rfl rfl rfl rfl ?_
      refine xw_if_eq 35 31 dX5_strand_28 rfl rfl (fun h28 => ?_) (fun h28 => absurd (w1) h28)
      refine xw_iconst 36 (nI 2) dX5_strand_35 rfl (xofI 2) ?_
      refine xw_put (hp' := (mH A z (nI s) hi (nI ln) tx (nI 2) ot oR oC wa pR pC pM ps rr ha nu fe kc hs T)) 39 dX5_strand_36 rfl f_X5_40 (xA hA rfl) ⟨rfl, rfl⟩ rfl rfl (xAs hA rfl) ?_
      refine xw_aload_n 40 dX5_strand_39 rfl rfl rfl ?_
      refine xw_get 43 dX5_strand_40 rfl f_X5_40 (xA hA rfl) rfl ?_
      refine xw_if_le 50 46 dX5_strand_43 rfl rfl (fun h43 => absurd h43 (by decide)) (fun h43 => ?_)
      refine xw_iconst 47 (nI 0) dX5_strand_46 rfl (xofI 0) ?_
      refine xw_goto 56 dX5_strand_47 rfl ?_
      exact xw_ireturn dX5_strand_56 rfl (⟨rfl, (ot, oR, oC, wa, pR, pC, pM, ps, rr, ha, nu, fe, kc, hs), rfl⟩)
  · have w0 : nI (if xlt p (zI z 7) then 1 else 0) = nI 0 := bIfn g0
    rw [if_neg g0]
    refine xw_aload_n 1 dX5_strand_0 rfl rfl rfl ?_
    refine xw_iload_n 2 dX5_strand_1 rfl rfl ?_
    refine xw_iconst 3 (nI 0) dX5_strand_2 rfl (xofI 0) ?_
    refine xw_aload_n 4 dX5_strand_3 rfl rfl rfl ?_
    refine xw_get 7 dX5_strand_4 rfl f_X5_7 (xA hA rfl) rfl ?_
    refine xw_bipush 9 (nI 7) dX5_strand_7 rfl (by decide) ?_
    refine xw_ialv (j := 7) 10 dX5_strand_9 rfl (xA hA rfl) (rfl) (by decide) (by decide) (I.iK.1) ?_
    refine xw_iconst 11 (nI 1) dX5_strand_10 rfl (xofI 1) ?_
    refine xw_isub 12 dX5_strand_11 rfl ?_
    refine xw_pS 15 dX5_strand_12 rfl ok_M_within s_X5_47 (xcast_t (.int (nI (if xlt p (zI z 7) then 1 else 0))) S_M_within (congrArg Value.int (bIff (xbt_lt (n := zI z 7) (by omega))))) (mH_len) rfl rfl rfl rfl rfl rfl ?_
    refine xw_if_ne 22 18 dX5_strand_15 rfl rfl (fun h15 => absurd (w0) h15) (fun h15 => ?_)
    refine xw_iconst 19 (nI 1) dX5_strand_18 rfl (xofI 1) ?_
    refine xw_goto 36 dX5_strand_19 rfl ?_
    refine xw_put (hp' := (mH A z (nI s) hi (nI ln) tx (nI 1) ot oR oC wa pR pC pM ps rr ha nu fe kc hs T)) 39 dX5_strand_36 rfl f_X5_40 (xA hA rfl) ⟨rfl, rfl⟩ rfl rfl (xAs hA rfl) ?_
    refine xw_aload_n 40 dX5_strand_39 rfl rfl rfl ?_
    refine xw_get 43 dX5_strand_40 rfl f_X5_40 (xA hA rfl) rfl ?_
    refine xw_if_le 50 46 dX5_strand_43 rfl rfl (fun h43 => absurd h43 (by decide)) (fun h43 => ?_)
    refine xw_iconst 47 (nI 0) dX5_strand_46 rfl (xofI 0) ?_
    refine xw_goto 56 dX5_strand_47 rfl ?_
    exact xw_ireturn dX5_strand_56 rfl (⟨rfl, (ot, oR, oC, wa, pR, pC, pM, ps, rr, ha, nu, fe, kc, hs), rfl⟩)
theorem S_M_colour {p q : Int32} (hA : A.length = 71) (I : xInv z) : xMet G M_colour [.ref 71, .int p, .int q] (mH A z (nI s) hi (nI ln) tx th ot oR oC wa pR pC pM ps rr ha nu fe kc hs T) x 0 0 (xQm A T (rCol z p q) (z, hi, s, ln, tx)) := by
  have hA1 := I.iA.2.1
  have hA2 := I.iA.2.2
  have hS2 := I.iS.2.2
  have hR1 := I.iR.2.1
  have hR2 := I.iR.2.2
  have hC1 := I.iC.2.1
  have hC2 := I.iC.2.2
  have hM2 := I.iM.2.2
  have hK1 := I.iK.2.1
  have hK2 := I.iK.2.2
  unfold rCol
  by_cases g0 : xlt p 6
  · have w0 : nI (if xlt p 6 then 1 else 0) = nI 1 := bIf g0
    rw [if_pos g0]
    obtain ⟨a, a1, rfl⟩ := xlt_y (by first | decide | omega) g0
    by_cases g1 : xlt q 6
    · have w1 : nI (if xlt q 6 then 1 else 0) = nI 1 := bIf g1
      rw [if_pos g1]
      obtain ⟨b, b1, rfl⟩ := xlt_y (by first | decide | omega) g1
      rw [pN_k (by omega), pN_k (by omega)]
      refine xw_aload_n 1 dX5_colour_0 rfl rfl rfl ?_
      refine xw_iload_n 2 dX5_colour_1 rfl rfl ?_
      refine xw_pS 5 dX5_colour_2 rfl ok_M_isColour s_X5_108 (S_M_isColour) (mH_len) rfl rfl rfl rfl rfl rfl ?_
      refine xw_if_eq 21 8 dX5_colour_5 rfl rfl (fun h5 => absurd h5 (by rw [w0]; decide)) (fun h5 => ?_)
      refine xw_iload_n 9 dX5_colour_8 rfl rfl ?_
      refine xw_iconst 10 (nI 0) dX5_colour_9 rfl (xofI 0) ?_
      refine xw_iconst 11 (nI 5) dX5_colour_10 rfl (xofI 5) ?_
      refine xw_pS 14 dX5_colour_11 rfl ok_M_within s_X5_47 (xcast_t (.int (nI (if xlt (nI b) 6 then 1 else 0))) S_M_within (congrArg Value.int (bIff (xin_lt (n := 5) (by decide))))) (mH_len) rfl rfl rfl rfl rfl rfl ?_
      refine xw_if_eq 21 17 dX5_colour_14 rfl rfl (fun h14 => absurd h14 (by rw [w1]; decide)) (fun h14 => ?_)
      refine xw_iconst 18 (nI 0) dX5_colour_17 rfl (xofI 0) ?_
      refine xw_goto 22 dX5_colour_18 rfl ?_
      refine xw_put (hp' := (mH A z (nI s) hi (nI ln) tx (nI 0) ot oR oC wa pR pC pM ps rr ha nu fe kc hs T)) 25 dX5_colour_22 rfl f_X5_40 (xA hA rfl) ⟨rfl, rfl⟩ rfl rfl (xAs hA rfl) ?_
      refine xw_aload_n 26 dX5_colour_25 rfl rfl rfl ?_
      refine xw_get 29 dX5_colour_26 rfl f_X5_40 (xA hA rfl) rfl ?_
      refine xw_if_le 36 32 dX5_colour_29 rfl rfl (fun h29 => ?_) (fun h29 => absurd (by decide) h29)
      refine xw_aload_n 37 dX5_colour_36 rfl rfl rfl ?_
      refine xw_iload_n 38 dX5_colour_37 rfl rfl ?_
      refine xw_iload_n 39 dX5_colour_38 rfl rfl ?_
      refine xw_pV 42 dX5_colour_39 rfl ok_M_colourNow s_X5_185 (S_M_colourNow (xA hA rfl) (xA hA rfl) I a1 b1) (mH_len) (xA hA rfl) rfl rfl rfl rfl rfl rfl rfl ?_
      exact xw_ireturn dX5_colour_42 rfl (⟨rfl, (ot, oR, oC, wa, pR, pC, pM, ps, rr, ha, nu, fe, kc, hs), rfl⟩)
    · have w1 : nI (if xlt q 6 then 1 else 0) = nI 0 := bIfn g1
      rw [if_neg g1]
      refine xw_aload_n 1 dX5_colour_0 rfl rfl rfl ?_
      refine xw_iload_n 2 dX5_colour_1 rfl rfl ?_
      refine xw_pS 5 dX5_colour_2 rfl ok_M_isColour s_X5_108 (S_M_isColour) (mH_len) rfl rfl rfl rfl rfl rfl ?_
      refine xw_if_eq 21 8 dX5_colour_5 rfl rfl (fun h5 => absurd h5 (by rw [w0]; decide)) (fun h5 => ?_)
      refine xw_iload_n 9 dX5_colour_8 rfl rfl ?_
      refine xw_iconst 10 (nI 0) dX5_colour_9 rfl (xofI 0) ?_
      refine xw_iconst 11 (nI 5) dX5_colour_10 rfl (xofI 5) ?_
      refine xw_pS 14 dX5_colour_11 rfl ok_M_within s_X5_47 (xcast_t (.int (nI (if xlt q 6 then 1 else 0))) S_M_within (congrArg Value.int (bIff (xin_lt (n := 5) (by decide))))) (mH_len) rfl rfl rfl rfl rfl rfl ?_
      refine xw_if_eq 21 17 dX5_colour_14 rfl rfl (fun h14 => ?_) (fun h14 => absurd (w1) h14)
      refine xw_iconst 22 (nI 1) dX5_colour_21 rfl (xofI 1) ?_
      refine xw_put (hp' := (mH A z (nI s) hi (nI ln) tx (nI 1) ot oR oC wa pR pC pM ps rr ha nu fe kc hs T)) 25 dX5_colour_22 rfl f_X5_40 (xA hA rfl) ⟨rfl, rfl⟩ rfl rfl (xAs hA rfl) ?_
      refine xw_aload_n 26 dX5_colour_25 rfl rfl rfl ?_
      refine xw_get 29 dX5_colour_26 rfl f_X5_40 (xA hA rfl) rfl ?_
      refine xw_if_le 36 32 dX5_colour_29 rfl rfl (fun h29 => absurd h29 (by decide)) (fun h29 => ?_)
      refine xw_iconst 33 (nI 0) dX5_colour_32 rfl (xofI 0) ?_
      refine xw_goto 42 dX5_colour_33 rfl ?_
      exact xw_ireturn dX5_colour_42 rfl (⟨rfl, (ot, oR, oC, wa, pR, pC, pM, ps, rr, ha, nu, fe, kc, hs), rfl⟩)
  · have w0 : nI (if xlt p 6 then 1 else 0) = nI 0 := bIfn g0
    rw [if_neg g0]
    refine xw_aload_n 1 dX5_colour_0 rfl rfl rfl ?_
    refine xw_iload_n 2 dX5_colour_1 rfl rfl ?_
    refine xw_pS 5 dX5_colour_2 rfl ok_M_isColour s_X5_108 (S_M_isColour) (mH_len) rfl rfl rfl rfl rfl rfl ?_
    refine xw_if_eq 21 8 dX5_colour_5 rfl rfl (fun h5 => ?_) (fun h5 => absurd (w0) h5)
    refine xw_iconst 22 (nI 1) dX5_colour_21 rfl (xofI 1) ?_
    refine xw_put (hp' := (mH A z (nI s) hi (nI ln) tx (nI 1) ot oR oC wa pR pC pM ps rr ha nu fe kc hs T)) 25 dX5_colour_22 rfl f_X5_40 (xA hA rfl) ⟨rfl, rfl⟩ rfl rfl (xAs hA rfl) ?_
    refine xw_aload_n 26 dX5_colour_25 rfl rfl rfl ?_
    refine xw_get 29 dX5_colour_26 rfl f_X5_40 (xA hA rfl) rfl ?_
    refine xw_if_le 36 32 dX5_colour_29 rfl rfl (fun h29 => absurd h29 (by decide)) (fun h29 => ?_)
    refine xw_iconst 33 (nI 0) dX5_colour_32 rfl (xofI 0) ?_
    refine xw_goto 42 dX5_colour_33 rfl ?_
    exact xw_ireturn dX5_colour_42 rfl (⟨rfl, (ot, oR, oC, wa, pR, pC, pM, ps, rr, ha, nu, fe, kc, hs), rfl⟩)
theorem S_M_count {p : Int32} (hA : A.length = 71) (I : xInv z) : xMet G M_count [.ref 71, .int p] (mH A z (nI s) hi (nI ln) tx th ot oR oC wa pR pC pM ps rr ha nu fe kc hs T) x 0 0 (xQm A T (rCnt z (nI s) p) (z, hi, s, ln, tx)) := by
  have hA1 := I.iA.2.1
  have hA2 := I.iA.2.2
  have hS2 := I.iS.2.2
  have hR1 := I.iR.2.1
  have hR2 := I.iR.2.2
  have hC1 := I.iC.2.1
  have hC2 := I.iC.2.2
  have hM2 := I.iM.2.2
  have hK1 := I.iK.2.1
  have hK2 := I.iK.2.2
  unfold rCnt
  by_cases g0 : xlt p 13
  · have w0 : nI (if xlt p 13 then 1 else 0) = nI 1 := bIf g0
    rw [if_pos g0]
    obtain ⟨a, a1, rfl⟩ := xlt_y (by first | decide | omega) g0
    rw [pN_k (by omega)]
    refine xw_aload_n 1 dX5_count_0 rfl rfl rfl ?_
    refine xw_iload_n 2 dX5_count_1 rfl rfl ?_
    refine xw_iconst 3 (nI 0) dX5_count_2 rfl (xofI 0) ?_
    refine xw_bipush 5 (nI 12) dX5_count_3 rfl (by decide) ?_
    refine xw_pS 8 dX5_count_5 rfl ok_M_within s_X5_47 (xcast_t (.int (nI (if xlt (nI a) 13 then 1 else 0))) S_M_within (congrArg Value.int (bIff (xin_lt (n := 12) (by decide))))) (mH_len) rfl rfl rfl rfl rfl rfl ?_
    refine xw_if_eq 15 11 dX5_count_8 rfl rfl (fun h8 => absurd h8 (by rw [w0]; decide)) (fun h8 => ?_)
    refine xw_iconst 12 (nI 0) dX5_count_11 rfl (xofI 0) ?_
    refine xw_goto 16 dX5_count_12 rfl ?_
    refine xw_put (hp' := (mH A z (nI s) hi (nI ln) tx (nI 0) ot oR oC wa pR pC pM ps rr ha nu fe kc hs T)) 19 dX5_count_16 rfl f_X5_40 (xA hA rfl) ⟨rfl, rfl⟩ rfl rfl (xAs hA rfl) ?_
    refine xw_aload_n 20 dX5_count_19 rfl rfl rfl ?_
    refine xw_get 23 dX5_count_20 rfl f_X5_40 (xA hA rfl) rfl ?_
    refine xw_if_le 30 26 dX5_count_23 rfl rfl (fun h23 => ?_) (fun h23 => absurd (by decide) h23)
    refine xw_aload_n 31 dX5_count_30 rfl rfl rfl ?_
    refine xw_iload_n 32 dX5_count_31 rfl rfl ?_
    refine xw_pV 35 dX5_count_32 rfl ok_M_counted s_X5_203 (S_M_counted (xA hA rfl) (xA hA rfl) I a1) (mH_len) (xA hA rfl) rfl rfl rfl rfl rfl rfl rfl ?_
    exact xw_ireturn dX5_count_35 rfl (⟨rfl, (ot, oR, oC, wa, pR, pC, pM, ps, rr, ha, nu, fe, kc, hs), rfl⟩)
  · have w0 : nI (if xlt p 13 then 1 else 0) = nI 0 := bIfn g0
    rw [if_neg g0]
    refine xw_aload_n 1 dX5_count_0 rfl rfl rfl ?_
    refine xw_iload_n 2 dX5_count_1 rfl rfl ?_
    refine xw_iconst 3 (nI 0) dX5_count_2 rfl (xofI 0) ?_
    refine xw_bipush 5 (nI 12) dX5_count_3 rfl (by decide) ?_
    refine xw_pS 8 dX5_count_5 rfl ok_M_within s_X5_47 (xcast_t (.int (nI (if xlt p 13 then 1 else 0))) S_M_within (congrArg Value.int (bIff (xin_lt (n := 12) (by decide))))) (mH_len) rfl rfl rfl rfl rfl rfl ?_
    refine xw_if_eq 15 11 dX5_count_8 rfl rfl (fun h8 => ?_) (fun h8 => absurd (w0) h8)
    refine xw_iconst 16 (nI 1) dX5_count_15 rfl (xofI 1) ?_
    refine xw_put (hp' := (mH A z (nI s) hi (nI ln) tx (nI 1) ot oR oC wa pR pC pM ps rr ha nu fe kc hs T)) 19 dX5_count_16 rfl f_X5_40 (xA hA rfl) ⟨rfl, rfl⟩ rfl rfl (xAs hA rfl) ?_
    refine xw_aload_n 20 dX5_count_19 rfl rfl rfl ?_
    refine xw_get 23 dX5_count_20 rfl f_X5_40 (xA hA rfl) rfl ?_
    refine xw_if_le 30 26 dX5_count_23 rfl rfl (fun h23 => absurd h23 (by decide)) (fun h23 => ?_)
    refine xw_iconst 27 (nI 0) dX5_count_26 rfl (xofI 0) ?_
    refine xw_goto 35 dX5_count_27 rfl ?_
    exact xw_ireturn dX5_count_35 rfl (⟨rfl, (ot, oR, oC, wa, pR, pC, pM, ps, rr, ha, nu, fe, kc, hs), rfl⟩)
theorem S_M_setting {p : Int32} (hA : A.length = 71) (I : xInv z) : xMet G M_setting [.ref 71, .int p] (mH A z (nI s) hi (nI ln) tx th ot oR oC wa pR pC pM ps rr ha nu fe kc hs T) x 0 0 (xQm A T (rSet z p) (z, hi, s, ln, tx)) := by
  have hA1 := I.iA.2.1
  have hA2 := I.iA.2.2
  have hS2 := I.iS.2.2
  have hR1 := I.iR.2.1
  have hR2 := I.iR.2.2
  have hC1 := I.iC.2.1
  have hC2 := I.iC.2.2
  have hM2 := I.iM.2.2
  have hK1 := I.iK.2.1
  have hK2 := I.iK.2.2
  unfold rSet
  by_cases g0 : xlt p 4
  · have w0 : nI (if xlt p 4 then 1 else 0) = nI 1 := bIf g0
    rw [if_pos g0]
    obtain ⟨a, a1, rfl⟩ := xlt_y (by first | decide | omega) g0
    rw [pN_k (by omega)]
    refine xw_aload_n 1 dX5_setting_0 rfl rfl rfl ?_
    refine xw_iload_n 2 dX5_setting_1 rfl rfl ?_
    refine xw_pS 5 dX5_setting_2 rfl ok_M_isSetting s_X5_115 (S_M_isSetting) (mH_len) rfl rfl rfl rfl rfl rfl ?_
    refine xw_if_eq 12 8 dX5_setting_5 rfl rfl (fun h5 => absurd h5 (by rw [w0]; decide)) (fun h5 => ?_)
    refine xw_iconst 9 (nI 0) dX5_setting_8 rfl (xofI 0) ?_
    refine xw_goto 13 dX5_setting_9 rfl ?_
    refine xw_put (hp' := (mH A z (nI s) hi (nI ln) tx (nI 0) ot oR oC wa pR pC pM ps rr ha nu fe kc hs T)) 16 dX5_setting_13 rfl f_X5_40 (xA hA rfl) ⟨rfl, rfl⟩ rfl rfl (xAs hA rfl) ?_
    refine xw_aload_n 17 dX5_setting_16 rfl rfl rfl ?_
    refine xw_get 20 dX5_setting_17 rfl f_X5_40 (xA hA rfl) rfl ?_
    refine xw_if_le 27 23 dX5_setting_20 rfl rfl (fun h20 => ?_) (fun h20 => absurd (by decide) h20)
    refine xw_aload_n 28 dX5_setting_27 rfl rfl rfl ?_
    refine xw_get 31 dX5_setting_28 rfl f_X5_7 (xA hA rfl) rfl ?_
    refine xw_iconst 32 (nI 0) dX5_setting_31 rfl (xofI 0) ?_
    refine xw_iload_n 33 dX5_setting_32 rfl rfl ?_
    refine xw_iadd 34 dX5_setting_33 rfl ?_
    refine xw_iaload (j := a) 35 dX5_setting_34 rfl (xA hA rfl) ((nI_add _ _).trans (congrArg nI (Nat.zero_add a))) (by omega) (by omega) ?_
    exact xw_ireturn dX5_setting_35 rfl (⟨rfl, (ot, oR, oC, wa, pR, pC, pM, ps, rr, ha, nu, fe, kc, hs), rfl⟩)
  · have w0 : nI (if xlt p 4 then 1 else 0) = nI 0 := bIfn g0
    rw [if_neg g0]
    refine xw_aload_n 1 dX5_setting_0 rfl rfl rfl ?_
    refine xw_iload_n 2 dX5_setting_1 rfl rfl ?_
    refine xw_pS 5 dX5_setting_2 rfl ok_M_isSetting s_X5_115 (S_M_isSetting) (mH_len) rfl rfl rfl rfl rfl rfl ?_
    refine xw_if_eq 12 8 dX5_setting_5 rfl rfl (fun h5 => ?_) (fun h5 => absurd (w0) h5)
    refine xw_iconst 13 (nI 1) dX5_setting_12 rfl (xofI 1) ?_
    refine xw_put (hp' := (mH A z (nI s) hi (nI ln) tx (nI 1) ot oR oC wa pR pC pM ps rr ha nu fe kc hs T)) 16 dX5_setting_13 rfl f_X5_40 (xA hA rfl) ⟨rfl, rfl⟩ rfl rfl (xAs hA rfl) ?_
    refine xw_aload_n 17 dX5_setting_16 rfl rfl rfl ?_
    refine xw_get 20 dX5_setting_17 rfl f_X5_40 (xA hA rfl) rfl ?_
    refine xw_if_le 27 23 dX5_setting_20 rfl rfl (fun h20 => absurd h20 (by decide)) (fun h20 => ?_)
    refine xw_iconst 24 (nI 0) dX5_setting_23 rfl (xofI 0) ?_
    refine xw_goto 35 dX5_setting_24 rfl ?_
    exact xw_ireturn dX5_setting_35 rfl (⟨rfl, (ot, oR, oC, wa, pR, pC, pM, ps, rr, ha, nu, fe, kc, hs), rfl⟩)
theorem S_M_needed {p q : Int32} (hA : A.length = 71) (I : xInv z) : xMet G M_needed [.ref 71, .int p, .int q] (mH A z (nI s) hi (nI ln) tx th ot oR oC wa pR pC pM ps rr ha nu fe kc hs T) x 0 0 (xQm A T (rNee z p q) (z, hi, s, ln, tx)) := by
  have hA1 := I.iA.2.1
  have hA2 := I.iA.2.2
  have hS2 := I.iS.2.2
  have hR1 := I.iR.2.1
  have hR2 := I.iR.2.2
  have hC1 := I.iC.2.1
  have hC2 := I.iC.2.2
  have hM2 := I.iM.2.2
  have hK1 := I.iK.2.1
  have hK2 := I.iK.2.2
  unfold rNee
  by_cases g0 : xlt p 6
  · have w0 : nI (if xlt p 6 then 1 else 0) = nI 1 := bIf g0
    rw [if_pos g0]
    obtain ⟨a, a1, rfl⟩ := xlt_y (by first | decide | omega) g0
    by_cases g1 : xin q 1 240
    · have w1 : nI (if xin q 1 240 then 1 else 0) = nI 1 := bIf g1
      rw [if_pos g1]
      obtain ⟨b, b1, b2, rfl⟩ := xin_y (by decide) (by decide) g1
      rw [pN_k (by omega), pN_k (by omega)]
      refine xw_aload_n 1 dX5_needed_0 rfl rfl rfl ?_
      refine xw_iload_n 2 dX5_needed_1 rfl rfl ?_
      refine xw_pS 5 dX5_needed_2 rfl ok_M_isColour s_X5_108 (S_M_isColour) (mH_len) rfl rfl rfl rfl rfl rfl ?_
      refine xw_if_eq 23 8 dX5_needed_5 rfl rfl (fun h5 => absurd h5 (by rw [w0]; decide)) (fun h5 => ?_)
      refine xw_iload_n 9 dX5_needed_8 rfl rfl ?_
      refine xw_iconst 10 (nI 1) dX5_needed_9 rfl (xofI 1) ?_
      refine xw_sipush 13 (nI 240) dX5_needed_10 rfl (by decide) ?_
      refine xw_pS 16 dX5_needed_13 rfl ok_M_within s_X5_47 (S_M_within) (mH_len) rfl rfl rfl rfl rfl rfl ?_
      refine xw_if_eq 23 19 dX5_needed_16 rfl rfl (fun h16 => absurd h16 (by rw [w1]; decide)) (fun h16 => ?_)
      refine xw_iconst 20 (nI 0) dX5_needed_19 rfl (xofI 0) ?_
      refine xw_goto 24 dX5_needed_20 rfl ?_
      refine xw_put (hp' := (mH A z (nI s) hi (nI ln) tx (nI 0) ot oR oC wa pR pC pM ps rr ha nu fe kc hs T)) 27 dX5_needed_24 rfl f_X5_40 (xA hA rfl) ⟨rfl, rfl⟩ rfl rfl (xAs hA rfl) ?_
      refine xw_aload_n 28 dX5_needed_27 rfl rfl rfl ?_
      refine xw_get 31 dX5_needed_28 rfl f_X5_40 (xA hA rfl) rfl ?_
      refine xw_if_le 38 34 dX5_needed_31 rfl rfl (fun h31 => ?_) (fun h31 => absurd (by decide) h31)
      refine xw_aload_n 39 dX5_needed_38 rfl rfl rfl ?_
      refine xw_iload_n 40 dX5_needed_39 rfl rfl ?_
      refine xw_iload_n 41 dX5_needed_40 rfl rfl ?_
      refine xw_pV 44 dX5_needed_41 rfl ok_M_neededNow s_X5_206 (S_M_neededNow (xA hA rfl) (xA hA rfl) I (by omega)) (mH_len) (xA hA rfl) rfl rfl rfl rfl rfl rfl rfl ?_
      exact xw_ireturn dX5_needed_44 rfl (⟨rfl, (ot, oR, oC, wa, pR, pC, pM, ps, rr, ha, nu, fe, kc, hs), rfl⟩)
    · have w1 : nI (if xin q 1 240 then 1 else 0) = nI 0 := bIfn g1
      rw [if_neg g1]
      refine xw_aload_n 1 dX5_needed_0 rfl rfl rfl ?_
      refine xw_iload_n 2 dX5_needed_1 rfl rfl ?_
      refine xw_pS 5 dX5_needed_2 rfl ok_M_isColour s_X5_108 (S_M_isColour) (mH_len) rfl rfl rfl rfl rfl rfl ?_
      refine xw_if_eq 23 8 dX5_needed_5 rfl rfl (fun h5 => absurd h5 (by rw [w0]; decide)) (fun h5 => ?_)
      refine xw_iload_n 9 dX5_needed_8 rfl rfl ?_
      refine xw_iconst 10 (nI 1) dX5_needed_9 rfl (xofI 1) ?_
      refine xw_sipush 13 (nI 240) dX5_needed_10 rfl (by decide) ?_
      refine xw_pS 16 dX5_needed_13 rfl ok_M_within s_X5_47 (S_M_within) (mH_len) rfl rfl rfl rfl rfl rfl ?_
      refine xw_if_eq 23 19 dX5_needed_16 rfl rfl (fun h16 => ?_) (fun h16 => absurd (w1) h16)
      refine xw_iconst 24 (nI 1) dX5_needed_23 rfl (xofI 1) ?_
      refine xw_put (hp' := (mH A z (nI s) hi (nI ln) tx (nI 1) ot oR oC wa pR pC pM ps rr ha nu fe kc hs T)) 27 dX5_needed_24 rfl f_X5_40 (xA hA rfl) ⟨rfl, rfl⟩ rfl rfl (xAs hA rfl) ?_
      refine xw_aload_n 28 dX5_needed_27 rfl rfl rfl ?_
      refine xw_get 31 dX5_needed_28 rfl f_X5_40 (xA hA rfl) rfl ?_
      refine xw_if_le 38 34 dX5_needed_31 rfl rfl (fun h31 => absurd h31 (by decide)) (fun h31 => ?_)
      refine xw_iconst 35 (nI 0) dX5_needed_34 rfl (xofI 0) ?_
      refine xw_goto 44 dX5_needed_35 rfl ?_
      exact xw_ireturn dX5_needed_44 rfl (⟨rfl, (ot, oR, oC, wa, pR, pC, pM, ps, rr, ha, nu, fe, kc, hs), rfl⟩)
  · have w0 : nI (if xlt p 6 then 1 else 0) = nI 0 := bIfn g0
    rw [if_neg g0]
    refine xw_aload_n 1 dX5_needed_0 rfl rfl rfl ?_
    refine xw_iload_n 2 dX5_needed_1 rfl rfl ?_
    refine xw_pS 5 dX5_needed_2 rfl ok_M_isColour s_X5_108 (S_M_isColour) (mH_len) rfl rfl rfl rfl rfl rfl ?_
    refine xw_if_eq 23 8 dX5_needed_5 rfl rfl (fun h5 => ?_) (fun h5 => absurd (w0) h5)
    refine xw_iconst 24 (nI 1) dX5_needed_23 rfl (xofI 1) ?_
    refine xw_put (hp' := (mH A z (nI s) hi (nI ln) tx (nI 1) ot oR oC wa pR pC pM ps rr ha nu fe kc hs T)) 27 dX5_needed_24 rfl f_X5_40 (xA hA rfl) ⟨rfl, rfl⟩ rfl rfl (xAs hA rfl) ?_
    refine xw_aload_n 28 dX5_needed_27 rfl rfl rfl ?_
    refine xw_get 31 dX5_needed_28 rfl f_X5_40 (xA hA rfl) rfl ?_
    refine xw_if_le 38 34 dX5_needed_31 rfl rfl (fun h31 => absurd h31 (by decide)) (fun h31 => ?_)
    refine xw_iconst 35 (nI 0) dX5_needed_34 rfl (xofI 0) ?_
    refine xw_goto 44 dX5_needed_35 rfl ?_
    exact xw_ireturn dX5_needed_44 rfl (⟨rfl, (ot, oR, oC, wa, pR, pC, pM, ps, rr, ha, nu, fe, kc, hs), rfl⟩)
theorem S_M_pattern {p q : Int32} (hA : A.length = 71) (I : xInv z) : xMet G M_pattern [.ref 71, .int p, .int q] (mH A z (nI s) hi (nI ln) tx th ot oR oC wa pR pC pM ps rr ha nu fe kc hs T) x 0 0 (xQm A T (rPat z p q) (z, hi, s, ln, tx)) := by
  have hA1 := I.iA.2.1
  have hA2 := I.iA.2.2
  have hS2 := I.iS.2.2
  have hR1 := I.iR.2.1
  have hR2 := I.iR.2.2
  have hC1 := I.iC.2.1
  have hC2 := I.iC.2.2
  have hM2 := I.iM.2.2
  have hK1 := I.iK.2.1
  have hK2 := I.iK.2.2
  unfold rPat
  by_cases g0 : xlt p 240
  · have w0 : nI (if xlt p 240 then 1 else 0) = nI 1 := bIf g0
    rw [if_pos g0]
    obtain ⟨a, a1, rfl⟩ := xlt_y (by decide) g0
    by_cases g1 : xlt q 4
    · have w1 : nI (if xlt q 4 then 1 else 0) = nI 1 := bIf g1
      rw [if_pos g1]
      obtain ⟨b, b1, rfl⟩ := xlt_y (by decide) g1
      rw [pN_k (by omega), pN_k (by omega)]
      rcases (show b = 0 ∨ b = 1 ∨ b = 2 ∨ b = 3 by omega) with rfl | rfl | rfl | rfl
      · skip
        refine xw_aload_n 1 dX5_pattern_0 rfl rfl rfl ?_
        refine xw_iload_n 2 dX5_pattern_1 rfl rfl ?_
        refine xw_iconst 3 (nI 0) dX5_pattern_2 rfl (xofI 0) ?_
        refine xw_sipush 6 (nI 239) dX5_pattern_3 rfl (by decide) ?_
        refine xw_pS 9 dX5_pattern_6 rfl ok_M_within s_X5_47 (xcast_t (.int (nI (if xlt (nI a) 240 then 1 else 0))) S_M_within (congrArg Value.int (bIff (xin_lt (n := 239) (by decide))))) (mH_len) rfl rfl rfl rfl rfl rfl ?_
        refine xw_if_eq 25 12 dX5_pattern_9 rfl rfl (fun h9 => absurd h9 (by rw [w0]; decide)) (fun h9 => ?_)
        refine xw_iload_n 13 dX5_pattern_12 rfl rfl ?_
        refine xw_iconst 14 (nI 0) dX5_pattern_13 rfl (xofI 0) ?_
        refine xw_iconst 15 (nI 3) dX5_pattern_14 rfl (xofI 3) ?_
        refine xw_pS 18 dX5_pattern_15 rfl ok_M_within s_X5_47 (xcast_t (.int (nI (if xlt (nI 0) 4 then 1 else 0))) S_M_within (congrArg Value.int (bIff (xin_lt (n := 3) (by decide))))) (mH_len) rfl rfl rfl rfl rfl rfl ?_
        refine xw_if_eq 25 21 dX5_pattern_18 rfl rfl (fun h18 => absurd h18 (by rw [w1]; decide)) (fun h18 => ?_)
        refine xw_iconst 22 (nI 0) dX5_pattern_21 rfl (xofI 0) ?_
        refine xw_goto 26 dX5_pattern_22 rfl ?_
        refine xw_put (hp' := (mH A z (nI s) hi (nI ln) tx (nI 0) ot oR oC wa pR pC pM ps rr ha nu fe kc hs T)) 29 dX5_pattern_26 rfl f_X5_40 (xA hA rfl) ⟨rfl, rfl⟩ rfl rfl (xAs hA rfl) ?_
        refine xw_aload_n 30 dX5_pattern_29 rfl rfl rfl ?_
        refine xw_get 33 dX5_pattern_30 rfl f_X5_40 (xA hA rfl) rfl ?_
        refine xw_if_le 38 36 dX5_pattern_33 rfl rfl (fun h33 => ?_) (fun h33 => absurd (by decide) h33)
        refine xw_iload_n 39 dX5_pattern_38 rfl rfl ?_
        refine xw_if_ne 50 42 dX5_pattern_39 rfl rfl (fun h39 => absurd (rfl) h39) (fun h39 => ?_)
        refine xw_aload_n 43 dX5_pattern_42 rfl rfl rfl ?_
        refine xw_iload_n 44 dX5_pattern_43 rfl rfl ?_
        refine xw_pV 47 dX5_pattern_44 rfl ok_M_colourOf s_X5_65 (S_M_colourOf (xA hA rfl) (xA hA rfl) I (by omega)) (mH_len) (xA hA rfl) rfl rfl rfl rfl rfl rfl rfl ?_
        refine xw_goto 81 dX5_pattern_47 rfl ?_
        exact xw_ireturn dX5_pattern_81 rfl (⟨rfl, (ot, oR, oC, wa, pR, pC, pM, ps, rr, ha, nu, fe, kc, hs), rfl⟩)
      · skip
        refine xw_aload_n 1 dX5_pattern_0 rfl rfl rfl ?_
        refine xw_iload_n 2 dX5_pattern_1 rfl rfl ?_
        refine xw_iconst 3 (nI 0) dX5_pattern_2 rfl (xofI 0) ?_
        refine xw_sipush 6 (nI 239) dX5_pattern_3 rfl (by decide) ?_
        refine xw_pS 9 dX5_pattern_6 rfl ok_M_within s_X5_47 (xcast_t (.int (nI (if xlt (nI a) 240 then 1 else 0))) S_M_within (congrArg Value.int (bIff (xin_lt (n := 239) (by decide))))) (mH_len) rfl rfl rfl rfl rfl rfl ?_
        refine xw_if_eq 25 12 dX5_pattern_9 rfl rfl (fun h9 => absurd h9 (by rw [w0]; decide)) (fun h9 => ?_)
        refine xw_iload_n 13 dX5_pattern_12 rfl rfl ?_
        refine xw_iconst 14 (nI 0) dX5_pattern_13 rfl (xofI 0) ?_
        refine xw_iconst 15 (nI 3) dX5_pattern_14 rfl (xofI 3) ?_
        refine xw_pS 18 dX5_pattern_15 rfl ok_M_within s_X5_47 (xcast_t (.int (nI (if xlt (nI 1) 4 then 1 else 0))) S_M_within (congrArg Value.int (bIff (xin_lt (n := 3) (by decide))))) (mH_len) rfl rfl rfl rfl rfl rfl ?_
        refine xw_if_eq 25 21 dX5_pattern_18 rfl rfl (fun h18 => absurd h18 (by rw [w1]; decide)) (fun h18 => ?_)
        refine xw_iconst 22 (nI 0) dX5_pattern_21 rfl (xofI 0) ?_
        refine xw_goto 26 dX5_pattern_22 rfl ?_
        refine xw_put (hp' := (mH A z (nI s) hi (nI ln) tx (nI 0) ot oR oC wa pR pC pM ps rr ha nu fe kc hs T)) 29 dX5_pattern_26 rfl f_X5_40 (xA hA rfl) ⟨rfl, rfl⟩ rfl rfl (xAs hA rfl) ?_
        refine xw_aload_n 30 dX5_pattern_29 rfl rfl rfl ?_
        refine xw_get 33 dX5_pattern_30 rfl f_X5_40 (xA hA rfl) rfl ?_
        refine xw_if_le 38 36 dX5_pattern_33 rfl rfl (fun h33 => ?_) (fun h33 => absurd (by decide) h33)
        refine xw_iload_n 39 dX5_pattern_38 rfl rfl ?_
        refine xw_if_ne 50 42 dX5_pattern_39 rfl rfl (fun h39 => ?_) (fun h39 => absurd h39 (by decide))
        refine xw_iload_n 51 dX5_pattern_50 rfl rfl ?_
        refine xw_iconst 52 (nI 1) dX5_pattern_51 rfl (xofI 1) ?_
        refine xw_icmp_ne 63 55 dX5_pattern_52 rfl rfl (fun h52 => absurd (rfl) h52) (fun h52 => ?_)
        refine xw_aload_n 56 dX5_pattern_55 rfl rfl rfl ?_
        refine xw_iload_n 57 dX5_pattern_56 rfl rfl ?_
        refine xw_pV 60 dX5_pattern_57 rfl ok_M_roundOf s_X5_51 (S_M_roundOf (xA hA rfl) (xA hA rfl) I (by omega)) (mH_len) (xA hA rfl) rfl rfl rfl rfl rfl rfl rfl ?_
        refine xw_goto 81 dX5_pattern_60 rfl ?_
        exact xw_ireturn dX5_pattern_81 rfl (⟨rfl, (ot, oR, oC, wa, pR, pC, pM, ps, rr, ha, nu, fe, kc, hs), rfl⟩)
      · skip
        refine xw_aload_n 1 dX5_pattern_0 rfl rfl rfl ?_
        refine xw_iload_n 2 dX5_pattern_1 rfl rfl ?_
        refine xw_iconst 3 (nI 0) dX5_pattern_2 rfl (xofI 0) ?_
        refine xw_sipush 6 (nI 239) dX5_pattern_3 rfl (by decide) ?_
        refine xw_pS 9 dX5_pattern_6 rfl ok_M_within s_X5_47 (xcast_t (.int (nI (if xlt (nI a) 240 then 1 else 0))) S_M_within (congrArg Value.int (bIff (xin_lt (n := 239) (by decide))))) (mH_len) rfl rfl rfl rfl rfl rfl ?_
        refine xw_if_eq 25 12 dX5_pattern_9 rfl rfl (fun h9 => absurd h9 (by rw [w0]; decide)) (fun h9 => ?_)
        refine xw_iload_n 13 dX5_pattern_12 rfl rfl ?_
        refine xw_iconst 14 (nI 0) dX5_pattern_13 rfl (xofI 0) ?_
        refine xw_iconst 15 (nI 3) dX5_pattern_14 rfl (xofI 3) ?_
        refine xw_pS 18 dX5_pattern_15 rfl ok_M_within s_X5_47 (xcast_t (.int (nI (if xlt (nI 2) 4 then 1 else 0))) S_M_within (congrArg Value.int (bIff (xin_lt (n := 3) (by decide))))) (mH_len) rfl rfl rfl rfl rfl rfl ?_
        refine xw_if_eq 25 21 dX5_pattern_18 rfl rfl (fun h18 => absurd h18 (by rw [w1]; decide)) (fun h18 => ?_)
        refine xw_iconst 22 (nI 0) dX5_pattern_21 rfl (xofI 0) ?_
        refine xw_goto 26 dX5_pattern_22 rfl ?_
        refine xw_put (hp' := (mH A z (nI s) hi (nI ln) tx (nI 0) ot oR oC wa pR pC pM ps rr ha nu fe kc hs T)) 29 dX5_pattern_26 rfl f_X5_40 (xA hA rfl) ⟨rfl, rfl⟩ rfl rfl (xAs hA rfl) ?_
        refine xw_aload_n 30 dX5_pattern_29 rfl rfl rfl ?_
        refine xw_get 33 dX5_pattern_30 rfl f_X5_40 (xA hA rfl) rfl ?_
        refine xw_if_le 38 36 dX5_pattern_33 rfl rfl (fun h33 => ?_) (fun h33 => absurd (by decide) h33)
        refine xw_iload_n 39 dX5_pattern_38 rfl rfl ?_
        refine xw_if_ne 50 42 dX5_pattern_39 rfl rfl (fun h39 => ?_) (fun h39 => absurd h39 (by decide))
        refine xw_iload_n 51 dX5_pattern_50 rfl rfl ?_
        refine xw_iconst 52 (nI 1) dX5_pattern_51 rfl (xofI 1) ?_
        refine xw_icmp_ne 63 55 dX5_pattern_52 rfl rfl (fun h52 => ?_) (fun h52 => absurd h52 (by decide))
        refine xw_iload_n 64 dX5_pattern_63 rfl rfl ?_
        refine xw_iconst 65 (nI 2) dX5_pattern_64 rfl (xofI 2) ?_
        refine xw_icmp_ne 76 68 dX5_pattern_65 rfl rfl (fun h65 => absurd (rfl) h65) (fun h65 => ?_)
        refine xw_aload_n 69 dX5_pattern_68 rfl rfl rfl ?_
        refine xw_iload_n 70 dX5_pattern_69 rfl rfl ?_
        refine xw_pV 73 dX5_pattern_70 rfl ok_M_rowOf s_X5_55 (S_M_rowOf (xA hA rfl) (xA hA rfl) I (by omega)) (mH_len) (xA hA rfl) rfl rfl rfl rfl rfl rfl rfl ?_
        refine xw_goto 81 dX5_pattern_73 rfl ?_
        exact xw_ireturn dX5_pattern_81 rfl (⟨rfl, (ot, oR, oC, wa, pR, pC, pM, ps, rr, ha, nu, fe, kc, hs), rfl⟩)
      · skip
        refine xw_aload_n 1 dX5_pattern_0 rfl rfl rfl ?_
        refine xw_iload_n 2 dX5_pattern_1 rfl rfl ?_
        refine xw_iconst 3 (nI 0) dX5_pattern_2 rfl (xofI 0) ?_
        refine xw_sipush 6 (nI 239) dX5_pattern_3 rfl (by decide) ?_
        refine xw_pS 9 dX5_pattern_6 rfl ok_M_within s_X5_47 (xcast_t (.int (nI (if xlt (nI a) 240 then 1 else 0))) S_M_within (congrArg Value.int (bIff (xin_lt (n := 239) (by decide))))) (mH_len) rfl rfl rfl rfl rfl rfl ?_
        refine xw_if_eq 25 12 dX5_pattern_9 rfl rfl (fun h9 => absurd h9 (by rw [w0]; decide)) (fun h9 => ?_)
        refine xw_iload_n 13 dX5_pattern_12 rfl rfl ?_
        refine xw_iconst 14 (nI 0) dX5_pattern_13 rfl (xofI 0) ?_
        refine xw_iconst 15 (nI 3) dX5_pattern_14 rfl (xofI 3) ?_
        refine xw_pS 18 dX5_pattern_15 rfl ok_M_within s_X5_47 (xcast_t (.int (nI (if xlt (nI 3) 4 then 1 else 0))) S_M_within (congrArg Value.int (bIff (xin_lt (n := 3) (by decide))))) (mH_len) rfl rfl rfl rfl rfl rfl ?_
        refine xw_if_eq 25 21 dX5_pattern_18 rfl rfl (fun h18 => absurd h18 (by rw [w1]; decide)) (fun h18 => ?_)
        refine xw_iconst 22 (nI 0) dX5_pattern_21 rfl (xofI 0) ?_
        refine xw_goto 26 dX5_pattern_22 rfl ?_
        refine xw_put (hp' := (mH A z (nI s) hi (nI ln) tx (nI 0) ot oR oC wa pR pC pM ps rr ha nu fe kc hs T)) 29 dX5_pattern_26 rfl f_X5_40 (xA hA rfl) ⟨rfl, rfl⟩ rfl rfl (xAs hA rfl) ?_
        refine xw_aload_n 30 dX5_pattern_29 rfl rfl rfl ?_
        refine xw_get 33 dX5_pattern_30 rfl f_X5_40 (xA hA rfl) rfl ?_
        refine xw_if_le 38 36 dX5_pattern_33 rfl rfl (fun h33 => ?_) (fun h33 => absurd (by decide) h33)
        refine xw_iload_n 39 dX5_pattern_38 rfl rfl ?_
        refine xw_if_ne 50 42 dX5_pattern_39 rfl rfl (fun h39 => ?_) (fun h39 => absurd h39 (by decide))
        refine xw_iload_n 51 dX5_pattern_50 rfl rfl ?_
        refine xw_iconst 52 (nI 1) dX5_pattern_51 rfl (xofI 1) ?_
        refine xw_icmp_ne 63 55 dX5_pattern_52 rfl rfl (fun h52 => ?_) (fun h52 => absurd h52 (by decide))
        refine xw_iload_n 64 dX5_pattern_63 rfl rfl ?_
        refine xw_iconst 65 (nI 2) dX5_pattern_64 rfl (xofI 2) ?_
        refine xw_icmp_ne 76 68 dX5_pattern_65 rfl rfl (fun h65 => ?_) (fun h65 => absurd h65 (by decide))
        refine xw_aload_n 77 dX5_pattern_76 rfl rfl rfl ?_
        refine xw_iload_n 78 dX5_pattern_77 rfl rfl ?_
        refine xw_pV 81 dX5_pattern_78 rfl ok_M_columnOf s_X5_58 (S_M_columnOf (xA hA rfl) (xA hA rfl) I (by omega)) (mH_len) (xA hA rfl) rfl rfl rfl rfl rfl rfl rfl ?_
        exact xw_ireturn dX5_pattern_81 rfl (⟨rfl, (ot, oR, oC, wa, pR, pC, pM, ps, rr, ha, nu, fe, kc, hs), rfl⟩)
    · have w1 : nI (if xlt q 4 then 1 else 0) = nI 0 := bIfn g1
      rw [if_neg g1]
      refine xw_aload_n 1 dX5_pattern_0 rfl rfl rfl ?_
      refine xw_iload_n 2 dX5_pattern_1 rfl rfl ?_
      refine xw_iconst 3 (nI 0) dX5_pattern_2 rfl (xofI 0) ?_
      refine xw_sipush 6 (nI 239) dX5_pattern_3 rfl (by decide) ?_
      refine xw_pS 9 dX5_pattern_6 rfl ok_M_within s_X5_47 (xcast_t (.int (nI (if xlt (nI a) 240 then 1 else 0))) S_M_within (congrArg Value.int (bIff (xin_lt (n := 239) (by decide))))) (mH_len) rfl rfl rfl rfl rfl rfl ?_
      refine xw_if_eq 25 12 dX5_pattern_9 rfl rfl (fun h9 => absurd h9 (by rw [w0]; decide)) (fun h9 => ?_)
      refine xw_iload_n 13 dX5_pattern_12 rfl rfl ?_
      refine xw_iconst 14 (nI 0) dX5_pattern_13 rfl (xofI 0) ?_
      refine xw_iconst 15 (nI 3) dX5_pattern_14 rfl (xofI 3) ?_
      refine xw_pS 18 dX5_pattern_15 rfl ok_M_within s_X5_47 (xcast_t (.int (nI (if xlt q 4 then 1 else 0))) S_M_within (congrArg Value.int (bIff (xin_lt (n := 3) (by decide))))) (mH_len) rfl rfl rfl rfl rfl rfl ?_
      refine xw_if_eq 25 21 dX5_pattern_18 rfl rfl (fun h18 => ?_) (fun h18 => absurd (w1) h18)
      refine xw_iconst 26 (nI 1) dX5_pattern_25 rfl (xofI 1) ?_
      refine xw_put (hp' := (mH A z (nI s) hi (nI ln) tx (nI 1) ot oR oC wa pR pC pM ps rr ha nu fe kc hs T)) 29 dX5_pattern_26 rfl f_X5_40 (xA hA rfl) ⟨rfl, rfl⟩ rfl rfl (xAs hA rfl) ?_
      refine xw_aload_n 30 dX5_pattern_29 rfl rfl rfl ?_
      refine xw_get 33 dX5_pattern_30 rfl f_X5_40 (xA hA rfl) rfl ?_
      refine xw_if_le 38 36 dX5_pattern_33 rfl rfl (fun h33 => absurd h33 (by decide)) (fun h33 => ?_)
      refine xw_iconst 37 (nI 0) dX5_pattern_36 rfl (xofI 0) ?_
      exact xw_ireturn dX5_pattern_37 rfl (⟨rfl, (ot, oR, oC, wa, pR, pC, pM, ps, rr, ha, nu, fe, kc, hs), rfl⟩)
  · have w0 : nI (if xlt p 240 then 1 else 0) = nI 0 := bIfn g0
    rw [if_neg g0]
    refine xw_aload_n 1 dX5_pattern_0 rfl rfl rfl ?_
    refine xw_iload_n 2 dX5_pattern_1 rfl rfl ?_
    refine xw_iconst 3 (nI 0) dX5_pattern_2 rfl (xofI 0) ?_
    refine xw_sipush 6 (nI 239) dX5_pattern_3 rfl (by decide) ?_
    refine xw_pS 9 dX5_pattern_6 rfl ok_M_within s_X5_47 (xcast_t (.int (nI (if xlt p 240 then 1 else 0))) S_M_within (congrArg Value.int (bIff (xin_lt (n := 239) (by decide))))) (mH_len) rfl rfl rfl rfl rfl rfl ?_
    refine xw_if_eq 25 12 dX5_pattern_9 rfl rfl (fun h9 => ?_) (fun h9 => absurd (w0) h9)
    refine xw_iconst 26 (nI 1) dX5_pattern_25 rfl (xofI 1) ?_
    refine xw_put (hp' := (mH A z (nI s) hi (nI ln) tx (nI 1) ot oR oC wa pR pC pM ps rr ha nu fe kc hs T)) 29 dX5_pattern_26 rfl f_X5_40 (xA hA rfl) ⟨rfl, rfl⟩ rfl rfl (xAs hA rfl) ?_
    refine xw_aload_n 30 dX5_pattern_29 rfl rfl rfl ?_
    refine xw_get 33 dX5_pattern_30 rfl f_X5_40 (xA hA rfl) rfl ?_
    refine xw_if_le 38 36 dX5_pattern_33 rfl rfl (fun h33 => absurd h33 (by decide)) (fun h33 => ?_)
    refine xw_iconst 37 (nI 0) dX5_pattern_36 rfl (xofI 0) ?_
    exact xw_ireturn dX5_pattern_37 rfl (⟨rfl, (ot, oR, oC, wa, pR, pC, pM, ps, rr, ha, nu, fe, kc, hs), rfl⟩)
theorem S_M_cell {p q : Int32} (hA : A.length = 71) (I : xInv z) : xMet G M_cell [.ref 71, .int p, .int q] (mH A z (nI s) hi (nI ln) tx th ot oR oC wa pR pC pM ps rr ha nu fe kc hs T) x 0 0 (xQm A T (rCell z p q) (z, hi, s, ln, tx)) := by
  have hA1 := I.iA.2.1
  have hA2 := I.iA.2.2
  have hS2 := I.iS.2.2
  have hR1 := I.iR.2.1
  have hR2 := I.iR.2.2
  have hC1 := I.iC.2.1
  have hC2 := I.iC.2.2
  have hM2 := I.iM.2.2
  have hK1 := I.iK.2.1
  have hK2 := I.iK.2.2
  unfold rCell
  by_cases g : xlt p (zI z 4) ∧ xlt q (zI z 5)
  · have w0 : nI (if xlt p (zI z 4) ∧ xlt q (zI z 5) then 1 else 0) = nI 1 := bIf g
    rw [if_pos g.1, if_pos g.2]
    obtain ⟨a, a1, rfl⟩ := xlt_y (by omega) g.1
    obtain ⟨b, b1, rfl⟩ := xlt_y (by omega) g.2
    rw [pN_k (by omega), pN_k (by omega)]
    refine xw_aload_n 1 dX5_cell_0 rfl rfl rfl ?_
    refine xw_aload_n 2 dX5_cell_1 rfl rfl rfl ?_
    refine xw_iload_n 3 dX5_cell_2 rfl rfl ?_
    refine xw_iload_n 4 dX5_cell_3 rfl rfl ?_
    refine xw_pV 7 dX5_cell_4 rfl ok_M_isCell s_X5_111 (S_M_isCell (xA hA rfl) (xA hA rfl) I) (mH_len) (xA hA rfl) rfl rfl rfl rfl rfl rfl rfl ?_
    refine xw_if_eq 14 10 dX5_cell_7 rfl rfl (fun h7 => absurd h7 (by rw [w0]; decide)) (fun h7 => ?_)
    refine xw_iconst 11 (nI 0) dX5_cell_10 rfl (xofI 0) ?_
    refine xw_goto 15 dX5_cell_11 rfl ?_
    refine xw_put (hp' := (mH A z (nI s) hi (nI ln) tx (nI 0) ot oR oC wa pR pC pM ps rr ha nu fe kc hs T)) 18 dX5_cell_15 rfl f_X5_40 (xA hA rfl) ⟨rfl, rfl⟩ rfl rfl (xAs hA rfl) ?_
    refine xw_aload_n 19 dX5_cell_18 rfl rfl rfl ?_
    refine xw_get 22 dX5_cell_19 rfl f_X5_40 (xA hA rfl) rfl ?_
    refine xw_if_le 29 25 dX5_cell_22 rfl rfl (fun h22 => ?_) (fun h22 => absurd (by decide) h22)
    refine xw_aload_n 30 dX5_cell_29 rfl rfl rfl ?_
    refine xw_iload_n 31 dX5_cell_30 rfl rfl ?_
    refine xw_iload_n 32 dX5_cell_31 rfl rfl ?_
    refine xw_pV 35 dX5_cell_32 rfl ok_M_chartAt s_X5_61 (S_M_chartAt (xA hA rfl) (xA hA rfl) (by omega)) (mH_len) (xA hA rfl) rfl rfl rfl rfl rfl rfl rfl ?_
    exact xw_ireturn dX5_cell_35 rfl (⟨rfl, (ot, oR, oC, wa, pR, pC, pM, ps, rr, ha, nu, fe, kc, hs), rfl⟩)
  · have w0 : nI (if xlt p (zI z 4) ∧ xlt q (zI z 5) then 1 else 0) = nI 0 := bIfn g
    have e : (if xlt p (zI z 4) then (if xlt q (zI z 5) then ((0 : Nat), z (27 + (pN p * 12 + pN q))) else (1, 0)) else (1, 0)) = (1, 0) := by
      by_cases h1 : xlt p (zI z 4)
      · rw [if_pos h1, if_neg (fun h2 => g ⟨h1, h2⟩)]
      · rw [if_neg h1]
    rw [e]
    refine xw_aload_n 1 dX5_cell_0 rfl rfl rfl ?_
    refine xw_aload_n 2 dX5_cell_1 rfl rfl rfl ?_
    refine xw_iload_n 3 dX5_cell_2 rfl rfl ?_
    refine xw_iload_n 4 dX5_cell_3 rfl rfl ?_
    refine xw_pV 7 dX5_cell_4 rfl ok_M_isCell s_X5_111 (S_M_isCell (xA hA rfl) (xA hA rfl) I) (mH_len) (xA hA rfl) rfl rfl rfl rfl rfl rfl rfl ?_
    refine xw_if_eq 14 10 dX5_cell_7 rfl rfl (fun h7 => ?_) (fun h7 => absurd (w0) h7)
    refine xw_iconst 15 (nI 1) dX5_cell_14 rfl (xofI 1) ?_
    refine xw_put (hp' := (mH A z (nI s) hi (nI ln) tx (nI 1) ot oR oC wa pR pC pM ps rr ha nu fe kc hs T)) 18 dX5_cell_15 rfl f_X5_40 (xA hA rfl) ⟨rfl, rfl⟩ rfl rfl (xAs hA rfl) ?_
    refine xw_aload_n 19 dX5_cell_18 rfl rfl rfl ?_
    refine xw_get 22 dX5_cell_19 rfl f_X5_40 (xA hA rfl) rfl ?_
    refine xw_if_le 29 25 dX5_cell_22 rfl rfl (fun h22 => absurd h22 (by decide)) (fun h22 => ?_)
    refine xw_iconst 26 (nI 0) dX5_cell_25 rfl (xofI 0) ?_
    refine xw_goto 35 dX5_cell_26 rfl ?_
    exact xw_ireturn dX5_cell_35 rfl (⟨rfl, (ot, oR, oC, wa, pR, pC, pM, ps, rr, ha, nu, fe, kc, hs), rfl⟩)
theorem S_M_firstWrong (hA : A.length = 71) (I : xInv z) : xMet G M_firstWrong [.ref 71] (mH A z (nI s) hi (nI ln) tx th ot oR oC wa pR pC pM ps rr ha nu fe kc hs T) x 0 0 (xQm A T (0, xoI (xfnd (zwr z) 0 (zI z 6))) (z, hi, s, ln, tx)) := by
  refine xw_aload_n 1 dX5_firstWrong_0 rfl rfl rfl ?_
  refine xw_iconst 2 (nI 0) dX5_firstWrong_1 rfl (xofI 0) ?_
  refine xw_put (hp' := (mH A z (nI s) hi (nI ln) tx (nI 0) ot oR oC wa pR pC pM ps rr ha nu fe kc hs T)) 5 dX5_firstWrong_2 rfl f_X5_40 (xA hA rfl) ⟨rfl, rfl⟩ rfl rfl (xAs hA rfl) ?_
  refine xw_aload_n 6 dX5_firstWrong_5 rfl rfl rfl ?_
  refine xw_pV 9 dX5_firstWrong_6 rfl ok_M_wrongOne s_X5_219 (S_M_wrongOne (xA hA rfl) (xA hA rfl) I) (mH_len) (xA hA rfl) rfl rfl rfl rfl rfl rfl rfl ?_
  exact xw_ireturn dX5_firstWrong_9 rfl (⟨rfl, (ot, oR, oC, wa, pR, pC, pM, ps, rr, ha, nu, fe, kc, hs), rfl⟩)
theorem S_M_bestCrush (hA : A.length = 71) (I : xInv z) : xMet G M_bestCrush [.ref 71] (mH A z (nI s) hi (nI ln) tx th ot oR oC wa pR pC pM ps rr ha nu fe kc hs T) x 0 0 (xQm A T (0, nI (zkeep z (zI z 6))) (z, hi, s, ln, tx)) := by
  refine xw_aload_n 1 dX5_bestCrush_0 rfl rfl rfl ?_
  refine xw_iconst 2 (nI 0) dX5_bestCrush_1 rfl (xofI 0) ?_
  refine xw_put (hp' := (mH A z (nI s) hi (nI ln) tx (nI 0) ot oR oC wa pR pC pM ps rr ha nu fe kc hs T)) 5 dX5_bestCrush_2 rfl f_X5_40 (xA hA rfl) ⟨rfl, rfl⟩ rfl rfl (xAs hA rfl) ?_
  refine xw_aload_n 6 dX5_bestCrush_5 rfl rfl rfl ?_
  refine xw_pV 9 dX5_bestCrush_6 rfl ok_M_rightLeft s_X5_222 (S_M_rightLeft (xA hA rfl) (xA hA rfl) I) (mH_len) (xA hA rfl) rfl rfl rfl rfl rfl rfl rfl ?_
  exact xw_ireturn dX5_bestCrush_9 rfl (⟨rfl, (ot, oR, oC, wa, pR, pC, pM, ps, rr, ha, nu, fe, kc, hs), rfl⟩)
theorem S_M_wrongShare (hA : A.length = 71) (I : xInv z) : xMet G M_wrongShare [.ref 71] (mH A z (nI s) hi (nI ln) tx th ot oR oC wa pR pC pM ps rr ha nu fe kc hs T) x 0 0 (xRetV (.double (zshare z)) (mH A z (nI s) hi (nI ln) tx (nI 0) ot oR oC wa pR pC pM ps rr ha nu fe kc hs T)) := by
  refine xw_aload_n 1 dX5_wrongShare_0 rfl rfl rfl ?_
  refine xw_iconst 2 (nI 0) dX5_wrongShare_1 rfl (xofI 0) ?_
  refine xw_put (hp' := (mH A z (nI s) hi (nI ln) tx (nI 0) ot oR oC wa pR pC pM ps rr ha nu fe kc hs T)) 5 dX5_wrongShare_2 rfl f_X5_40 (xA hA rfl) ⟨rfl, rfl⟩ rfl rfl (xAs hA rfl) ?_
  refine xw_aload_n 6 dX5_wrongShare_5 rfl rfl rfl ?_
  refine xw_pV 9 dX5_wrongShare_6 rfl ok_M_share s_X5_234 (S_M_share (xA hA rfl) (xA hA rfl) I) (mH_len) (xA hA rfl) rfl rfl rfl rfl rfl rfl rfl ?_
  exact xw_dreturn dX5_wrongShare_9 rfl (⟨rfl, rfl⟩)
end P44

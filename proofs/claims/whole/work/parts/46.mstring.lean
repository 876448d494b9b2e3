/-! ===== the model: beads strung, strings joined ===== -/
theorem xmix_at {f g : Nat → Int32} {n k : Nat} (h : k < n) : xmix f g n k = f k := if_pos h
theorem xb01_1 {b : Bool} (h : b = true) : nI (xb01 b) = nI 1 := by rw [h]; rfl
theorem xb01_0 {b : Bool} (h : b = false) : nI (xb01 b) = nI 0 := by rw [h]; rfl
theorem xb01_t {b : Bool} (h : ¬ nI (xb01 b) = 0) : b = true := by
  cases b with
  | true => rfl
  | false => exact absurd rfl h
theorem xb01_f {b : Bool} (h : nI (xb01 b) = 0) : b = false := by
  cases b with
  | false => rfl
  | true => exact absurd h (by decide)
theorem xb01_01 (b : Bool) : nI (xb01 b) = 0 ∨ nI (xb01 b) = 1 := by cases b <;> decide
theorem zocc_s (fc : Nat → Nat) (m c : Nat) : zocc fc (m + 1) c = zocc fc m c + if fc m = c then 1 else 0 := by
  unfold zocc
  show xct _ m + _ = _
  by_cases h : fc m = c
  · rw [if_pos h, if_pos (decide_eq_true h)]
  · rw [if_neg h, if_neg (by simpa using h)]
theorem zocc_le (fc : Nat → Nat) (m c : Nat) : zocc fc m c ≤ m := xct_le _ m
section P46
variable {G : xG} {x : Nat} {A T : List xE} {z hi tx ot wa pR pC pM fe kc : Nat → Int32} {s ln : Nat} {th oR oC ps rr ha nu : Int32} {hs : Int64}
theorem S_M_wantNothing (hA : A.length = 71) : xMet G M_wantNothing [.ref 71] (mH A z (nI s) hi (nI ln) tx th ot oR oC wa pR pC pM ps rr ha nu fe kc hs T) x 0 0 (xRet none (mH A z (nI s) hi (nI ln) tx th ot oR oC (xmix (fun _ => nI 0) wa 6) pR pC pM ps rr ha nu fe kc hs T)) := by
  have loop : ∀ (t i : Nat), i + t = 6 → xW G M_wantNothing (xRet none (mH A z (nI s) hi (nI ln) tx th ot oR oC (xmix (fun _ => nI 0) wa 6) pR pC pM ps rr ha nu fe kc hs T)) 2 [(1, .int (nI i)), (0, .ref 71)] [] (mH A z (nI s) hi (nI ln) tx th ot oR oC (xmix (fun _ => nI 0) wa i) pR pC pM ps rr ha nu fe kc hs T) x 0 0 := by
    intro t
    induction t with
    | zero =>
      intro i hi9
      have e1 : i = 6 := by omega
      subst e1
      refine xw_iload_n 3 dX5_wantNothing_2 rfl rfl ?_
      refine xw_bipush 5 (nI 6) dX5_wantNothing_3 rfl (by decide) ?_
      refine xw_icmp_ge 21 8 dX5_wantNothing_5 rfl rfl (fun h5 => ?_) (fun h5 => absurd (nI_le (Nat.le_refl _) (by decide)) h5)
      exact xw_return dX5_wantNothing_21 rfl (⟨rfl, rfl⟩)
    | succ t ih =>
      intro i hi9
      refine xw_iload_n 3 dX5_wantNothing_2 rfl rfl ?_
      refine xw_bipush 5 (nI 6) dX5_wantNothing_3 rfl (by decide) ?_
      refine xw_icmp_ge 21 8 dX5_wantNothing_5 rfl rfl (fun h5 => absurd h5 (nI_ge (by omega) (by omega))) (fun h5 => ?_)
      refine xw_aload_n 9 dX5_wantNothing_8 rfl rfl rfl ?_
      refine xw_get 12 dX5_wantNothing_9 rfl f_X5_22 (xA hA rfl) rfl ?_
      refine xw_iload_n 13 dX5_wantNothing_12 rfl rfl ?_
      refine xw_iconst 14 (nI 0) dX5_wantNothing_13 rfl (xofI 0) ?_
      refine xw_iastore (j := i) (hp' := (mH A z (nI s) hi (nI ln) tx th ot oR oC (xmix (fun _ => nI 0) wa (i + 1)) pR pC pM ps rr ha nu fe kc hs T)) 15 dX5_wantNothing_14 rfl (xA hA rfl) (rfl) (by omega) (by omega) (by rw [← xmix_s (fun _ => nI 0)]; exact xAs hA rfl) ?_
      refine xw_iinc (ls' := [(1, _), (0, _)]) 18 _ dX5_wantNothing_15 rfl rfl (xnI_inc _) rfl rfl ?_
      refine xw_goto 2 dX5_wantNothing_18 rfl ?_
      exact xW.pick [0, 1] rfl (ih (i + 1) (by omega))
  refine xw_iconst 1 (nI 0) dX5_wantNothing_0 rfl (xofI 0) ?_
  refine xw_istore_n (ls' := [(1, _), (0, _)]) 2 dX5_wantNothing_1 rfl rfl rfl ?_
  have h9 := loop 6 0 (by omega)
  rw [xmix_0] at h9
  exact h9
theorem S_M_canString {m : Nat} {occ : Nat → Nat} (hA : A.length = 71) (I : xInv z) (hm : m ≤ 100000) (hw : ∀ c, c < 6 → wa c = nI (occ c)) : xMet G M_canString [.ref 71, .int (nI m)] (mH A z (nI s) hi (nI ln) tx th ot oR oC wa pR pC pM ps rr ha nu fe kc hs T) x 0 0 (xRetV (.int (nI (xb01 (zcan z occ m)))) (mH A z (nI s) hi (nI ln) tx th ot oR oC wa pR pC pM ps rr ha nu fe kc hs T)) := by
  have hA1 := I.iA.2.1
  have hA2 := I.iA.2.2
  have hS2 := I.iS.2.2
  have hR1 := I.iR.2.1
  have hR2 := I.iR.2.2
  have hC1 := I.iC.2.1
  have hC2 := I.iC.2.2
  have hM2 := I.iM.2.2
  have hK1 := I.iK.2.1
  have hK2 := I.iK.2.2
  have hl : zlen z (zI z 7 - 1) ≤ 240 := by
    have := (I.el (s := zI z 7 - 1) (by omega)).2
    unfold zlen
    omega
  have hH := I.iH.2.2
  have eH : nI m ≤ z 2 - nI (zlen z (zI z 7 - 1)) ↔ zlen z (zI z 7 - 1) + m ≤ zI z 2 := by
    rw [I.iH.1]
    exact le_sub_iff hm hl hH
  have eZ : zcan z occ m = ((decide (zI z 6 + m ≤ 240) && decide (nI m ≤ z 2 - nI (zlen z (zI z 7 - 1)))) && xall (fun c => decide (nI (occ c) ≤ z (9 + c))) 6) := by unfold zcan; rw [Bool.and_assoc]
  rw [eZ]
  have loop : ∀ (t i : Nat), i + t = 6 → xW G M_canString (xRetV (.int (nI (xb01 ((decide (zI z 6 + m ≤ 240) && decide (nI m ≤ z 2 - nI (zlen z (zI z 7 - 1)))) && xall (fun c => decide (nI (occ c) ≤ z (9 + c))) 6)))) (mH A z (nI s) hi (nI ln) tx th ot oR oC wa pR pC pM ps rr ha nu fe kc hs T)) 38 [(3, .int (nI i)), (2, .int (nI (xb01 ((decide (zI z 6 + m ≤ 240) && decide (nI m ≤ z 2 - nI (zlen z (zI z 7 - 1)))) && xall (fun c => decide (nI (occ c) ≤ z (9 + c))) i)))), (0, .ref 71), (1, .int (nI m))] [] (mH A z (nI s) hi (nI ln) tx th ot oR oC wa pR pC pM ps rr ha nu fe kc hs T) x 0 0 := by
    intro t
    induction t with
    | zero =>
      intro i hi9
      have e1 : i = 6 := by omega
      subst e1
      refine xw_iload_n 39 dX5_canString_38 rfl rfl ?_
      refine xw_bipush 41 (nI 6) dX5_canString_39 rfl (by decide) ?_
      refine xw_icmp_ge 78 44 dX5_canString_41 rfl rfl (fun h41 => ?_) (fun h41 => absurd (nI_le (Nat.le_refl _) (by decide)) h41)
      refine xw_iload_n 79 dX5_canString_78 rfl rfl ?_
      exact xw_zreturn dX5_canString_79 rfl (xb01_01 _) (⟨rfl, rfl⟩)
    | succ t ih =>
      intro i hi9
      have ih := ih (i + 1) (by omega)
      have e9 : ((decide (zI z 6 + m ≤ 240) && decide (nI m ≤ z 2 - nI (zlen z (zI z 7 - 1)))) && xall (fun c => decide (nI (occ c) ≤ z (9 + c))) (i + 1)) = (((decide (zI z 6 + m ≤ 240) && decide (nI m ≤ z 2 - nI (zlen z (zI z 7 - 1)))) && xall (fun c => decide (nI (occ c) ≤ z (9 + c))) i) && decide (nI (occ i) ≤ z (9 + i))) := by
        show ((decide (zI z 6 + m ≤ 240) && decide (nI m ≤ z 2 - nI (zlen z (zI z 7 - 1)))) && (xall (fun c => decide (nI (occ c) ≤ z (9 + c))) i && decide (nI (occ i) ≤ z (9 + i)))) = _
        rw [← Bool.and_assoc]
      rw [e9] at ih
      refine xw_iload_n 39 dX5_canString_38 rfl rfl ?_
      refine xw_bipush 41 (nI 6) dX5_canString_39 rfl (by decide) ?_
      refine xw_icmp_ge 78 44 dX5_canString_41 rfl rfl (fun h41 => absurd h41 (nI_ge (by omega) (by omega))) (fun h41 => ?_)
      refine xw_iload_n 45 dX5_canString_44 rfl rfl ?_
      refine xw_if_eq 70 48 dX5_canString_45 rfl rfl (fun h45 => ?_) (fun h45 => ?_)
      · refine xw_iconst 71 (nI 0) dX5_canString_70 rfl (xofI 0) ?_
        refine xw_istore_n (ls' := [(2, _), (3, _), (0, _), (1, _)]) 72 dX5_canString_71 rfl rfl rfl ?_
        refine xw_iinc (ls' := [(3, _), (2, _), (0, _), (1, _)]) 75 _ dX5_canString_72 rfl rfl (xnI_inc _) rfl rfl ?_
        refine xw_goto 38 dX5_canString_75 rfl ?_
        rw [xb01_f h45, Bool.false_and] at ih
        exact xW.pick [0, 1, 2, 3] rfl (ih)
      · refine xw_aload_n 49 dX5_canString_48 rfl rfl rfl ?_
        refine xw_get 52 dX5_canString_49 rfl f_X5_22 (xA hA rfl) rfl ?_
        refine xw_iload_n 53 dX5_canString_52 rfl rfl ?_
        refine xw_ialv (j := _) 54 dX5_canString_53 rfl (xA hA rfl) (rfl) (by omega) (by omega) (hw i (by omega)) ?_
        refine xw_aload_n 55 dX5_canString_54 rfl rfl rfl ?_
        refine xw_get 58 dX5_canString_55 rfl f_X5_7 (xA hA rfl) rfl ?_
        refine xw_bipush 60 (nI 9) dX5_canString_58 rfl (by decide) ?_
        refine xw_iload_n 61 dX5_canString_60 rfl rfl ?_
        refine xw_iadd 62 dX5_canString_61 rfl ?_
        refine xw_iaload (j := _) 63 dX5_canString_62 rfl (xA hA rfl) (nI_add _ _) (by omega) (by omega) ?_
        refine xw_icmp_gt 70 66 dX5_canString_63 rfl rfl (fun h63 => ?_) (fun h63 => ?_)
        · refine xw_iconst 71 (nI 0) dX5_canString_70 rfl (xofI 0) ?_
          refine xw_istore_n (ls' := [(2, _), (3, _), (0, _), (1, _)]) 72 dX5_canString_71 rfl rfl rfl ?_
          refine xw_iinc (ls' := [(3, _), (2, _), (0, _), (1, _)]) 75 _ dX5_canString_72 rfl rfl (xnI_inc _) rfl rfl ?_
          refine xw_goto 38 dX5_canString_75 rfl ?_
          rw [decide_eq_false (Int32.not_le.mpr h63), Bool.and_false] at ih
          exact xW.pick [0, 1, 2, 3] rfl (ih)
        · refine xw_iconst 67 (nI 1) dX5_canString_66 rfl (xofI 1) ?_
          refine xw_goto 71 dX5_canString_67 rfl ?_
          refine xw_istore_n (ls' := [(2, _), (3, _), (0, _), (1, _)]) 72 dX5_canString_71 rfl rfl rfl ?_
          refine xw_iinc (ls' := [(3, _), (2, _), (0, _), (1, _)]) 75 _ dX5_canString_72 rfl rfl (xnI_inc _) rfl rfl ?_
          refine xw_goto 38 dX5_canString_75 rfl ?_
          rw [xb01_t h45, decide_eq_true (Int32.not_lt.mp h63), Bool.true_and] at ih
          exact xW.pick [0, 1, 2, 3] rfl (ih)
  refine xw_aload_n 1 dX5_canString_0 rfl rfl rfl ?_
  refine xw_get 4 dX5_canString_1 rfl f_X5_7 (xA hA rfl) rfl ?_
  refine xw_bipush 6 (nI 6) dX5_canString_4 rfl (by decide) ?_
  refine xw_ialv (j := 6) 7 dX5_canString_6 rfl (xA hA rfl) (rfl) (by decide) (by decide) (I.iM.1) ?_
  refine xw_iload_n 8 dX5_canString_7 rfl rfl ?_
  refine xw_iadd 9 dX5_canString_8 rfl ?_
  rw [nI_add]
  refine xw_sipush 12 (nI 240) dX5_canString_9 rfl (by decide) ?_
  refine xw_icmp_gt 34 15 dX5_canString_12 rfl rfl (fun h12 => ?_) (fun h12 => ?_)
  · refine xw_iconst 35 (nI 0) dX5_canString_34 rfl (xofI 0) ?_
    refine xw_istore_n (ls' := [(2, _), (0, _), (1, _)]) 36 dX5_canString_35 rfl rfl rfl ?_
    refine xw_iconst 37 (nI 0) dX5_canString_36 rfl (xofI 0) ?_
    refine xw_istore_n (ls' := [(3, _), (2, _), (0, _), (1, _)]) 38 dX5_canString_37 rfl rfl rfl ?_
    rw [nI_ltI (by omega) (by omega)] at h12
    have h9 := loop 6 0 (by omega)
    rw [show ((decide (zI z 6 + m ≤ 240) && decide (nI m ≤ z 2 - nI (zlen z (zI z 7 - 1)))) && xall (fun c => decide (nI (occ c) ≤ z (9 + c))) 0) = false by rw [decide_eq_false (show ¬ zI z 6 + m ≤ 240 by omega)]; rfl] at h9
    exact h9
  · refine xw_aload_n 16 dX5_canString_15 rfl rfl rfl ?_
    refine xw_pV 19 dX5_canString_16 rfl ok_M_onLast s_X5_121 (S_M_onLast (xA hA rfl) (xA hA rfl) I) (mH_len) (xA hA rfl) rfl rfl rfl rfl rfl rfl rfl ?_
    refine xw_iload_n 20 dX5_canString_19 rfl rfl ?_
    refine xw_iadd 21 dX5_canString_20 rfl ?_
    rw [nI_add]
    refine xw_aload_n 22 dX5_canString_21 rfl rfl rfl ?_
    refine xw_get 25 dX5_canString_22 rfl f_X5_7 (xA hA rfl) rfl ?_
    refine xw_iconst 26 (nI 2) dX5_canString_25 rfl (xofI 2) ?_
    refine xw_ialv (j := 2) 27 dX5_canString_26 rfl (xA hA rfl) (rfl) (by decide) (by decide) (I.iH.1) ?_
    refine xw_icmp_gt 34 30 dX5_canString_27 rfl rfl (fun h27 => ?_) (fun h27 => ?_)
    · refine xw_iconst 35 (nI 0) dX5_canString_34 rfl (xofI 0) ?_
      refine xw_istore_n (ls' := [(2, _), (0, _), (1, _)]) 36 dX5_canString_35 rfl rfl rfl ?_
      refine xw_iconst 37 (nI 0) dX5_canString_36 rfl (xofI 0) ?_
      refine xw_istore_n (ls' := [(3, _), (2, _), (0, _), (1, _)]) 38 dX5_canString_37 rfl rfl rfl ?_
      rw [nI_ltI (by omega) (by omega)] at h27
      have h9 := loop 6 0 (by omega)
      rw [show ((decide (zI z 6 + m ≤ 240) && decide (nI m ≤ z 2 - nI (zlen z (zI z 7 - 1)))) && xall (fun c => decide (nI (occ c) ≤ z (9 + c))) 0) = false by rw [decide_eq_false (fun q => (show ¬ zlen z (zI z 7 - 1) + m ≤ zI z 2 by omega) (eH.mp q)), Bool.and_false]; rfl] at h9
      exact h9
    · refine xw_iconst 31 (nI 1) dX5_canString_30 rfl (xofI 1) ?_
      refine xw_goto 35 dX5_canString_31 rfl ?_
      refine xw_istore_n (ls' := [(2, _), (0, _), (1, _)]) 36 dX5_canString_35 rfl rfl rfl ?_
      refine xw_iconst 37 (nI 0) dX5_canString_36 rfl (xofI 0) ?_
      refine xw_istore_n (ls' := [(3, _), (2, _), (0, _), (1, _)]) 38 dX5_canString_37 rfl rfl rfl ?_
      rw [nI_ltI (by omega) (by omega)] at h12 h27
      have h9 := loop 6 0 (by omega)
      rw [show ((decide (zI z 6 + m ≤ 240) && decide (nI m ≤ z 2 - nI (zlen z (zI z 7 - 1)))) && xall (fun c => decide (nI (occ c) ≤ z (9 + c))) 0) = true by rw [decide_eq_true (show zI z 6 + m ≤ 240 by omega), decide_eq_true (eH.mpr (by omega))]; rfl] at h9
      exact h9
theorem S_M_strings {c n : Nat} (hA : A.length = 71) (h6 : z 6 = nI n) (hn : n < 240) (hc : c < 6) : xMet G M_strings [.ref 71, .int (nI c)] (mH A z (nI s) hi (nI ln) tx th ot oR oC wa pR pC pM ps rr ha nu fe kc hs T) x 0 0 (xRet none (mH A (mst z n c) (nI s) hi (nI ln) tx th ot oR oC wa pR pC pM ps rr ha nu fe kc hs T)) := by
  have e1 : (upd z (9 + c) (z (9 + c) - nI 1)) 6 = nI n := (upd_ne (by omega)).trans h6
  have e2 : (upd (upd z (9 + c) (z (9 + c) - nI 1)) (147 + n) (nI c)) 6 = nI n := (upd_ne (by omega)).trans e1
  refine xw_aload_n 1 dX5_strings_0 rfl rfl rfl ?_
  refine xw_get 4 dX5_strings_1 rfl f_X5_7 (xA hA rfl) rfl ?_
  refine xw_bipush 6 (nI 9) dX5_strings_4 rfl (by decide) ?_
  refine xw_iload_n 7 dX5_strings_6 rfl rfl ?_
  refine xw_iadd 8 dX5_strings_7 rfl ?_
  refine xw_dup2 9 dX5_strings_8 rfl rfl rfl ?_
  refine xw_iaload (j := _) 10 dX5_strings_9 rfl (xA hA rfl) (nI_add _ _) (by omega) (by omega) ?_
  refine xw_iconst 11 (nI 1) dX5_strings_10 rfl (xofI 1) ?_
  refine xw_isub 12 dX5_strings_11 rfl ?_
  refine xw_iastore (j := 9 + c) (hp' := (mH A (upd z (9 + c) (z (9 + c) - nI 1)) (nI s) hi (nI ln) tx th ot oR oC wa pR pC pM ps rr ha nu fe kc hs T)) 13 dX5_strings_12 rfl (xA hA rfl) (nI_add _ _) (by omega) (by omega) (xAs hA rfl) ?_
  refine xw_aload_n 14 dX5_strings_13 rfl rfl rfl ?_
  refine xw_get 17 dX5_strings_14 rfl f_X5_7 (xA hA rfl) rfl ?_
  refine xw_sipush 20 (nI 147) dX5_strings_17 rfl (by decide) ?_
  refine xw_aload_n 21 dX5_strings_20 rfl rfl rfl ?_
  refine xw_get 24 dX5_strings_21 rfl f_X5_7 (xA hA rfl) rfl ?_
  refine xw_bipush 26 (nI 6) dX5_strings_24 rfl (by decide) ?_
  refine xw_ialv (j := 6) 27 dX5_strings_26 rfl (xA hA rfl) (rfl) (by decide) (by decide) (e1) ?_
  refine xw_iadd 28 dX5_strings_27 rfl ?_
  refine xw_iload_n 29 dX5_strings_28 rfl rfl ?_
  refine xw_iastore (j := 147 + n) (hp' := (mH A (upd (upd z (9 + c) (z (9 + c) - nI 1)) (147 + n) (nI c)) (nI s) hi (nI ln) tx th ot oR oC wa pR pC pM ps rr ha nu fe kc hs T)) 30 dX5_strings_29 rfl (xA hA rfl) (nI_add _ _) (by omega) (by omega) (xAs hA rfl) ?_
  refine xw_aload_n 31 dX5_strings_30 rfl rfl rfl ?_
  refine xw_get 34 dX5_strings_31 rfl f_X5_7 (xA hA rfl) rfl ?_
  refine xw_bipush 36 (nI 6) dX5_strings_34 rfl (by decide) ?_
  refine xw_dup2 37 dX5_strings_36 rfl rfl rfl ?_
  refine xw_ialv (j := 6) 38 dX5_strings_37 rfl (xA hA rfl) (rfl) (by omega) (by omega) (e2) ?_
  refine xw_iconst 39 (nI 1) dX5_strings_38 rfl (xofI 1) ?_
  refine xw_iadd 40 dX5_strings_39 rfl ?_
  rw [nI_add]
  refine xw_iastore (j := 6) (hp' := (mH A (mst z n c) (nI s) hi (nI ln) tx th ot oR oC wa pR pC pM ps rr ha nu fe kc hs T)) 41 dX5_strings_40 rfl (xA hA rfl) (rfl) (by decide) (by decide) (xAs hA rfl) ?_
  exact xw_return dX5_strings_41 rfl (⟨rfl, rfl⟩)
def oFreM (m : xMS) (fc : Nat → Nat) (n ln : Nat) : (Nat × Int32) × xMS := if zcan m.1 (zocc fc n) n = true then ((0, nI (zI m.1 6 + n)), mSav m (ztake m.1 fc n) ln) else ((2, 0), m)
def oStrM (m : xMS) (p r : Int32) : (Nat × Int32) × xMS := if xlt p 6 then (if xin r 1 60 then oFreM m (fun _ => pN p) (pN r) m.2.2.2.1 else ((1, 0), m)) else ((1, 0), m)
def oNexM (m : xMS) (r : Int32) : (Nat × Int32) × xMS := if xin r 1 60 then oFreM m (znx m.1) (pN r) m.2.2.2.1 else ((1, 0), m)
def oJoiM (m : xMS) : (Nat × Int32) × xMS := if zlen m.1 (zI m.1 7 - 1) = 0 then ((1, 0), m) else if zI m.1 7 < 48 then ((0, nI (if zhid (zjoin m.1) (zI m.1 7) = true then 1 else 0)), mSav m (zjoin m.1) m.2.2.2.1) else ((1, 0), m)
theorem S_M_string {p r : Int32} (hA : A.length = 71) (I : xInv z) (hs6 : s ≤ 6) : xMet G M_string [.ref 71, .int p, .int r] (mH A z (nI s) hi (nI ln) tx th ot oR oC wa pR pC pM ps rr ha nu fe kc hs T) x 0 0 (xQm A T (oStrM (z, hi, s, ln, tx) p r).1 (oStrM (z, hi, s, ln, tx) p r).2) := by
  have hA1 := I.iA.2.1
  have hA2 := I.iA.2.2
  have hS2 := I.iS.2.2
  have hR1 := I.iR.2.1
  have hR2 := I.iR.2.2
  have hC1 := I.iC.2.1
  have hC2 := I.iC.2.2
  have hM2 := I.iM.2.2
  have hK1 := I.iK.2.1
  have hK2 := I.iK.2.2
  unfold oStrM
  dsimp only
  by_cases g0 : xlt p 6
  · have w0 : nI (if xlt p 6 then 1 else 0) = nI 1 := bIf g0
    rw [if_pos g0]
    obtain ⟨a, a1, rfl⟩ := xlt_y (by decide) g0
    rw [pN_k (by omega)]
    by_cases g1 : xin r 1 60
    · have w1 : nI (if xbt r (nI 1) (nI 60) then 1 else 0) = nI 1 := bIf g1
      rw [if_pos g1]
      obtain ⟨b, b1, b2, rfl⟩ := xin_y (by decide) (by decide) g1
      rw [pN_k (by omega)]
      have hw : ∀ c, c < 6 → (upd (xmix (fun _ => nI 0) wa 6) a (nI b)) c = nI (zocc (fun _ => a) b c) := by
        intro c hc
        have e : ∀ n, zocc (fun _ => a) n c = if a = c then n else 0 := by
          intro n
          induction n with
          | zero => rw [ite_self]; rfl
          | succ n ih =>
            rw [zocc_s, ih]
            by_cases h : a = c
            · rw [if_pos h, if_pos h, if_pos h]
            · rw [if_neg h, if_neg h, if_neg h]
        rw [e]
        by_cases h : a = c
        · rw [if_pos h, h, upd_at]
        · rw [if_neg h, upd_ne (fun q => h q.symm), xmix_at hc]
      unfold oFreM
      dsimp only
      by_cases g2 : zcan z (zocc (fun _ => a) b) b = true
      · rw [if_pos g2]
        have hle := zcan_le g2
        have loop : ∀ (t i : Nat), i + t = b → xW G M_string (xQm A T (0, nI (zI z 6 + b)) (mSav (z, hi, s, ln, tx) (ztake z (fun _ => a) b) ln)) 76 [(3, .int (nI i)), (0, .ref 71), (1, .int (nI a)), (2, .int (nI b))] [] (mH A (ztake z (fun _ => a) i) (nI (zrM s)) (mhis z hi s) (nI ln) tx (nI 0) ot oR oC (upd (xmix (fun _ => nI 0) wa 6) a (nI b)) pR pC pM ps rr ha nu fe kc hs T) x 0 0 := by
          intro t
          induction t with
          | zero =>
            intro i hi9
            have e : i = b := by omega
            subst e
            refine xw_iload_n 77 dX5_string_76 rfl rfl ?_
            refine xw_iload_n 78 dX5_string_77 rfl rfl ?_
            refine xw_icmp_ge 92 81 dX5_string_78 rfl rfl (fun h78 => ?_) (fun h78 => absurd (nI_le (Nat.le_refl _) (by omega)) h78)
            refine xw_aload_n 93 dX5_string_92 rfl rfl rfl ?_
            refine xw_get 96 dX5_string_93 rfl f_X5_7 (xA hA rfl) rfl ?_
            refine xw_bipush 98 (nI 6) dX5_string_96 rfl (by decide) ?_
            refine xw_ialv (j := 6) 99 dX5_string_98 rfl (xA hA rfl) (rfl) (by decide) (by decide) (ztake_6) ?_
            exact xw_ireturn dX5_string_99 rfl (⟨rfl, (ot, oR, oC, (upd (xmix (fun _ => nI 0) wa 6) a (nI i)), pR, pC, pM, ps, rr, ha, nu, fe, kc, hs), rfl⟩)
          | succ t ih =>
            intro i hi9
            have ih := ih (i + 1) (by omega)
            rw [← mst_take (w := z) (fc := (fun _ => a)) (i := i) a1 (by omega)] at ih
            refine xw_iload_n 77 dX5_string_76 rfl rfl ?_
            refine xw_iload_n 78 dX5_string_77 rfl rfl ?_
            refine xw_icmp_ge 92 81 dX5_string_78 rfl rfl (fun h78 => absurd h78 (nI_ge (by omega) (by omega))) (fun h78 => ?_)
            refine xw_aload_n 82 dX5_string_81 rfl rfl rfl ?_
            refine xw_iload_n 83 dX5_string_82 rfl rfl ?_
            refine xw_pVv 86 dX5_string_83 rfl ok_M_strings s_X5_131 (S_M_strings hA ztake_6 (by omega) a1) (mH_len) (xA hA rfl) rfl rfl rfl rfl rfl rfl rfl ?_
            refine xw_iinc (ls' := [(3, _), (0, _), (1, _), (2, _)]) 89 _ dX5_string_86 rfl rfl (xnI_inc _) rfl rfl ?_
            refine xw_goto 76 dX5_string_89 rfl ?_
            exact xW.pick [0, 1, 2, 3] rfl (ih)
        refine xw_aload_n 1 dX5_string_0 rfl rfl rfl ?_
        refine xw_iload_n 2 dX5_string_1 rfl rfl ?_
        refine xw_pS 5 dX5_string_2 rfl ok_M_isColour s_X5_108 (S_M_isColour) (mH_len) rfl rfl rfl rfl rfl rfl ?_
        refine xw_if_eq 18 8 dX5_string_5 rfl rfl (fun h5 => absurd h5 (by rw [w0]; decide)) (fun h5 => ?_)
        refine xw_iload_n 9 dX5_string_8 rfl rfl ?_
        refine xw_iconst 10 (nI 1) dX5_string_9 rfl (xofI 1) ?_
        refine xw_bipush 12 (nI 60) dX5_string_10 rfl (by decide) ?_
        refine xw_pS 15 dX5_string_12 rfl ok_M_within s_X5_47 (S_M_within) (mH_len) rfl rfl rfl rfl rfl rfl ?_
        refine xw_if_ne 22 18 dX5_string_15 rfl rfl (fun h15 => ?_) (fun h15 => absurd h15 (by rw [w1]; decide))
        refine xw_iconst 23 (nI 0) dX5_string_22 rfl (xofI 0) ?_
        refine xw_put (hp' := (mH A z (nI s) hi (nI ln) tx (nI 0) ot oR oC wa pR pC pM ps rr ha nu fe kc hs T)) 26 dX5_string_23 rfl f_X5_40 (xA hA rfl) ⟨rfl, rfl⟩ rfl rfl (xAs hA rfl) ?_
        refine xw_aload_n 27 dX5_string_26 rfl rfl rfl ?_
        refine xw_get 30 dX5_string_27 rfl f_X5_40 (xA hA rfl) rfl ?_
        refine xw_if_ne 61 33 dX5_string_30 rfl rfl (fun h30 => absurd (rfl) h30) (fun h30 => ?_)
        refine xw_aload_n 34 dX5_string_33 rfl rfl rfl ?_
        refine xw_pVv 37 dX5_string_34 rfl ok_M_wantNothing s_X5_125 (S_M_wantNothing hA) (mH_len) (xA hA rfl) rfl rfl rfl rfl rfl rfl rfl ?_
        refine xw_aload_n 38 dX5_string_37 rfl rfl rfl ?_
        refine xw_get 41 dX5_string_38 rfl f_X5_22 (xA hA rfl) rfl ?_
        refine xw_iload_n 42 dX5_string_41 rfl rfl ?_
        refine xw_iload_n 43 dX5_string_42 rfl rfl ?_
        refine xw_iastore (j := a) (hp' := (mH A z (nI s) hi (nI ln) tx (nI 0) ot oR oC (upd (xmix (fun _ => nI 0) wa 6) a (nI b)) pR pC pM ps rr ha nu fe kc hs T)) 44 dX5_string_43 rfl (xA hA rfl) (rfl) (by omega) (by omega) (xAs hA rfl) ?_
        refine xw_aload_n 45 dX5_string_44 rfl rfl rfl ?_
        refine xw_aload_n 46 dX5_string_45 rfl rfl rfl ?_
        refine xw_iload_n 47 dX5_string_46 rfl rfl ?_
        refine xw_pV 50 dX5_string_47 rfl ok_M_canString s_X5_128 (S_M_canString (occ := zocc (fun _ => a) b) hA I (by omega) hw) (mH_len) (xA hA rfl) rfl rfl rfl rfl rfl rfl rfl ?_
        refine xw_if_eq 57 53 dX5_string_50 rfl rfl (fun h50 => absurd h50 (by rw [g2]; decide)) (fun h50 => ?_)
        refine xw_iconst 54 (nI 0) dX5_string_53 rfl (xofI 0) ?_
        refine xw_goto 58 dX5_string_54 rfl ?_
        refine xw_put (hp' := (mH A z (nI s) hi (nI ln) tx (nI 0) ot oR oC (upd (xmix (fun _ => nI 0) wa 6) a (nI b)) pR pC pM ps rr ha nu fe kc hs T)) 61 dX5_string_58 rfl f_X5_40 (xA hA rfl) ⟨rfl, rfl⟩ rfl rfl (xAs hA rfl) ?_
        refine xw_aload_n 62 dX5_string_61 rfl rfl rfl ?_
        refine xw_get 65 dX5_string_62 rfl f_X5_40 (xA hA rfl) rfl ?_
        refine xw_if_le 70 68 dX5_string_65 rfl rfl (fun h65 => ?_) (fun h65 => absurd (by decide) h65)
        refine xw_aload_n 71 dX5_string_70 rfl rfl rfl ?_
        refine xw_pVv 74 dX5_string_71 rfl ok_M_save s_X5_95 (S_M_save hA hs6) (mH_len) (xA hA rfl) rfl rfl rfl rfl rfl rfl rfl ?_
        refine xw_iconst 75 (nI 0) dX5_string_74 rfl (xofI 0) ?_
        refine xw_istore_n (ls' := [(3, _), (0, _), (1, _), (2, _)]) 76 dX5_string_75 rfl rfl rfl ?_
        have h9 := loop b 0 (by omega)
        rw [ztake_0 I] at h9
        exact h9
      · rw [if_neg g2]
        refine xw_aload_n 1 dX5_string_0 rfl rfl rfl ?_
        refine xw_iload_n 2 dX5_string_1 rfl rfl ?_
        refine xw_pS 5 dX5_string_2 rfl ok_M_isColour s_X5_108 (S_M_isColour) (mH_len) rfl rfl rfl rfl rfl rfl ?_
        refine xw_if_eq 18 8 dX5_string_5 rfl rfl (fun h5 => absurd h5 (by rw [w0]; decide)) (fun h5 => ?_)
        refine xw_iload_n 9 dX5_string_8 rfl rfl ?_
        refine xw_iconst 10 (nI 1) dX5_string_9 rfl (xofI 1) ?_
        refine xw_bipush 12 (nI 60) dX5_string_10 rfl (by decide) ?_
        refine xw_pS 15 dX5_string_12 rfl ok_M_within s_X5_47 (S_M_within) (mH_len) rfl rfl rfl rfl rfl rfl ?_
        refine xw_if_ne 22 18 dX5_string_15 rfl rfl (fun h15 => ?_) (fun h15 => absurd h15 (by rw [w1]; decide))
        refine xw_iconst 23 (nI 0) dX5_string_22 rfl (xofI 0) ?_
        refine xw_put (hp' := (mH A z (nI s) hi (nI ln) tx (nI 0) ot oR oC wa pR pC pM ps rr ha nu fe kc hs T)) 26 dX5_string_23 rfl f_X5_40 (xA hA rfl) ⟨rfl, rfl⟩ rfl rfl (xAs hA rfl) ?_
        refine xw_aload_n 27 dX5_string_26 rfl rfl rfl ?_
        refine xw_get 30 dX5_string_27 rfl f_X5_40 (xA hA rfl) rfl ?_
        refine xw_if_ne 61 33 dX5_string_30 rfl rfl (fun h30 => absurd (rfl) h30) (fun h30 => ?_)
        refine xw_aload_n 34 dX5_string_33 rfl rfl rfl ?_
        refine xw_pVv 37 dX5_string_34 rfl ok_M_wantNothing s_X5_125 (S_M_wantNothing hA) (mH_len) (xA hA rfl) rfl rfl rfl rfl rfl rfl rfl ?_
        refine xw_aload_n 38 dX5_string_37 rfl rfl rfl ?_
        refine xw_get 41 dX5_string_38 rfl f_X5_22 (xA hA rfl) rfl ?_
        refine xw_iload_n 42 dX5_string_41 rfl rfl ?_
        refine xw_iload_n 43 dX5_string_42 rfl rfl ?_
        refine xw_iastore (j := a) (hp' := (mH A z (nI s) hi (nI ln) tx (nI 0) ot oR oC (upd (xmix (fun _ => nI 0) wa 6) a (nI b)) pR pC pM ps rr ha nu fe kc hs T)) 44 dX5_string_43 rfl (xA hA rfl) (rfl) (by omega) (by omega) (xAs hA rfl) ?_
        refine xw_aload_n 45 dX5_string_44 rfl rfl rfl ?_
        refine xw_aload_n 46 dX5_string_45 rfl rfl rfl ?_
        refine xw_iload_n 47 dX5_string_46 rfl rfl ?_
        refine xw_pV 50 dX5_string_47 rfl ok_M_canString s_X5_128 (S_M_canString (occ := zocc (fun _ => a) b) hA I (by omega) hw) (mH_len) (xA hA rfl) rfl rfl rfl rfl rfl rfl rfl ?_
        refine xw_if_eq 57 53 dX5_string_50 rfl rfl (fun h50 => ?_) (fun h50 => absurd (by rw [Bool.not_eq_true] at g2; rw [g2]; rfl) h50)
        refine xw_iconst 58 (nI 2) dX5_string_57 rfl (xofI 2) ?_
        refine xw_put (hp' := (mH A z (nI s) hi (nI ln) tx (nI 2) ot oR oC (upd (xmix (fun _ => nI 0) wa 6) a (nI b)) pR pC pM ps rr ha nu fe kc hs T)) 61 dX5_string_58 rfl f_X5_40 (xA hA rfl) ⟨rfl, rfl⟩ rfl rfl (xAs hA rfl) ?_
        refine xw_aload_n 62 dX5_string_61 rfl rfl rfl ?_
        refine xw_get 65 dX5_string_62 rfl f_X5_40 (xA hA rfl) rfl ?_
        refine xw_if_le 70 68 dX5_string_65 rfl rfl (fun h65 => absurd h65 (by decide)) (fun h65 => ?_)
        refine xw_iconst 69 (nI 0) dX5_string_68 rfl (xofI 0) ?_
        exact xw_ireturn dX5_string_69 rfl (⟨rfl, (ot, oR, oC, (upd (xmix (fun _ => nI 0) wa 6) a (nI b)), pR, pC, pM, ps, rr, ha, nu, fe, kc, hs), rfl⟩)
    · have w1 : nI (if xbt r (nI 1) (nI 60) then 1 else 0) = nI 0 := bIfn g1
      rw [if_neg g1]
      refine xw_aload_n 1 dX5_string_0 rfl rfl rfl ?_
      refine xw_iload_n 2 dX5_string_1 rfl rfl ?_
      refine xw_pS 5 dX5_string_2 rfl ok_M_isColour s_X5_108 (S_M_isColour) (mH_len) rfl rfl rfl rfl rfl rfl ?_
      refine xw_if_eq 18 8 dX5_string_5 rfl rfl (fun h5 => absurd h5 (by rw [w0]; decide)) (fun h5 => ?_)
      refine xw_iload_n 9 dX5_string_8 rfl rfl ?_
      refine xw_iconst 10 (nI 1) dX5_string_9 rfl (xofI 1) ?_
      refine xw_bipush 12 (nI 60) dX5_string_10 rfl (by decide) ?_
      refine xw_pS 15 dX5_string_12 rfl ok_M_within s_X5_47 (S_M_within) (mH_len) rfl rfl rfl rfl rfl rfl ?_
      refine xw_if_ne 22 18 dX5_string_15 rfl rfl (fun h15 => absurd (w1) h15) (fun h15 => ?_)
      refine xw_iconst 19 (nI 1) dX5_string_18 rfl (xofI 1) ?_
      refine xw_goto 23 dX5_string_19 rfl ?_
      refine xw_put (hp' := (mH A z (nI s) hi (nI ln) tx (nI 1) ot oR oC wa pR pC pM ps rr ha nu fe kc hs T)) 26 dX5_string_23 rfl f_X5_40 (xA hA rfl) ⟨rfl, rfl⟩ rfl rfl (xAs hA rfl) ?_
      refine xw_aload_n 27 dX5_string_26 rfl rfl rfl ?_
      refine xw_get 30 dX5_string_27 rfl f_X5_40 (xA hA rfl) rfl ?_
      refine xw_if_ne 61 33 dX5_string_30 rfl rfl (fun h30 => ?_) (fun h30 => absurd h30 (by decide))
      refine xw_aload_n 62 dX5_string_61 rfl rfl rfl ?_
      refine xw_get 65 dX5_string_62 rfl f_X5_40 (xA hA rfl) rfl ?_
      refine xw_if_le 70 68 dX5_string_65 rfl rfl (fun h65 => absurd h65 (by decide)) (fun h65 => ?_)
      refine xw_iconst 69 (nI 0) dX5_string_68 rfl (xofI 0) ?_
      exact xw_ireturn dX5_string_69 rfl (⟨rfl, (ot, oR, oC, wa, pR, pC, pM, ps, rr, ha, nu, fe, kc, hs), rfl⟩)
  · have w0 : nI (if xlt p 6 then 1 else 0) = nI 0 := bIfn g0
    rw [if_neg g0]
    refine xw_aload_n 1 dX5_string_0 rfl rfl rfl ?_
    refine xw_iload_n 2 dX5_string_1 rfl rfl ?_
    refine xw_pS 5 dX5_string_2 rfl ok_M_isColour s_X5_108 (S_M_isColour) (mH_len) rfl rfl rfl rfl rfl rfl ?_
    refine xw_if_eq 18 8 dX5_string_5 rfl rfl (fun h5 => ?_) (fun h5 => absurd (w0) h5)
    refine xw_iconst 19 (nI 1) dX5_string_18 rfl (xofI 1) ?_
    refine xw_goto 23 dX5_string_19 rfl ?_
    refine xw_put (hp' := (mH A z (nI s) hi (nI ln) tx (nI 1) ot oR oC wa pR pC pM ps rr ha nu fe kc hs T)) 26 dX5_string_23 rfl f_X5_40 (xA hA rfl) ⟨rfl, rfl⟩ rfl rfl (xAs hA rfl) ?_
    refine xw_aload_n 27 dX5_string_26 rfl rfl rfl ?_
    refine xw_get 30 dX5_string_27 rfl f_X5_40 (xA hA rfl) rfl ?_
    refine xw_if_ne 61 33 dX5_string_30 rfl rfl (fun h30 => ?_) (fun h30 => absurd h30 (by decide))
    refine xw_aload_n 62 dX5_string_61 rfl rfl rfl ?_
    refine xw_get 65 dX5_string_62 rfl f_X5_40 (xA hA rfl) rfl ?_
    refine xw_if_le 70 68 dX5_string_65 rfl rfl (fun h65 => absurd h65 (by decide)) (fun h65 => ?_)
    refine xw_iconst 69 (nI 0) dX5_string_68 rfl (xofI 0) ?_
    exact xw_ireturn dX5_string_69 rfl (⟨rfl, (ot, oR, oC, wa, pR, pC, pM, ps, rr, ha, nu, fe, kc, hs), rfl⟩)
theorem znx_is {z : Nat → Int32} (I : xInv z) (i : Nat) : pcol z (zI z 6 + i) = nI (znx z i) ∧ znx z i < 6 := by
  obtain ⟨c, h1, h2⟩ := I.pc (zI z 6 + i)
  unfold znx
  rw [h2, nI_clamp (by omega)]
  exact ⟨rfl, h1⟩
theorem S_M_stringNext {r : Int32} (hA : A.length = 71) (I : xInv z) (hs6 : s ≤ 6) : xMet G M_stringNext [.ref 71, .int r] (mH A z (nI s) hi (nI ln) tx th ot oR oC wa pR pC pM ps rr ha nu fe kc hs T) x 0 0 (xQm A T (oNexM (z, hi, s, ln, tx) r).1 (oNexM (z, hi, s, ln, tx) r).2) := by
  have hA1 := I.iA.2.1
  have hA2 := I.iA.2.2
  have hS2 := I.iS.2.2
  have hR1 := I.iR.2.1
  have hR2 := I.iR.2.2
  have hC1 := I.iC.2.1
  have hC2 := I.iC.2.2
  have hM2 := I.iM.2.2
  have hK1 := I.iK.2.1
  have hK2 := I.iK.2.2
  unfold oNexM
  dsimp only
  by_cases g1 : xin r 1 60
  · have w1 : nI (if xbt r (nI 1) (nI 60) then 1 else 0) = nI 1 := bIf g1
    rw [if_pos g1]
    obtain ⟨b, b1, b2, rfl⟩ := xin_y (by decide) (by decide) g1
    rw [pN_k (by omega)]
    have hpc := znx_is I
    have hw : ∀ c, c < 6 → (fun c => if c < 6 then nI (zocc (znx z) b c) else (xmix (fun _ => nI 0) wa 6) c) c = nI (zocc (znx z) b c) := fun c hc => if_pos hc
    have count : ∀ {Qx : xO → List xE → Prop}, xW G M_stringNext Qx 65 [(0, .ref 71), (1, .int (nI b))] [] (mH A z (nI s) hi (nI ln) tx (nI 0) ot oR oC (fun c => if c < 6 then nI (zocc (znx z) b c) else (xmix (fun _ => nI 0) wa 6) c) pR pC pM ps rr ha nu fe kc hs T) x 0 0 → ∀ (t i : Nat), i + t = b → xW G M_stringNext Qx 32 [(2, .int (nI i)), (0, .ref 71), (1, .int (nI b))] [] (mH A z (nI s) hi (nI ln) tx (nI 0) ot oR oC (fun c => if c < 6 then nI (zocc (znx z) i c) else (xmix (fun _ => nI 0) wa 6) c) pR pC pM ps rr ha nu fe kc hs T) x 0 0 := by
      intro Qx kk t
      induction t with
      | zero =>
        intro i hi9
        have e : i = b := by omega
        subst e
        refine xw_iload_n 33 dX5_stringNext_32 rfl rfl ?_
        refine xw_iload_n 34 dX5_stringNext_33 rfl rfl ?_
        refine xw_icmp_ge 65 37 dX5_stringNext_34 rfl rfl (fun h34 => ?_) (fun h34 => absurd (nI_le (Nat.le_refl _) (by omega)) h34)
        exact xW.pick [1, 2] rfl (kk)
      | succ t ih =>
        intro i hi9
        have ih := ih (i + 1) (by omega)
        obtain ⟨p1, p2⟩ := hpc i
        have e9 : upd (fun c => if c < 6 then nI (zocc (znx z) i c) else (xmix (fun _ => nI 0) wa 6) c) (znx z i) (nI (zocc (znx z) i (znx z i)) + nI 1) = (fun c => if c < 6 then nI (zocc (znx z) (i + 1) c) else (xmix (fun _ => nI 0) wa 6) c) := by
          funext c
          by_cases h : c = znx z i
          · subst h
            rw [upd_at, nI_add, if_pos p2, zocc_s, if_pos rfl]
          · rw [upd_ne h, zocc_s, if_neg (show ¬ znx z i = c from fun q => h q.symm)]
            rfl
        refine xw_iload_n 33 dX5_stringNext_32 rfl rfl ?_
        refine xw_iload_n 34 dX5_stringNext_33 rfl rfl ?_
        refine xw_icmp_ge 65 37 dX5_stringNext_34 rfl rfl (fun h34 => absurd h34 (nI_ge (by omega) (by omega))) (fun h34 => ?_)
        refine xw_aload_n 38 dX5_stringNext_37 rfl rfl rfl ?_
        refine xw_get 41 dX5_stringNext_38 rfl f_X5_22 (xA hA rfl) rfl ?_
        refine xw_aload_n 42 dX5_stringNext_41 rfl rfl rfl ?_
        refine xw_aload_n 43 dX5_stringNext_42 rfl rfl rfl ?_
        refine xw_get 46 dX5_stringNext_43 rfl f_X5_7 (xA hA rfl) rfl ?_
        refine xw_bipush 48 (nI 6) dX5_stringNext_46 rfl (by decide) ?_
        refine xw_ialv (j := 6) 49 dX5_stringNext_48 rfl (xA hA rfl) (rfl) (by decide) (by decide) (I.iM.1) ?_
        refine xw_iload_n 50 dX5_stringNext_49 rfl rfl ?_
        refine xw_iadd 51 dX5_stringNext_50 rfl ?_
        rw [nI_add]
        refine xw_pV 54 dX5_stringNext_51 rfl ok_M_colourOf s_X5_65 (S_M_colourOf (xA hA rfl) (xA hA rfl) I (by omega)) (mH_len) (xA hA rfl) rfl rfl rfl rfl rfl rfl rfl ?_
        rw [p1]
        refine xw_dup2 55 dX5_stringNext_54 rfl rfl rfl ?_
        refine xw_ialv (j := znx z i) 56 dX5_stringNext_55 rfl (xA hA rfl) (rfl) (by omega) (by omega) (if_pos p2) ?_
        refine xw_iconst 57 (nI 1) dX5_stringNext_56 rfl (xofI 1) ?_
        refine xw_iadd 58 dX5_stringNext_57 rfl ?_
        refine xw_iastore (j := znx z i) (hp' := (mH A z (nI s) hi (nI ln) tx (nI 0) ot oR oC (fun c => if c < 6 then nI (zocc (znx z) (i + 1) c) else (xmix (fun _ => nI 0) wa 6) c) pR pC pM ps rr ha nu fe kc hs T)) 59 dX5_stringNext_58 rfl (xA hA rfl) (rfl) (by omega) (by omega) (by rw [← e9]; exact xAs hA rfl) ?_
        refine xw_iinc (ls' := [(2, _), (0, _), (1, _)]) 62 _ dX5_stringNext_59 rfl rfl (xnI_inc _) rfl rfl ?_
        refine xw_goto 32 dX5_stringNext_62 rfl ?_
        exact xW.pick [0, 1, 2] rfl (ih)
    have e0 : (fun c => if c < 6 then nI (zocc (znx z) 0 c) else (xmix (fun _ => nI 0) wa 6) c) = (xmix (fun _ => nI 0) wa 6) := by
      funext c
      by_cases h : c < 6
      · rw [if_pos h, xmix_at h]; rfl
      · rw [if_neg h]
    unfold oFreM
    dsimp only
    by_cases g2 : zcan z (zocc (znx z) b) b = true
    · rw [if_pos g2]
      have hle := zcan_le g2
      have loop : ∀ (t i : Nat), i + t = b → xW G M_stringNext (xQm A T (0, nI (zI z 6 + b)) (mSav (z, hi, s, ln, tx) (ztake z (znx z) b) ln)) 97 [(2, .int (nI i)), (0, .ref 71), (1, .int (nI b))] [] (mH A (ztake z (znx z) i) (nI (zrM s)) (mhis z hi s) (nI ln) tx (nI 0) ot oR oC (fun c => if c < 6 then nI (zocc (znx z) b c) else (xmix (fun _ => nI 0) wa 6) c) pR pC pM ps rr ha nu fe kc hs T) x 0 0 := by
        intro t
        induction t with
        | zero =>
          intro i hi9
          have e : i = b := by omega
          subst e
          refine xw_iload_n 98 dX5_stringNext_97 rfl rfl ?_
          refine xw_iload_n 99 dX5_stringNext_98 rfl rfl ?_
          refine xw_icmp_ge 123 102 dX5_stringNext_99 rfl rfl (fun h99 => ?_) (fun h99 => absurd (nI_le (Nat.le_refl _) (by omega)) h99)
          refine xw_aload_n 124 dX5_stringNext_123 rfl rfl rfl ?_
          refine xw_get 127 dX5_stringNext_124 rfl f_X5_7 (xA hA rfl) rfl ?_
          refine xw_bipush 129 (nI 6) dX5_stringNext_127 rfl (by decide) ?_
          refine xw_ialv (j := 6) 130 dX5_stringNext_129 rfl (xA hA rfl) (rfl) (by decide) (by decide) (ztake_6) ?_
          exact xw_ireturn dX5_stringNext_130 rfl (⟨rfl, (ot, oR, oC, (fun c => if c < 6 then nI (zocc (znx z) i c) else (xmix (fun _ => nI 0) wa 6) c), pR, pC, pM, ps, rr, ha, nu, fe, kc, hs), rfl⟩)
        | succ t ih =>
          intro i hi9
          have ih := ih (i + 1) (by omega)
          have hfc : ∀ j, j < i → znx z j < 6 := fun j _ => (hpc j).2
          have Iy := ztake_inv (fc := znx z) (m := i) I (by omega) hfc
          rw [← mst_take (w := z) (fc := znx z) (i := i) (hpc i).2 (by omega)] at ih
          refine xw_iload_n 98 dX5_stringNext_97 rfl rfl ?_
          refine xw_iload_n 99 dX5_stringNext_98 rfl rfl ?_
          refine xw_icmp_ge 123 102 dX5_stringNext_99 rfl rfl (fun h99 => absurd h99 (nI_ge (by omega) (by omega))) (fun h99 => ?_)
          refine xw_aload_n 103 dX5_stringNext_102 rfl rfl rfl ?_
          refine xw_aload_n 104 dX5_stringNext_103 rfl rfl rfl ?_
          refine xw_aload_n 105 dX5_stringNext_104 rfl rfl rfl ?_
          refine xw_get 108 dX5_stringNext_105 rfl f_X5_7 (xA hA rfl) rfl ?_
          refine xw_bipush 110 (nI 6) dX5_stringNext_108 rfl (by decide) ?_
          refine xw_ialv (j := 6) 111 dX5_stringNext_110 rfl (xA hA rfl) (rfl) (by decide) (by decide) (ztake_6) ?_
          refine xw_pV 114 dX5_stringNext_111 rfl ok_M_colourOf s_X5_65 (S_M_colourOf (xA hA rfl) (xA hA rfl) Iy (by omega)) (mH_len) (xA hA rfl) rfl rfl rfl rfl rfl rfl rfl ?_
          rw [ztake_pc I hfc, (hpc i).1]
          refine xw_pVv 117 dX5_stringNext_114 rfl ok_M_strings s_X5_131 (S_M_strings hA ztake_6 (by omega) (hpc i).2) (mH_len) (xA hA rfl) rfl rfl rfl rfl rfl rfl rfl ?_
          refine xw_iinc (ls' := [(2, _), (0, _), (1, _)]) 120 _ dX5_stringNext_117 rfl rfl (xnI_inc _) rfl rfl ?_
          refine xw_goto 97 dX5_stringNext_120 rfl ?_
          exact xW.pick [0, 1, 2] rfl (ih)
      refine xw_aload_n 1 dX5_stringNext_0 rfl rfl rfl ?_
      refine xw_iload_n 2 dX5_stringNext_1 rfl rfl ?_
      refine xw_iconst 3 (nI 1) dX5_stringNext_2 rfl (xofI 1) ?_
      refine xw_bipush 5 (nI 60) dX5_stringNext_3 rfl (by decide) ?_
      refine xw_pS 8 dX5_stringNext_5 rfl ok_M_within s_X5_47 (S_M_within) (mH_len) rfl rfl rfl rfl rfl rfl ?_
      refine xw_if_eq 15 11 dX5_stringNext_8 rfl rfl (fun h8 => absurd h8 (by rw [w1]; decide)) (fun h8 => ?_)
      refine xw_iconst 12 (nI 0) dX5_stringNext_11 rfl (xofI 0) ?_
      refine xw_goto 16 dX5_stringNext_12 rfl ?_
      refine xw_put (hp' := (mH A z (nI s) hi (nI ln) tx (nI 0) ot oR oC wa pR pC pM ps rr ha nu fe kc hs T)) 19 dX5_stringNext_16 rfl f_X5_40 (xA hA rfl) ⟨rfl, rfl⟩ rfl rfl (xAs hA rfl) ?_
      refine xw_aload_n 20 dX5_stringNext_19 rfl rfl rfl ?_
      refine xw_get 23 dX5_stringNext_20 rfl f_X5_40 (xA hA rfl) rfl ?_
      refine xw_if_ne 82 26 dX5_stringNext_23 rfl rfl (fun h23 => absurd (rfl) h23) (fun h23 => ?_)
      refine xw_aload_n 27 dX5_stringNext_26 rfl rfl rfl ?_
      refine xw_pVv 30 dX5_stringNext_27 rfl ok_M_wantNothing s_X5_125 (S_M_wantNothing hA) (mH_len) (xA hA rfl) rfl rfl rfl rfl rfl rfl rfl ?_
      refine xw_iconst 31 (nI 0) dX5_stringNext_30 rfl (xofI 0) ?_
      refine xw_istore_n (ls' := [(2, _), (0, _), (1, _)]) 32 dX5_stringNext_31 rfl rfl rfl ?_
      refine xW.pick [0, 1, 2] rfl ?_
      have h9 := count (Qx := (xQm A T (0, nI (zI z 6 + b)) (mSav (z, hi, s, ln, tx) (ztake z (znx z) b) ln))) ?_ b 0 (by omega)
      · rw [e0] at h9
        exact h9
      · skip
        refine xw_aload_n 66 dX5_stringNext_65 rfl rfl rfl ?_
        refine xw_aload_n 67 dX5_stringNext_66 rfl rfl rfl ?_
        refine xw_iload_n 68 dX5_stringNext_67 rfl rfl ?_
        refine xw_pV 71 dX5_stringNext_68 rfl ok_M_canString s_X5_128 (S_M_canString (occ := zocc (znx z) b) hA I (by omega) hw) (mH_len) (xA hA rfl) rfl rfl rfl rfl rfl rfl rfl ?_
        refine xw_if_eq 78 74 dX5_stringNext_71 rfl rfl (fun h71 => absurd h71 (by rw [g2]; decide)) (fun h71 => ?_)
        refine xw_iconst 75 (nI 0) dX5_stringNext_74 rfl (xofI 0) ?_
        refine xw_goto 79 dX5_stringNext_75 rfl ?_
        refine xw_put (hp' := (mH A z (nI s) hi (nI ln) tx (nI 0) ot oR oC (fun c => if c < 6 then nI (zocc (znx z) b c) else (xmix (fun _ => nI 0) wa 6) c) pR pC pM ps rr ha nu fe kc hs T)) 82 dX5_stringNext_79 rfl f_X5_40 (xA hA rfl) ⟨rfl, rfl⟩ rfl rfl (xAs hA rfl) ?_
        refine xw_aload_n 83 dX5_stringNext_82 rfl rfl rfl ?_
        refine xw_get 86 dX5_stringNext_83 rfl f_X5_40 (xA hA rfl) rfl ?_
        refine xw_if_le 91 89 dX5_stringNext_86 rfl rfl (fun h86 => ?_) (fun h86 => absurd (by decide) h86)
        refine xw_aload_n 92 dX5_stringNext_91 rfl rfl rfl ?_
        refine xw_pVv 95 dX5_stringNext_92 rfl ok_M_save s_X5_95 (S_M_save hA hs6) (mH_len) (xA hA rfl) rfl rfl rfl rfl rfl rfl rfl ?_
        refine xw_iconst 96 (nI 0) dX5_stringNext_95 rfl (xofI 0) ?_
        refine xw_istore_n (ls' := [(2, _), (0, _), (1, _)]) 97 dX5_stringNext_96 rfl rfl rfl ?_
        have h9 := loop b 0 (by omega)
        rw [ztake_0 I] at h9
        exact h9
    · rw [if_neg g2]
      refine xw_aload_n 1 dX5_stringNext_0 rfl rfl rfl ?_
      refine xw_iload_n 2 dX5_stringNext_1 rfl rfl ?_
      refine xw_iconst 3 (nI 1) dX5_stringNext_2 rfl (xofI 1) ?_
      refine xw_bipush 5 (nI 60) dX5_stringNext_3 rfl (by decide) ?_
      refine xw_pS 8 dX5_stringNext_5 rfl ok_M_within s_X5_47 (S_M_within) (mH_len) rfl rfl rfl rfl rfl rfl ?_
      refine xw_if_eq 15 11 dX5_stringNext_8 rfl rfl (fun h8 => absurd h8 (by rw [w1]; decide)) (fun h8 => ?_)
      refine xw_iconst 12 (nI 0) dX5_stringNext_11 rfl (xofI 0) ?_
      refine xw_goto 16 dX5_stringNext_12 rfl ?_
      refine xw_put (hp' := (mH A z (nI s) hi (nI ln) tx (nI 0) ot oR oC wa pR pC pM ps rr ha nu fe kc hs T)) 19 dX5_stringNext_16 rfl f_X5_40 (xA hA rfl) ⟨rfl, rfl⟩ rfl rfl (xAs hA rfl) ?_
      refine xw_aload_n 20 dX5_stringNext_19 rfl rfl rfl ?_
      refine xw_get 23 dX5_stringNext_20 rfl f_X5_40 (xA hA rfl) rfl ?_
      refine xw_if_ne 82 26 dX5_stringNext_23 rfl rfl (fun h23 => absurd (rfl) h23) (fun h23 => ?_)
      refine xw_aload_n 27 dX5_stringNext_26 rfl rfl rfl ?_
      refine xw_pVv 30 dX5_stringNext_27 rfl ok_M_wantNothing s_X5_125 (S_M_wantNothing hA) (mH_len) (xA hA rfl) rfl rfl rfl rfl rfl rfl rfl ?_
      refine xw_iconst 31 (nI 0) dX5_stringNext_30 rfl (xofI 0) ?_
      refine xw_istore_n (ls' := [(2, _), (0, _), (1, _)]) 32 dX5_stringNext_31 rfl rfl rfl ?_
      refine xW.pick [0, 1, 2] rfl ?_
      have h9 := count (Qx := (xQm A T (2, 0) (z, hi, s, ln, tx))) ?_ b 0 (by omega)
      · rw [e0] at h9
        exact h9
      · skip
        refine xw_aload_n 66 dX5_stringNext_65 rfl rfl rfl ?_
        refine xw_aload_n 67 dX5_stringNext_66 rfl rfl rfl ?_
        refine xw_iload_n 68 dX5_stringNext_67 rfl rfl ?_
        refine xw_pV 71 dX5_stringNext_68 rfl ok_M_canString s_X5_128 (S_M_canString (occ := zocc (znx z) b) hA I (by omega) hw) (mH_len) (xA hA rfl) rfl rfl rfl rfl rfl rfl rfl ?_
        refine xw_if_eq 78 74 dX5_stringNext_71 rfl rfl (fun h71 => ?_) (fun h71 => absurd (by rw [Bool.not_eq_true] at g2; rw [g2]; rfl) h71)
        refine xw_iconst 79 (nI 2) dX5_stringNext_78 rfl (xofI 2) ?_
        refine xw_put (hp' := (mH A z (nI s) hi (nI ln) tx (nI 2) ot oR oC (fun c => if c < 6 then nI (zocc (znx z) b c) else (xmix (fun _ => nI 0) wa 6) c) pR pC pM ps rr ha nu fe kc hs T)) 82 dX5_stringNext_79 rfl f_X5_40 (xA hA rfl) ⟨rfl, rfl⟩ rfl rfl (xAs hA rfl) ?_
        refine xw_aload_n 83 dX5_stringNext_82 rfl rfl rfl ?_
        refine xw_get 86 dX5_stringNext_83 rfl f_X5_40 (xA hA rfl) rfl ?_
        refine xw_if_le 91 89 dX5_stringNext_86 rfl rfl (fun h86 => absurd h86 (by decide)) (fun h86 => ?_)
        refine xw_iconst 90 (nI 0) dX5_stringNext_89 rfl (xofI 0) ?_
        exact xw_ireturn dX5_stringNext_90 rfl (⟨rfl, (ot, oR, oC, (fun c => if c < 6 then nI (zocc (znx z) b c) else (xmix (fun _ => nI 0) wa 6) c), pR, pC, pM, ps, rr, ha, nu, fe, kc, hs), rfl⟩)
  · have w1 : nI (if xbt r (nI 1) (nI 60) then 1 else 0) = nI 0 := bIfn g1
    rw [if_neg g1]
    refine xw_aload_n 1 dX5_stringNext_0 rfl rfl rfl ?_
    refine xw_iload_n 2 dX5_stringNext_1 rfl rfl ?_
    refine xw_iconst 3 (nI 1) dX5_stringNext_2 rfl (xofI 1) ?_
    refine xw_bipush 5 (nI 60) dX5_stringNext_3 rfl (by decide) ?_
    refine xw_pS 8 dX5_stringNext_5 rfl ok_M_within s_X5_47 (S_M_within) (mH_len) rfl rfl rfl rfl rfl rfl ?_
    refine xw_if_eq 15 11 dX5_stringNext_8 rfl rfl (fun h8 => ?_) (fun h8 => absurd (w1) h8)
    refine xw_iconst 16 (nI 1) dX5_stringNext_15 rfl (xofI 1) ?_
    refine xw_put (hp' := (mH A z (nI s) hi (nI ln) tx (nI 1) ot oR oC wa pR pC pM ps rr ha nu fe kc hs T)) 19 dX5_stringNext_16 rfl f_X5_40 (xA hA rfl) ⟨rfl, rfl⟩ rfl rfl (xAs hA rfl) ?_
    refine xw_aload_n 20 dX5_stringNext_19 rfl rfl rfl ?_
    refine xw_get 23 dX5_stringNext_20 rfl f_X5_40 (xA hA rfl) rfl ?_
    refine xw_if_ne 82 26 dX5_stringNext_23 rfl rfl (fun h23 => ?_) (fun h23 => absurd h23 (by decide))
    refine xw_aload_n 83 dX5_stringNext_82 rfl rfl rfl ?_
    refine xw_get 86 dX5_stringNext_83 rfl f_X5_40 (xA hA rfl) rfl ?_
    refine xw_if_le 91 89 dX5_stringNext_86 rfl rfl (fun h86 => absurd h86 (by decide)) (fun h86 => ?_)
    refine xw_iconst 90 (nI 0) dX5_stringNext_89 rfl (xofI 0) ?_
    exact xw_ireturn dX5_stringNext_90 rfl (⟨rfl, (ot, oR, oC, wa, pR, pC, pM, ps, rr, ha, nu, fe, kc, hs), rfl⟩)
theorem S_M_join (hA : A.length = 71) (I : xInv z) (hs6 : s ≤ 6) : xMet G M_join [.ref 71] (mH A z (nI s) hi (nI ln) tx th ot oR oC wa pR pC pM ps rr ha nu fe kc hs T) x 0 0 (xQm A T (oJoiM (z, hi, s, ln, tx)).1 (oJoiM (z, hi, s, ln, tx)).2) := by
  have hA1 := I.iA.2.1
  have hA2 := I.iA.2.2
  have hS2 := I.iS.2.2
  have hR1 := I.iR.2.1
  have hR2 := I.iR.2.2
  have hC1 := I.iC.2.1
  have hC2 := I.iC.2.2
  have hM2 := I.iM.2.2
  have hK1 := I.iK.2.1
  have hK2 := I.iK.2.2
  have hle : zlen z (zI z 7 - 1) ≤ 240 := by
    have := (I.el (s := zI z 7 - 1) (by omega)).2
    unfold zlen
    omega
  unfold oJoiM
  dsimp only
  by_cases g0 : zlen z (zI z 7 - 1) = 0
  · rw [if_pos g0]
    refine xw_aload_n 1 dX5_join_0 rfl rfl rfl ?_
    refine xw_aload_n 2 dX5_join_1 rfl rfl rfl ?_
    refine xw_pV 5 dX5_join_2 rfl ok_M_onLast s_X5_121 (S_M_onLast (xA hA rfl) (xA hA rfl) I) (mH_len) (xA hA rfl) rfl rfl rfl rfl rfl rfl rfl ?_
    refine xw_if_eq 20 8 dX5_join_5 rfl rfl (fun h5 => ?_) (fun h5 => absurd (by rw [g0]; rfl) h5)
    refine xw_iconst 21 (nI 1) dX5_join_20 rfl (xofI 1) ?_
    refine xw_goto 25 dX5_join_21 rfl ?_
    refine xw_put (hp' := (mH A z (nI s) hi (nI ln) tx (nI 1) ot oR oC wa pR pC pM ps rr ha nu fe kc hs T)) 28 dX5_join_25 rfl f_X5_40 (xA hA rfl) ⟨rfl, rfl⟩ rfl rfl (xAs hA rfl) ?_
    refine xw_aload_n 29 dX5_join_28 rfl rfl rfl ?_
    refine xw_get 32 dX5_join_29 rfl f_X5_40 (xA hA rfl) rfl ?_
    refine xw_if_le 37 35 dX5_join_32 rfl rfl (fun h32 => absurd h32 (by decide)) (fun h32 => ?_)
    refine xw_iconst 36 (nI 0) dX5_join_35 rfl (xofI 0) ?_
    exact xw_ireturn dX5_join_36 rfl (⟨rfl, (ot, oR, oC, wa, pR, pC, pM, ps, rr, ha, nu, fe, kc, hs), rfl⟩)
  · rw [if_neg g0]
    by_cases g1 : zI z 7 < 48
    · rw [if_pos g1]
      have J := zjoin_inv I g1
      have e1 : (upd z (387 + zI z 7) (z 6)) 7 = nI (zI z 7) := (upd_ne (by omega)).trans I.iK.1
      have e6 : zjoin z 6 = nI (zI z 6) := by
        unfold zjoin
        rw [upd_ne (by decide), upd_ne (by omega)]
        exact I.iM.1
      have ek : zjoin z (387 + zI z 7) = nI (zI z 6) := by
        unfold zjoin
        rw [upd_ne (by omega), upd_at]
        exact I.iM.1
      have hhd : zhd (zjoin z) (zI z 6) = zhid (zjoin z) (zI z 7) := by
        unfold zhd zhid
        rw [zI_k ek (by omega)]
      by_cases g2 : zhid (zjoin z) (zI z 7) = true
      · rw [if_pos g2]
        refine xw_aload_n 1 dX5_join_0 rfl rfl rfl ?_
        refine xw_aload_n 2 dX5_join_1 rfl rfl rfl ?_
        refine xw_pV 5 dX5_join_2 rfl ok_M_onLast s_X5_121 (S_M_onLast (xA hA rfl) (xA hA rfl) I) (mH_len) (xA hA rfl) rfl rfl rfl rfl rfl rfl rfl ?_
        refine xw_if_eq 20 8 dX5_join_5 rfl rfl (fun h5 => absurd h5 (nI_ne0 (by omega) (by omega))) (fun h5 => ?_)
        refine xw_aload_n 9 dX5_join_8 rfl rfl rfl ?_
        refine xw_get 12 dX5_join_9 rfl f_X5_7 (xA hA rfl) rfl ?_
        refine xw_bipush 14 (nI 7) dX5_join_12 rfl (by decide) ?_
        refine xw_ialv (j := 7) 15 dX5_join_14 rfl (xA hA rfl) (rfl) (by decide) (by decide) (I.iK.1) ?_
        refine xw_bipush 17 (nI 48) dX5_join_15 rfl (by decide) ?_
        refine xw_icmp_ne 24 20 dX5_join_17 rfl rfl (fun h17 => ?_) (fun h17 => absurd h17 (fun q => by rw [nI_eq (by omega) (by decide)] at q; omega))
        refine xw_iconst 25 (nI 0) dX5_join_24 rfl (xofI 0) ?_
        refine xw_put (hp' := (mH A z (nI s) hi (nI ln) tx (nI 0) ot oR oC wa pR pC pM ps rr ha nu fe kc hs T)) 28 dX5_join_25 rfl f_X5_40 (xA hA rfl) ⟨rfl, rfl⟩ rfl rfl (xAs hA rfl) ?_
        refine xw_aload_n 29 dX5_join_28 rfl rfl rfl ?_
        refine xw_get 32 dX5_join_29 rfl f_X5_40 (xA hA rfl) rfl ?_
        refine xw_if_le 37 35 dX5_join_32 rfl rfl (fun h32 => ?_) (fun h32 => absurd (by decide) h32)
        refine xw_aload_n 38 dX5_join_37 rfl rfl rfl ?_
        refine xw_pVv 41 dX5_join_38 rfl ok_M_save s_X5_95 (S_M_save hA hs6) (mH_len) (xA hA rfl) rfl rfl rfl rfl rfl rfl rfl ?_
        refine xw_aload_n 42 dX5_join_41 rfl rfl rfl ?_
        refine xw_get 45 dX5_join_42 rfl f_X5_7 (xA hA rfl) rfl ?_
        refine xw_sipush 48 (nI 387) dX5_join_45 rfl (by decide) ?_
        refine xw_aload_n 49 dX5_join_48 rfl rfl rfl ?_
        refine xw_get 52 dX5_join_49 rfl f_X5_7 (xA hA rfl) rfl ?_
        refine xw_bipush 54 (nI 7) dX5_join_52 rfl (by decide) ?_
        refine xw_ialv (j := 7) 55 dX5_join_54 rfl (xA hA rfl) (rfl) (by decide) (by decide) (I.iK.1) ?_
        refine xw_iadd 56 dX5_join_55 rfl ?_
        refine xw_aload_n 57 dX5_join_56 rfl rfl rfl ?_
        refine xw_get 60 dX5_join_57 rfl f_X5_7 (xA hA rfl) rfl ?_
        refine xw_bipush 62 (nI 6) dX5_join_60 rfl (by decide) ?_
        refine xw_ialv (j := 6) 63 dX5_join_62 rfl (xA hA rfl) (rfl) (by decide) (by decide) (rfl) ?_
        refine xw_iastore (j := 387 + zI z 7) (hp' := (mH A (upd z (387 + zI z 7) (z 6)) (nI (zrM s)) (mhis z hi s) (nI ln) tx (nI 0) ot oR oC wa pR pC pM ps rr ha nu fe kc hs T)) 64 dX5_join_63 rfl (xA hA rfl) (nI_add _ _) (by omega) (by omega) (xAs hA rfl) ?_
        refine xw_aload_n 65 dX5_join_64 rfl rfl rfl ?_
        refine xw_get 68 dX5_join_65 rfl f_X5_7 (xA hA rfl) rfl ?_
        refine xw_bipush 70 (nI 7) dX5_join_68 rfl (by decide) ?_
        refine xw_dup2 71 dX5_join_70 rfl rfl rfl ?_
        refine xw_ialv (j := 7) 72 dX5_join_71 rfl (xA hA rfl) (rfl) (by omega) (by omega) (e1) ?_
        refine xw_iconst 73 (nI 1) dX5_join_72 rfl (xofI 1) ?_
        refine xw_iadd 74 dX5_join_73 rfl ?_
        rw [nI_add]
        refine xw_iastore (j := 7) (hp' := (mH A (zjoin z) (nI (zrM s)) (mhis z hi s) (nI ln) tx (nI 0) ot oR oC wa pR pC pM ps rr ha nu fe kc hs T)) 75 dX5_join_74 rfl (xA hA rfl) (rfl) (by decide) (by decide) (xAs hA rfl) ?_
        refine xw_aload_n 76 dX5_join_75 rfl rfl rfl ?_
        refine xw_aload_n 77 dX5_join_76 rfl rfl rfl ?_
        refine xw_get 80 dX5_join_77 rfl f_X5_7 (xA hA rfl) rfl ?_
        refine xw_bipush 82 (nI 6) dX5_join_80 rfl (by decide) ?_
        refine xw_ialv (j := 6) 83 dX5_join_82 rfl (xA hA rfl) (rfl) (by decide) (by decide) (e6) ?_
        refine xw_pV 86 dX5_join_83 rfl ok_M_hides s_X5_137 (S_M_hides (xA hA rfl) (xA hA rfl) J (by omega)) (mH_len) (xA hA rfl) rfl rfl rfl rfl rfl rfl rfl ?_
        rw [hhd]
        refine xw_if_eq 93 89 dX5_join_86 rfl rfl (fun h86 => absurd h86 (by rw [if_pos g2]; decide)) (fun h86 => ?_)
        refine xw_iconst 90 (nI 1) dX5_join_89 rfl (xofI 1) ?_
        refine xw_goto 94 dX5_join_90 rfl ?_
        exact xw_ireturn dX5_join_94 rfl (⟨rfl, (ot, oR, oC, wa, pR, pC, pM, ps, rr, ha, nu, fe, kc, hs), rfl⟩)
      · rw [if_neg g2]
        refine xw_aload_n 1 dX5_join_0 rfl rfl rfl ?_
        refine xw_aload_n 2 dX5_join_1 rfl rfl rfl ?_
        refine xw_pV 5 dX5_join_2 rfl ok_M_onLast s_X5_121 (S_M_onLast (xA hA rfl) (xA hA rfl) I) (mH_len) (xA hA rfl) rfl rfl rfl rfl rfl rfl rfl ?_
        refine xw_if_eq 20 8 dX5_join_5 rfl rfl (fun h5 => absurd h5 (nI_ne0 (by omega) (by omega))) (fun h5 => ?_)
        refine xw_aload_n 9 dX5_join_8 rfl rfl rfl ?_
        refine xw_get 12 dX5_join_9 rfl f_X5_7 (xA hA rfl) rfl ?_
        refine xw_bipush 14 (nI 7) dX5_join_12 rfl (by decide) ?_
        refine xw_ialv (j := 7) 15 dX5_join_14 rfl (xA hA rfl) (rfl) (by decide) (by decide) (I.iK.1) ?_
        refine xw_bipush 17 (nI 48) dX5_join_15 rfl (by decide) ?_
        refine xw_icmp_ne 24 20 dX5_join_17 rfl rfl (fun h17 => ?_) (fun h17 => absurd h17 (fun q => by rw [nI_eq (by omega) (by decide)] at q; omega))
        refine xw_iconst 25 (nI 0) dX5_join_24 rfl (xofI 0) ?_
        refine xw_put (hp' := (mH A z (nI s) hi (nI ln) tx (nI 0) ot oR oC wa pR pC pM ps rr ha nu fe kc hs T)) 28 dX5_join_25 rfl f_X5_40 (xA hA rfl) ⟨rfl, rfl⟩ rfl rfl (xAs hA rfl) ?_
        refine xw_aload_n 29 dX5_join_28 rfl rfl rfl ?_
        refine xw_get 32 dX5_join_29 rfl f_X5_40 (xA hA rfl) rfl ?_
        refine xw_if_le 37 35 dX5_join_32 rfl rfl (fun h32 => ?_) (fun h32 => absurd (by decide) h32)
        refine xw_aload_n 38 dX5_join_37 rfl rfl rfl ?_
        refine xw_pVv 41 dX5_join_38 rfl ok_M_save s_X5_95 (S_M_save hA hs6) (mH_len) (xA hA rfl) rfl rfl rfl rfl rfl rfl rfl ?_
        refine xw_aload_n 42 dX5_join_41 rfl rfl rfl ?_
        refine xw_get 45 dX5_join_42 rfl f_X5_7 (xA hA rfl) rfl ?_
        refine xw_sipush 48 (nI 387) dX5_join_45 rfl (by decide) ?_
        refine xw_aload_n 49 dX5_join_48 rfl rfl rfl ?_
        refine xw_get 52 dX5_join_49 rfl f_X5_7 (xA hA rfl) rfl ?_
        refine xw_bipush 54 (nI 7) dX5_join_52 rfl (by decide) ?_
        refine xw_ialv (j := 7) 55 dX5_join_54 rfl (xA hA rfl) (rfl) (by decide) (by decide) (I.iK.1) ?_
        refine xw_iadd 56 dX5_join_55 rfl ?_
        refine xw_aload_n 57 dX5_join_56 rfl rfl rfl ?_
        refine xw_get 60 dX5_join_57 rfl f_X5_7 (xA hA rfl) rfl ?_
        refine xw_bipush 62 (nI 6) dX5_join_60 rfl (by decide) ?_
        refine xw_ialv (j := 6) 63 dX5_join_62 rfl (xA hA rfl) (rfl) (by decide) (by decide) (rfl) ?_
        refine xw_iastore (j := 387 + zI z 7) (hp' := (mH A (upd z (387 + zI z 7) (z 6)) (nI (zrM s)) (mhis z hi s) (nI ln) tx (nI 0) ot oR oC wa pR pC pM ps rr ha nu fe kc hs T)) 64 dX5_join_63 rfl (xA hA rfl) (nI_add _ _) (by omega) (by omega) (xAs hA rfl) ?_
        refine xw_aload_n 65 dX5_join_64 rfl rfl rfl ?_
        refine xw_get 68 dX5_join_65 rfl f_X5_7 (xA hA rfl) rfl ?_
        refine xw_bipush 70 (nI 7) dX5_join_68 rfl (by decide) ?_
        refine xw_dup2 71 dX5_join_70 rfl rfl rfl ?_
        refine xw_ialv (j := 7) 72 dX5_join_71 rfl (xA hA rfl) (rfl) (by omega) (by omega) (e1) ?_
        refine xw_iconst 73 (nI 1) dX5_join_72 rfl (xofI 1) ?_
        refine xw_iadd 74 dX5_join_73 rfl ?_
        rw [nI_add]
        refine xw_iastore (j := 7) (hp' := (mH A (zjoin z) (nI (zrM s)) (mhis z hi s) (nI ln) tx (nI 0) ot oR oC wa pR pC pM ps rr ha nu fe kc hs T)) 75 dX5_join_74 rfl (xA hA rfl) (rfl) (by decide) (by decide) (xAs hA rfl) ?_
        refine xw_aload_n 76 dX5_join_75 rfl rfl rfl ?_
        refine xw_aload_n 77 dX5_join_76 rfl rfl rfl ?_
        refine xw_get 80 dX5_join_77 rfl f_X5_7 (xA hA rfl) rfl ?_
        refine xw_bipush 82 (nI 6) dX5_join_80 rfl (by decide) ?_
        refine xw_ialv (j := 6) 83 dX5_join_82 rfl (xA hA rfl) (rfl) (by decide) (by decide) (e6) ?_
        refine xw_pV 86 dX5_join_83 rfl ok_M_hides s_X5_137 (S_M_hides (xA hA rfl) (xA hA rfl) J (by omega)) (mH_len) (xA hA rfl) rfl rfl rfl rfl rfl rfl rfl ?_
        rw [hhd]
        refine xw_if_eq 93 89 dX5_join_86 rfl rfl (fun h86 => ?_) (fun h86 => absurd (by rw [if_neg g2]; rfl) h86)
        refine xw_iconst 94 (nI 0) dX5_join_93 rfl (xofI 0) ?_
        exact xw_ireturn dX5_join_94 rfl (⟨rfl, (ot, oR, oC, wa, pR, pC, pM, ps, rr, ha, nu, fe, kc, hs), rfl⟩)
    · rw [if_neg g1]
      refine xw_aload_n 1 dX5_join_0 rfl rfl rfl ?_
      refine xw_aload_n 2 dX5_join_1 rfl rfl rfl ?_
      refine xw_pV 5 dX5_join_2 rfl ok_M_onLast s_X5_121 (S_M_onLast (xA hA rfl) (xA hA rfl) I) (mH_len) (xA hA rfl) rfl rfl rfl rfl rfl rfl rfl ?_
      refine xw_if_eq 20 8 dX5_join_5 rfl rfl (fun h5 => absurd h5 (nI_ne0 (by omega) (by omega))) (fun h5 => ?_)
      refine xw_aload_n 9 dX5_join_8 rfl rfl rfl ?_
      refine xw_get 12 dX5_join_9 rfl f_X5_7 (xA hA rfl) rfl ?_
      refine xw_bipush 14 (nI 7) dX5_join_12 rfl (by decide) ?_
      refine xw_ialv (j := 7) 15 dX5_join_14 rfl (xA hA rfl) (rfl) (by decide) (by decide) (I.iK.1) ?_
      refine xw_bipush 17 (nI 48) dX5_join_15 rfl (by decide) ?_
      refine xw_icmp_ne 24 20 dX5_join_17 rfl rfl (fun h17 => absurd (congrArg nI (show zI z 7 = 48 by omega)) h17) (fun h17 => ?_)
      refine xw_iconst 21 (nI 1) dX5_join_20 rfl (xofI 1) ?_
      refine xw_goto 25 dX5_join_21 rfl ?_
      refine xw_put (hp' := (mH A z (nI s) hi (nI ln) tx (nI 1) ot oR oC wa pR pC pM ps rr ha nu fe kc hs T)) 28 dX5_join_25 rfl f_X5_40 (xA hA rfl) ⟨rfl, rfl⟩ rfl rfl (xAs hA rfl) ?_
      refine xw_aload_n 29 dX5_join_28 rfl rfl rfl ?_
      refine xw_get 32 dX5_join_29 rfl f_X5_40 (xA hA rfl) rfl ?_
      refine xw_if_le 37 35 dX5_join_32 rfl rfl (fun h32 => absurd h32 (by decide)) (fun h32 => ?_)
      refine xw_iconst 36 (nI 0) dX5_join_35 rfl (xofI 0) ?_
      exact xw_ireturn dX5_join_36 rfl (⟨rfl, (ot, oR, oC, wa, pR, pC, pM, ps, rr, ha, nu, fe, kc, hs), rfl⟩)
end P46

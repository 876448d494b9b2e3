/-! ===== the model: the digest ===== -/
theorem hfo_4 {f : Nat → Nat → Int32} {h : Int64} : ∀ n, hfo (fun k => f (k / 4) (k % 4)) (4 * n) h = hfo2 f 4 n h
  | 0 => rfl
  | n + 1 => by
    have ih := hfo_4 (f := f) (h := h) n
    show hmx (hmx (hmx (hmx (hfo (fun k => f (k / 4) (k % 4)) (4 * n) h) (f ((4 * n) / 4) ((4 * n) % 4))) (f ((4 * n + 1) / 4) ((4 * n + 1) % 4))) (f ((4 * n + 2) / 4) ((4 * n + 2) % 4))) (f ((4 * n + 3) / 4) ((4 * n + 3) % 4)) = hmx (hmx (hmx (hmx (hfo2 f 4 n h) (f n 0)) (f n 1)) (f n 2)) (f n 3)
    rw [ih, show (4 * n) / 4 = n by omega, show (4 * n) % 4 = 0 by omega, show (4 * n + 1) / 4 = n by omega, show (4 * n + 1) % 4 = 1 by omega, show (4 * n + 2) / 4 = n by omega, show (4 * n + 2) % 4 = 2 by omega, show (4 * n + 3) / 4 = n by omega, show (4 * n + 3) % 4 = 3 by omega]
section P54
variable {G : xG} {x : Nat} {A T : List xE} {z hi tx ot wa pR pC pM fe kc : Nat → Int32} {s ln : Nat} {th oR oC ps rr ha nu : Int32} {hs : Int64}
theorem S_D_isNaN {hp : List xE} {v : UInt64} (h : FP.dcmp v v = some .eq) : xMet G D_isNaN [.double v] hp x 0 0 (xRetV (.int (nI 0)) hp) := by
  refine xw_dload_n 1 dJxe99ae_isNaN_b9ae7_0 rfl rfl ?_
  refine xw_dload_n 2 dJxe99ae_isNaN_b9ae7_1 rfl rfl ?_
  refine xw_dcmp 3 dJxe99ae_isNaN_b9ae7_2 rfl ?_
  refine xw_if_eq 10 6 dJxe99ae_isNaN_b9ae7_3 rfl rfl (fun h3 => ?_) (fun h3 => absurd (by rw [h]; rfl) h3)
  refine xw_iconst 11 (nI 0) dJxe99ae_isNaN_b9ae7_10 rfl (xofI 0) ?_
  exact xw_zreturn dJxe99ae_isNaN_b9ae7_11 rfl (Or.inl rfl) (⟨rfl, rfl⟩)
theorem S_D_bits {hp : List xE} {v : UInt64} (h : FP.dcmp v v = some .eq) : xMet G D_doubleToLongBits [.double v] hp x 0 0 (xRetV (.long v.toInt64) hp) := by
  refine xw_dload_n 1 dJxe99ae_doubleToLongBits_ccdee_0 rfl rfl ?_
  refine xw_pS 4 dJxe99ae_doubleToLongBits_ccdee_1 rfl ok_D_isNaN s_Jxe99ae_122 (S_D_isNaN h) (rfl) rfl rfl rfl rfl rfl rfl ?_
  refine xw_if_ne 12 7 dJxe99ae_doubleToLongBits_ccdee_4 rfl rfl (fun h4 => absurd (rfl) h4) (fun h4 => ?_)
  refine xw_dload_n 8 dJxe99ae_doubleToLongBits_ccdee_7 rfl rfl ?_
  refine xw_d2raw 11 dJxe99ae_doubleToLongBits_ccdee_8 rfl s_Jxe99ae_134 rfl rfl rfl ?_
  exact xw_lreturn dJxe99ae_doubleToLongBits_ccdee_11 rfl (⟨rfl, rfl⟩)
theorem S_M_mix {v : Int64} (hA : A.length = 71) : xMet G M_mix [.ref 71, .long v] (mH A z (nI s) hi (nI ln) tx th ot oR oC wa pR pC pM ps rr ha nu fe kc hs T) x 0 0 (xRet none (mH A z (nI s) hi (nI ln) tx th ot oR oC wa pR pC pM ps rr ha nu fe kc (31 * hs + v) T)) := by
  refine xw_aload_n 1 dX5_mix_0 rfl rfl rfl ?_
  refine xw_ldc2 4 dX5_mix_1 rfl k_X5_238 ?_
  refine xw_aload_n 5 dX5_mix_4 rfl rfl rfl ?_
  refine xw_get 8 dX5_mix_5 rfl f_X5_240 (xA hA rfl) rfl ?_
  refine xw_lmul 9 dX5_mix_8 rfl ?_
  refine xw_lload_n 10 dX5_mix_9 rfl rfl ?_
  refine xw_ladd 11 dX5_mix_10 rfl ?_
  refine xw_put (hp' := (mH A z (nI s) hi (nI ln) tx th ot oR oC wa pR pC pM ps rr ha nu fe kc (31 * hs + v) T)) 14 dX5_mix_11 rfl f_X5_240 (xA hA rfl) ⟨rfl, rfl⟩ rfl rfl (xAs hA rfl) ?_
  exact xw_return dX5_mix_14 rfl (⟨rfl, rfl⟩)
theorem S_M_mixChart (hA : A.length = 71) (I : xInv z) : xMet G M_mixChart [.ref 71] (mH A z (nI s) hi (nI ln) tx th ot oR oC wa pR pC pM ps rr ha nu fe kc hs T) x 0 0 (xRet none (mH A z (nI s) hi (nI ln) tx th ot oR oC wa pR pC pM ps rr ha nu fe kc (hcol z 6 (hfo2 (fun r c => z (27 + (r * 12 + c))) (zI z 5) (zI z 4) hs)) T)) := by
  have hA1 := I.iA.2.1
  have hA2 := I.iA.2.2
  have hS2 := I.iS.2.2
  have hR1 := I.iR.2.1
  have hR2 := I.iR.2.2
  have hC1 := I.iC.2.1
  have hC2 := I.iC.2.2
  have hM2 := I.iM.2.2
  have hK1 := I.iK.2.1
  have hK2 := I.iK.2.2
  have cols : ∀ (t c : Nat), c + t = 6 → xW G M_mixChart (xRet none (mH A z (nI s) hi (nI ln) tx th ot oR oC wa pR pC pM ps rr ha nu fe kc (hcol z 6 (hfo2 (fun r c => z (27 + (r * 12 + c))) (zI z 5) (zI z 4) hs)) T)) 49 [(1, .int (nI c)), (0, .ref 71)] [] (mH A z (nI s) hi (nI ln) tx th ot oR oC wa pR pC pM ps rr ha nu fe kc (hcol z c (hfo2 (fun r c => z (27 + (r * 12 + c))) (zI z 5) (zI z 4) hs)) T) x 0 0 := by
    intro t
    induction t with
    | zero =>
      intro c hc
      have e : c = 6 := by omega
      subst e
      refine xw_iload_n 50 dX5_mixChart_49 rfl rfl ?_
      refine xw_bipush 52 (nI 6) dX5_mixChart_50 rfl (by decide) ?_
      refine xw_icmp_ge 98 55 dX5_mixChart_52 rfl rfl (fun h52 => ?_) (fun h52 => absurd (nI_le (Nat.le_refl _) (by decide)) h52)
      exact xw_return dX5_mixChart_98 rfl (⟨rfl, rfl⟩)
    | succ t ih =>
      intro c hc
      have ih := ih (c + 1) (by omega)
      have inner : ∀ (u k : Nat), k + u = 6 → xW G M_mixChart (xRet none (mH A z (nI s) hi (nI ln) tx th ot oR oC wa pR pC pM ps rr ha nu fe kc (hcol z 6 (hfo2 (fun r c => z (27 + (r * 12 + c))) (zI z 5) (zI z 4) hs)) T)) 57 [(2, .int (nI k)), (1, .int (nI c)), (0, .ref 71)] [] (mH A z (nI s) hi (nI ln) tx th ot oR oC wa pR pC pM ps rr ha nu fe kc (hfo (zcolour z c) k (hcol z c (hfo2 (fun r c => z (27 + (r * 12 + c))) (zI z 5) (zI z 4) hs))) T) x 0 0 := by
        intro u
        induction u with
        | zero =>
          intro k hk
          have e : k = 6 := by omega
          subst e
          refine xw_iload_n 58 dX5_mixChart_57 rfl rfl ?_
          refine xw_bipush 60 (nI 6) dX5_mixChart_58 rfl (by decide) ?_
          refine xw_icmp_ge 80 63 dX5_mixChart_60 rfl rfl (fun h60 => ?_) (fun h60 => absurd (nI_le (Nat.le_refl _) (by decide)) h60)
          refine xw_aload_n 81 dX5_mixChart_80 rfl rfl rfl ?_
          refine xw_aload_n 82 dX5_mixChart_81 rfl rfl rfl ?_
          refine xw_iload_n 83 dX5_mixChart_82 rfl rfl ?_
          refine xw_bipush 85 (nI 60) dX5_mixChart_83 rfl (by decide) ?_
          refine xw_pV 88 dX5_mixChart_85 rfl ok_M_neededNow s_X5_206 (S_M_neededNow (xA hA rfl) (xA hA rfl) I (by decide)) (mH_len) (xA hA rfl) rfl rfl rfl rfl rfl rfl rfl ?_
          refine xw_i2l 89 dX5_mixChart_88 rfl ?_
          refine xw_pVv 92 dX5_mixChart_89 rfl ok_M_mix s_X5_244 (S_M_mix hA) (mH_len) (xA hA rfl) rfl rfl rfl rfl rfl rfl rfl ?_
          refine xw_iinc (ls' := [(1, _), (2, _), (0, _)]) 95 _ dX5_mixChart_92 rfl rfl (xnI_inc _) rfl rfl ?_
          refine xw_goto 49 dX5_mixChart_95 rfl ?_
          exact xW.pick [0, 2] rfl (ih)
        | succ u ihu =>
          intro k hk
          have ihu := ihu (k + 1) (by omega)
          refine xw_iload_n 58 dX5_mixChart_57 rfl rfl ?_
          refine xw_bipush 60 (nI 6) dX5_mixChart_58 rfl (by decide) ?_
          refine xw_icmp_ge 80 63 dX5_mixChart_60 rfl rfl (fun h60 => absurd h60 (nI_ge (by omega) (by omega))) (fun h60 => ?_)
          refine xw_aload_n 64 dX5_mixChart_63 rfl rfl rfl ?_
          refine xw_aload_n 65 dX5_mixChart_64 rfl rfl rfl ?_
          refine xw_iload_n 66 dX5_mixChart_65 rfl rfl ?_
          refine xw_iload_n 67 dX5_mixChart_66 rfl rfl ?_
          refine xw_pV 70 dX5_mixChart_67 rfl ok_M_colourNow s_X5_185 (S_M_colourNow (xA hA rfl) (xA hA rfl) I (by omega) (by omega)) (mH_len) (xA hA rfl) rfl rfl rfl rfl rfl rfl rfl ?_
          refine xw_i2l 71 dX5_mixChart_70 rfl ?_
          refine xw_pVv 74 dX5_mixChart_71 rfl ok_M_mix s_X5_244 (S_M_mix hA) (mH_len) (xA hA rfl) rfl rfl rfl rfl rfl rfl rfl ?_
          refine xw_iinc (ls' := [(2, _), (1, _), (0, _)]) 77 _ dX5_mixChart_74 rfl rfl (xnI_inc _) rfl rfl ?_
          refine xw_goto 57 dX5_mixChart_77 rfl ?_
          exact xW.pick [0, 1, 2] rfl (ihu)
      refine xw_iload_n 50 dX5_mixChart_49 rfl rfl ?_
      refine xw_bipush 52 (nI 6) dX5_mixChart_50 rfl (by decide) ?_
      refine xw_icmp_ge 98 55 dX5_mixChart_52 rfl rfl (fun h52 => absurd h52 (nI_ge (by omega) (by omega))) (fun h52 => ?_)
      refine xw_iconst 56 (nI 0) dX5_mixChart_55 rfl (xofI 0) ?_
      refine xw_istore_n (ls' := [(2, _), (1, _), (0, _)]) 57 dX5_mixChart_56 rfl rfl rfl ?_
      exact xW.pick [0, 1, 2] rfl (inner 6 0 (by omega))
  have rws : ∀ (t r : Nat), r + t = zI z 4 → xW G M_mixChart (xRet none (mH A z (nI s) hi (nI ln) tx th ot oR oC wa pR pC pM ps rr ha nu fe kc (hcol z 6 (hfo2 (fun r c => z (27 + (r * 12 + c))) (zI z 5) (zI z 4) hs)) T)) 2 [(1, .int (nI r)), (0, .ref 71)] [] (mH A z (nI s) hi (nI ln) tx th ot oR oC wa pR pC pM ps rr ha nu fe kc (hfo2 (fun r c => z (27 + (r * 12 + c))) (zI z 5) r hs) T) x 0 0 := by
    intro t
    induction t with
    | zero =>
      intro r hr
      have e : r = zI z 4 := by omega
      rw [e]
      refine xw_iload_n 3 dX5_mixChart_2 rfl rfl ?_
      refine xw_aload_n 4 dX5_mixChart_3 rfl rfl rfl ?_
      refine xw_get 7 dX5_mixChart_4 rfl f_X5_7 (xA hA rfl) rfl ?_
      refine xw_iconst 8 (nI 4) dX5_mixChart_7 rfl (xofI 4) ?_
      refine xw_ialv (j := 4) 9 dX5_mixChart_8 rfl (xA hA rfl) (rfl) (by decide) (by decide) (I.iR.1) ?_
      refine xw_icmp_ge 47 12 dX5_mixChart_9 rfl rfl (fun h9 => ?_) (fun h9 => absurd (nI_le (Nat.le_refl _) (by omega)) h9)
      refine xw_iconst 48 (nI 0) dX5_mixChart_47 rfl (xofI 0) ?_
      refine xw_istore_n (ls' := [(1, _), (0, _)]) 49 dX5_mixChart_48 rfl rfl rfl ?_
      exact cols 6 0 (by omega)
    | succ t ih =>
      intro r hr
      have ih := ih (r + 1) (by omega)
      have inner : ∀ (u c : Nat), c + u = zI z 5 → xW G M_mixChart (xRet none (mH A z (nI s) hi (nI ln) tx th ot oR oC wa pR pC pM ps rr ha nu fe kc (hcol z 6 (hfo2 (fun r c => z (27 + (r * 12 + c))) (zI z 5) (zI z 4) hs)) T)) 14 [(2, .int (nI c)), (1, .int (nI r)), (0, .ref 71)] [] (mH A z (nI s) hi (nI ln) tx th ot oR oC wa pR pC pM ps rr ha nu fe kc (hfo (fun c => z (27 + (r * 12 + c))) c (hfo2 (fun r c => z (27 + (r * 12 + c))) (zI z 5) r hs)) T) x 0 0 := by
        intro u
        induction u with
        | zero =>
          intro c hc
          have e : c = zI z 5 := by omega
          rw [e]
          refine xw_iload_n 15 dX5_mixChart_14 rfl rfl ?_
          refine xw_aload_n 16 dX5_mixChart_15 rfl rfl rfl ?_
          refine xw_get 19 dX5_mixChart_16 rfl f_X5_7 (xA hA rfl) rfl ?_
          refine xw_iconst 20 (nI 5) dX5_mixChart_19 rfl (xofI 5) ?_
          refine xw_ialv (j := 5) 21 dX5_mixChart_20 rfl (xA hA rfl) (rfl) (by decide) (by decide) (I.iC.1) ?_
          refine xw_icmp_ge 41 24 dX5_mixChart_21 rfl rfl (fun h21 => ?_) (fun h21 => absurd (nI_le (Nat.le_refl _) (by omega)) h21)
          refine xw_iinc (ls' := [(1, _), (2, _), (0, _)]) 44 _ dX5_mixChart_41 rfl rfl (xnI_inc _) rfl rfl ?_
          refine xw_goto 2 dX5_mixChart_44 rfl ?_
          exact xW.pick [0, 2] rfl (ih)
        | succ u ihu =>
          intro c hc
          have ihu := ihu (c + 1) (by omega)
          refine xw_iload_n 15 dX5_mixChart_14 rfl rfl ?_
          refine xw_aload_n 16 dX5_mixChart_15 rfl rfl rfl ?_
          refine xw_get 19 dX5_mixChart_16 rfl f_X5_7 (xA hA rfl) rfl ?_
          refine xw_iconst 20 (nI 5) dX5_mixChart_19 rfl (xofI 5) ?_
          refine xw_ialv (j := 5) 21 dX5_mixChart_20 rfl (xA hA rfl) (rfl) (by decide) (by decide) (I.iC.1) ?_
          refine xw_icmp_ge 41 24 dX5_mixChart_21 rfl rfl (fun h21 => absurd h21 (nI_ge (by omega) (by omega))) (fun h21 => ?_)
          refine xw_aload_n 25 dX5_mixChart_24 rfl rfl rfl ?_
          refine xw_aload_n 26 dX5_mixChart_25 rfl rfl rfl ?_
          refine xw_iload_n 27 dX5_mixChart_26 rfl rfl ?_
          refine xw_iload_n 28 dX5_mixChart_27 rfl rfl ?_
          refine xw_pV 31 dX5_mixChart_28 rfl ok_M_chartAt s_X5_61 (S_M_chartAt (xA hA rfl) (xA hA rfl) (by omega)) (mH_len) (xA hA rfl) rfl rfl rfl rfl rfl rfl rfl ?_
          refine xw_i2l 32 dX5_mixChart_31 rfl ?_
          refine xw_pVv 35 dX5_mixChart_32 rfl ok_M_mix s_X5_244 (S_M_mix hA) (mH_len) (xA hA rfl) rfl rfl rfl rfl rfl rfl rfl ?_
          refine xw_iinc (ls' := [(2, _), (1, _), (0, _)]) 38 _ dX5_mixChart_35 rfl rfl (xnI_inc _) rfl rfl ?_
          refine xw_goto 14 dX5_mixChart_38 rfl ?_
          exact xW.pick [0, 1, 2] rfl (ihu)
      refine xw_iload_n 3 dX5_mixChart_2 rfl rfl ?_
      refine xw_aload_n 4 dX5_mixChart_3 rfl rfl rfl ?_
      refine xw_get 7 dX5_mixChart_4 rfl f_X5_7 (xA hA rfl) rfl ?_
      refine xw_iconst 8 (nI 4) dX5_mixChart_7 rfl (xofI 4) ?_
      refine xw_ialv (j := 4) 9 dX5_mixChart_8 rfl (xA hA rfl) (rfl) (by decide) (by decide) (I.iR.1) ?_
      refine xw_icmp_ge 47 12 dX5_mixChart_9 rfl rfl (fun h9 => absurd h9 (nI_ge (by omega) (by omega))) (fun h9 => ?_)
      refine xw_iconst 13 (nI 0) dX5_mixChart_12 rfl (xofI 0) ?_
      refine xw_istore_n (ls' := [(2, _), (1, _), (0, _)]) 14 dX5_mixChart_13 rfl rfl rfl ?_
      exact xW.pick [0, 1, 2] rfl (inner (zI z 5) 0 (by omega))
  refine xw_iconst 1 (nI 0) dX5_mixChart_0 rfl (xofI 0) ?_
  refine xw_istore_n (ls' := [(1, _), (0, _)]) 2 dX5_mixChart_1 rfl rfl rfl ?_
  exact rws (zI z 4) 0 (by omega)
theorem S_M_mixWouldBe_tail {hv : Int64} (hA : A.length = 71) (I : xInv z) (hhv : hv = 31 * (hmx (hmx (hmx (hmx hs (xoI (xfnd (zwr z) 0 (zI z 6)))) (nI (zkeep z (zI z 6)))) (zslant z)) (zturnb z)) + (zshare z).toInt64) : xW G M_mixWouldBe (fun o hp' => o = .inl none ∧ ∃ (ot' : Nat → Int32) (oR' oC' : Int32) (fe' kc' : Nat → Int32), hp' = (mH A z (nI s) hi (nI ln) tx th ot' oR' oC' wa pR pC pM ps rr ha nu fe' kc' hv T)) 38 [(0, .ref 71)] [] (mH A z (nI s) hi (nI ln) tx th ot oR oC wa pR pC pM ps rr ha nu fe kc hs T) x 0 0 := by
  refine xw_aload_n 39 dX5_mixWouldBe_38 rfl rfl rfl ?_
  refine xw_aload_n 40 dX5_mixWouldBe_39 rfl rfl rfl ?_
  refine xw_pV 43 dX5_mixWouldBe_40 rfl ok_M_wrongOne s_X5_219 (S_M_wrongOne (xA hA rfl) (xA hA rfl) I) (mH_len) (xA hA rfl) rfl rfl rfl rfl rfl rfl rfl ?_
  refine xw_i2l 44 dX5_mixWouldBe_43 rfl ?_
  refine xw_pVv 47 dX5_mixWouldBe_44 rfl ok_M_mix s_X5_244 (S_M_mix hA) (mH_len) (xA hA rfl) rfl rfl rfl rfl rfl rfl rfl ?_
  refine xw_aload_n 48 dX5_mixWouldBe_47 rfl rfl rfl ?_
  refine xw_aload_n 49 dX5_mixWouldBe_48 rfl rfl rfl ?_
  refine xw_pV 52 dX5_mixWouldBe_49 rfl ok_M_rightLeft s_X5_222 (S_M_rightLeft (xA hA rfl) (xA hA rfl) I) (mH_len) (xA hA rfl) rfl rfl rfl rfl rfl rfl rfl ?_
  refine xw_i2l 53 dX5_mixWouldBe_52 rfl ?_
  refine xw_pVv 56 dX5_mixWouldBe_53 rfl ok_M_mix s_X5_244 (S_M_mix hA) (mH_len) (xA hA rfl) rfl rfl rfl rfl rfl rfl rfl ?_
  refine xw_aload_n 57 dX5_mixWouldBe_56 rfl rfl rfl ?_
  refine xw_aload_n 58 dX5_mixWouldBe_57 rfl rfl rfl ?_
  refine xw_pV 61 dX5_mixWouldBe_58 rfl ok_M_slantNow s_X5_225 (S_M_slantNow hA I) (mH_len) (xA hA rfl) rfl rfl rfl rfl rfl rfl rfl ?_
  refine xw_i2l 62 dX5_mixWouldBe_61 rfl ?_
  refine xw_pVv 65 dX5_mixWouldBe_62 rfl ok_M_mix s_X5_244 (S_M_mix hA) (mH_len) (xA hA rfl) rfl rfl rfl rfl rfl rfl rfl ?_
  refine xw_aload_n 66 dX5_mixWouldBe_65 rfl rfl rfl ?_
  refine xw_aload_n 67 dX5_mixWouldBe_66 rfl rfl rfl ?_
  refine xw_qV 70 dX5_mixWouldBe_67 rfl ok_M_turnNow s_X5_231 (S_M_turnNow hA I) (fun E hp9 q9 => by cases q9.1) (fun o9 hp9 q9 => by obtain ⟨_, _, _, _, _, q9⟩ := q9; rw [q9]; exact mH_len) (xA hA rfl) rfl rfl rfl rfl rfl rfl rfl (fun ov9 hp9 q9 => ?_)
  obtain ⟨q1, ot', oR', oC', kc', rfl⟩ := q9
  cases q1
  refine xw_i2l 71 dX5_mixWouldBe_70 rfl ?_
  refine xw_pVv 74 dX5_mixWouldBe_71 rfl ok_M_mix s_X5_244 (S_M_mix hA) (mH_len) (xA hA rfl) rfl rfl rfl rfl rfl rfl rfl ?_
  refine xw_aload_n 75 dX5_mixWouldBe_74 rfl rfl rfl ?_
  refine xw_aload_n 76 dX5_mixWouldBe_75 rfl rfl rfl ?_
  refine xw_pV 79 dX5_mixWouldBe_76 rfl ok_M_share s_X5_234 (S_M_share (xA hA rfl) (xA hA rfl) I) (mH_len) (xA hA rfl) rfl rfl rfl rfl rfl rfl rfl ?_
  refine xw_pS 82 dX5_mixWouldBe_79 rfl ok_D_doubleToLongBits s_X5_248 (S_D_bits (zshare_self I)) (mH_len) rfl rfl rfl rfl rfl rfl ?_
  refine xw_pVv 85 dX5_mixWouldBe_82 rfl ok_M_mix s_X5_244 (S_M_mix hA) (mH_len) (xA hA rfl) rfl rfl rfl rfl rfl rfl rfl ?_
  exact xw_return dX5_mixWouldBe_85 rfl (⟨rfl, _, _, _, _, _, by rw [hhv]; rfl⟩)
theorem S_M_mixWouldBe_plans {h0 hv : Int64} (hA : A.length = 71) (I : xInv z) (hhv : hv = 31 * (hmx (hmx (hmx (hmx (hfo (fun s => zplan z 120 (some s)) 8 h0) (xoI (xfnd (zwr z) 0 (zI z 6)))) (nI (zkeep z (zI z 6)))) (zslant z)) (zturnb z)) + (zshare z).toInt64) : ∀ (t i : Nat) (fe : Nat → Int32), i + t = 8 → xW G M_mixWouldBe (fun o hp' => o = .inl none ∧ ∃ (ot' : Nat → Int32) (oR' oC' : Int32) (fe' kc' : Nat → Int32), hp' = (mH A z (nI s) hi (nI ln) tx th ot' oR' oC' wa pR pC pM ps rr ha nu fe' kc' hv T)) 14 [(1, .int (nI i)), (0, .ref 71)] [] (mH A z (nI s) hi (nI ln) tx th ot oR oC wa pR pC pM ps rr ha nu fe kc (hfo (fun s => zplan z 120 (some s)) i h0) T) x 0 0 := by
  intro t
  induction t with
  | zero =>
    intro i fe hi9
    have e : i = 8 := by omega
    subst e
    refine xw_iload_n 15 dX5_mixWouldBe_14 rfl rfl ?_
    refine xw_bipush 17 (nI 8) dX5_mixWouldBe_15 rfl (by decide) ?_
    refine xw_icmp_ge 38 20 dX5_mixWouldBe_17 rfl rfl (fun h17 => ?_) (fun h17 => absurd (nI_le (Nat.le_refl _) (by decide)) h17)
    exact xW.pick [1] rfl (S_M_mixWouldBe_tail hA I hhv)
  | succ t ih =>
    intro i fe hi9
    have hsp := S_M_planNow (z := z) (hi := hi) (tx := tx) (th := th) (ot := ot) (oR := oR) (oC := oC) (wa := wa) (pR := pR) (pC := pC) (pM := pM) (ps := ps) (rr := rr) (ha := ha) (nu := nu) (fe := fe) (kc := kc) (hs := (hfo (fun s => zplan z 120 (some s)) i h0)) (s := s) (ln := ln) (A := A) (T := T) (G := G) (x := x) (N := 120) (q := some i) hA I (by decide) (by decide) (fun k hk => by cases hk; omega)
    have ek : xoI (some i) = nI i := rfl
    rw [ek] at hsp
    refine xw_iload_n 15 dX5_mixWouldBe_14 rfl rfl ?_
    refine xw_bipush 17 (nI 8) dX5_mixWouldBe_15 rfl (by decide) ?_
    refine xw_icmp_ge 38 20 dX5_mixWouldBe_17 rfl rfl (fun h17 => absurd h17 (nI_ge (by omega) (by omega))) (fun h17 => ?_)
    refine xw_aload_n 21 dX5_mixWouldBe_20 rfl rfl rfl ?_
    refine xw_aload_n 22 dX5_mixWouldBe_21 rfl rfl rfl ?_
    refine xw_bipush 24 (nI 120) dX5_mixWouldBe_22 rfl (by decide) ?_
    refine xw_iload_n 25 dX5_mixWouldBe_24 rfl rfl ?_
    refine xw_pV 28 dX5_mixWouldBe_25 rfl ok_M_planNow s_X5_216 (hsp) (mH_len) (xA hA rfl) rfl rfl rfl rfl rfl rfl rfl ?_
    refine xw_i2l 29 dX5_mixWouldBe_28 rfl ?_
    refine xw_pVv 32 dX5_mixWouldBe_29 rfl ok_M_mix s_X5_244 (S_M_mix hA) (mH_len) (xA hA rfl) rfl rfl rfl rfl rfl rfl rfl ?_
    refine xw_iinc (ls' := [(1, _), (0, _)]) 35 _ dX5_mixWouldBe_32 rfl rfl (xnI_inc _) rfl rfl ?_
    refine xw_goto 14 dX5_mixWouldBe_35 rfl ?_
    exact xW.pick [0, 1] rfl (ih (i + 1) _ (by omega))
theorem S_M_mixWouldBe (hA : A.length = 71) (I : xInv z) : xMet G M_mixWouldBe [.ref 71] (mH A z (nI s) hi (nI ln) tx th ot oR oC wa pR pC pM ps rr ha nu fe kc hs T) x 0 0 (fun o hp' => o = .inl none ∧ ∃ (ot' : Nat → Int32) (oR' oC' : Int32) (fe' kc' : Nat → Int32), hp' = (mH A z (nI s) hi (nI ln) tx th ot' oR' oC' wa pR pC pM ps rr ha nu fe' kc' (31 * (hmx (hmx (hmx (hmx (hpla z hs) (xoI (xfnd (zwr z) 0 (zI z 6)))) (nI (zkeep z (zI z 6)))) (zslant z)) (zturnb z)) + (zshare z).toInt64) T)) := by
  have hsp := S_M_planNow (z := z) (hi := hi) (tx := tx) (th := th) (ot := ot) (oR := oR) (oC := oC) (wa := wa) (pR := pR) (pC := pC) (pM := pM) (ps := ps) (rr := rr) (ha := ha) (nu := nu) (fe := fe) (kc := kc) (hs := hs) (s := s) (ln := ln) (A := A) (T := T) (G := G) (x := x) (N := 120) (q := none) hA I (by decide) (by decide) (fun k hk => by cases hk)
  have ek : xoI none = -1 := rfl
  rw [ek] at hsp
  refine xw_aload_n 1 dX5_mixWouldBe_0 rfl rfl rfl ?_
  refine xw_aload_n 2 dX5_mixWouldBe_1 rfl rfl rfl ?_
  refine xw_bipush 4 (nI 120) dX5_mixWouldBe_2 rfl (by decide) ?_
  refine xw_iconst 5 (-1) dX5_mixWouldBe_4 rfl rfl ?_
  refine xw_pV 8 dX5_mixWouldBe_5 rfl ok_M_planNow s_X5_216 (hsp) (mH_len) (xA hA rfl) rfl rfl rfl rfl rfl rfl rfl ?_
  refine xw_i2l 9 dX5_mixWouldBe_8 rfl ?_
  refine xw_pVv 12 dX5_mixWouldBe_9 rfl ok_M_mix s_X5_244 (S_M_mix hA) (mH_len) (xA hA rfl) rfl rfl rfl rfl rfl rfl rfl ?_
  refine xw_iconst 13 (nI 0) dX5_mixWouldBe_12 rfl (xofI 0) ?_
  refine xw_istore_n (ls' := [(1, _), (0, _)]) 14 dX5_mixWouldBe_13 rfl rfl rfl ?_
  exact S_M_mixWouldBe_plans (h0 := hmx hs (zplan z 120 none)) hA I rfl 8 0 _ (by omega)
theorem S_M_digest_text {h0 hd : Int64} (hA : A.length = 71) (hl : ln ≤ 60) (hhd : hd = hfo tx ln h0) : ∀ (t i : Nat), i + t = ln → xW G M_digest (fun o hp' => o = .inl (some (.long hd)) ∧ ∃ c : mS, hp' = mHq A z (nI s) hi (nI ln) tx (nI 0) c T) 153 [(1, .int (nI i)), (0, .ref 71)] [] (mH A z (nI s) hi (nI ln) tx (nI 0) ot oR oC wa pR pC pM ps rr ha nu fe kc (hfo tx i h0) T) x 0 0 := by
  intro t
  induction t with
  | zero =>
    intro i hi9
    have e : i = ln := by omega
    refine xw_iload_n 154 dX5_digest_153 rfl rfl ?_
    refine xw_aload_n 155 dX5_digest_154 rfl rfl rfl ?_
    refine xw_get 158 dX5_digest_155 rfl f_X5_85 (xA hA rfl) rfl ?_
    refine xw_icmp_ge 178 161 dX5_digest_158 rfl rfl (fun h158 => ?_) (fun h158 => absurd (nI_le (by omega) (by omega)) h158)
    refine xw_aload_n 179 dX5_digest_178 rfl rfl rfl ?_
    refine xw_get 182 dX5_digest_179 rfl f_X5_240 (xA hA rfl) rfl ?_
    exact xw_lreturn dX5_digest_182 rfl (⟨by rw [hhd, e], (ot, oR, oC, wa, pR, pC, pM, ps, rr, ha, nu, fe, kc, (hfo tx i h0)), rfl⟩)
  | succ t ih =>
    intro i hi9
    have ih := ih (i + 1) (by omega)
    refine xw_iload_n 154 dX5_digest_153 rfl rfl ?_
    refine xw_aload_n 155 dX5_digest_154 rfl rfl rfl ?_
    refine xw_get 158 dX5_digest_155 rfl f_X5_85 (xA hA rfl) rfl ?_
    refine xw_icmp_ge 178 161 dX5_digest_158 rfl rfl (fun h158 => absurd h158 (nI_ge (by omega) (by omega))) (fun h158 => ?_)
    refine xw_aload_n 162 dX5_digest_161 rfl rfl rfl ?_
    refine xw_aload_n 163 dX5_digest_162 rfl rfl rfl ?_
    refine xw_get 166 dX5_digest_163 rfl f_X5_16 (xA hA rfl) rfl ?_
    refine xw_iload_n 167 dX5_digest_166 rfl rfl ?_
    refine xw_iaload (j := _) 168 dX5_digest_167 rfl (xA hA rfl) (rfl) (by omega) (by omega) ?_
    refine xw_i2l 169 dX5_digest_168 rfl ?_
    refine xw_pVv 172 dX5_digest_169 rfl ok_M_mix s_X5_244 (S_M_mix hA) (mH_len) (xA hA rfl) rfl rfl rfl rfl rfl rfl rfl ?_
    refine xw_iinc (ls' := [(1, _), (0, _)]) 175 _ dX5_digest_172 rfl rfl (xnI_inc _) rfl rfl ?_
    refine xw_goto 153 dX5_digest_175 rfl ?_
    exact xW.pick [0, 1] rfl (ih)
theorem S_M_digest_end {hd : Int64} (hA : A.length = 71) (hl : ln ≤ 60) (hhd : hd = hfo tx ln (hmx hs (nI ln))) : xW G M_digest (fun o hp' => o = .inl (some (.long hd)) ∧ ∃ c : mS, hp' = mHq A z (nI s) hi (nI ln) tx (nI 0) c T) 142 [(0, .ref 71)] [] (mH A z (nI s) hi (nI ln) tx (nI 0) ot oR oC wa pR pC pM ps rr ha nu fe kc hs T) x 0 0 := by
  refine xw_aload_n 143 dX5_digest_142 rfl rfl rfl ?_
  refine xw_aload_n 144 dX5_digest_143 rfl rfl rfl ?_
  refine xw_get 147 dX5_digest_144 rfl f_X5_85 (xA hA rfl) rfl ?_
  refine xw_i2l 148 dX5_digest_147 rfl ?_
  refine xw_pVv 151 dX5_digest_148 rfl ok_M_mix s_X5_244 (S_M_mix hA) (mH_len) (xA hA rfl) rfl rfl rfl rfl rfl rfl rfl ?_
  refine xw_iconst 152 (nI 0) dX5_digest_151 rfl (xofI 0) ?_
  refine xw_istore_n (ls' := [(1, _), (0, _)]) 153 dX5_digest_152 rfl rfl rfl ?_
  exact S_M_digest_text (h0 := hmx hs (nI ln)) hA hl hhd ln 0 (by omega)
theorem S_M_digest (hA : A.length = 71) (I : xInv z) (hl : ln ≤ 60) : xMet G M_digest [.ref 71] (mH A z (nI s) hi (nI ln) tx th ot oR oC wa pR pC pM ps rr ha nu fe kc hs T) x 0 0 (fun o hp' => o = .inl (some (.long (hdig z (nI s) tx ln))) ∧ ∃ c : mS, hp' = mHq A z (nI s) hi (nI ln) tx (nI 0) c T) := by
  have hA1 := I.iA.2.1
  have hA2 := I.iA.2.2
  have hS2 := I.iS.2.2
  have hR1 := I.iR.2.1
  have hR2 := I.iR.2.2
  have hC1 := I.iC.2.1
  have hC2 := I.iC.2.2
  have hM2 := I.iM.2.2
  have hK1 := I.iK.2.1
  have hK2 := I.iK.2.2
  have wb : xW G M_digest (fun o hp' => o = .inl (some (.long (hdig z (nI s) tx ln))) ∧ ∃ c : mS, hp' = mHq A z (nI s) hi (nI ln) tx (nI 0) c T) 138 [(0, .ref 71)] [] (mH A z (nI s) hi (nI ln) tx (nI 0) ot oR oC wa pR pC pM ps rr ha nu fe kc (hfo2 (fun b k => zstrand z b k) 4 (zI z 7) (hfo2 (fun b k => zbead z b k) 4 (zI z 6) (hcol z 6 (hfo2 (fun r c => z (27 + (r * 12 + c))) (zI z 5) (zI z 4) (hfo (fun k => z k) 4 (hfo (znum z (nI s)) 13 2351)))))) T) x 0 0 := by
    refine xw_aload_n 139 dX5_digest_138 rfl rfl rfl ?_
    refine xw_qV 142 dX5_digest_139 rfl ok_M_mixWouldBe s_X5_259 (S_M_mixWouldBe hA I) (fun E hp9 q9 => by cases q9.1) (fun o9 hp9 q9 => by obtain ⟨_, _, _, _, _, _, q9⟩ := q9; rw [q9]; exact mH_len) (xA hA rfl) rfl rfl rfl rfl rfl rfl rfl (fun ov9 hp9 q9 => ?_)
    obtain ⟨q1, ot', oR', oC', fe', kc', rfl⟩ := q9
    cases q1
    exact S_M_digest_end hA hl rfl
  have ls : ∀ (t i : Nat), i + t = 4 * zI z 7 → xW G M_digest (fun o hp' => o = .inl (some (.long (hdig z (nI s) tx ln))) ∧ ∃ c : mS, hp' = mHq A z (nI s) hi (nI ln) tx (nI 0) c T) 104 [(1, .int (nI i)), (0, .ref 71)] [] (mH A z (nI s) hi (nI ln) tx (nI 0) ot oR oC wa pR pC pM ps rr ha nu fe kc (hfo (fun k => zstrand z (k / 4) (k % 4)) i (hfo2 (fun b k => zbead z b k) 4 (zI z 6) (hcol z 6 (hfo2 (fun r c => z (27 + (r * 12 + c))) (zI z 5) (zI z 4) (hfo (fun k => z k) 4 (hfo (znum z (nI s)) 13 2351)))))) T) x 0 0 := by
    intro t
    induction t with
    | zero =>
      intro i hi9
      have e : i = 4 * zI z 7 := by omega
      rw [e]
      refine xw_iload_n 105 dX5_digest_104 rfl rfl ?_
      refine xw_iconst 106 (nI 4) dX5_digest_105 rfl (xofI 4) ?_
      refine xw_aload_n 107 dX5_digest_106 rfl rfl rfl ?_
      refine xw_get 110 dX5_digest_107 rfl f_X5_7 (xA hA rfl) rfl ?_
      refine xw_bipush 112 (nI 7) dX5_digest_110 rfl (by decide) ?_
      refine xw_ialv (j := 7) 113 dX5_digest_112 rfl (xA hA rfl) (rfl) (by decide) (by decide) (I.iK.1) ?_
      refine xw_imul 114 dX5_digest_113 rfl ?_
      rw [pk_mul]
      refine xw_icmp_ge 138 117 dX5_digest_114 rfl rfl (fun h114 => ?_) (fun h114 => absurd (nI_le (Nat.le_refl _) (by omega)) h114)
      rw [hfo_4 (f := fun b k => zstrand z b k)]
      exact xW.pick [1] rfl wb
    | succ t ih =>
      intro i hi9
      have ih := ih (i + 1) (by omega)
      refine xw_iload_n 105 dX5_digest_104 rfl rfl ?_
      refine xw_iconst 106 (nI 4) dX5_digest_105 rfl (xofI 4) ?_
      refine xw_aload_n 107 dX5_digest_106 rfl rfl rfl ?_
      refine xw_get 110 dX5_digest_107 rfl f_X5_7 (xA hA rfl) rfl ?_
      refine xw_bipush 112 (nI 7) dX5_digest_110 rfl (by decide) ?_
      refine xw_ialv (j := 7) 113 dX5_digest_112 rfl (xA hA rfl) (rfl) (by decide) (by decide) (I.iK.1) ?_
      refine xw_imul 114 dX5_digest_113 rfl ?_
      rw [pk_mul]
      refine xw_icmp_ge 138 117 dX5_digest_114 rfl rfl (fun h114 => absurd h114 (nI_ge (by omega) (by omega))) (fun h114 => ?_)
      refine xw_aload_n 118 dX5_digest_117 rfl rfl rfl ?_
      refine xw_aload_n 119 dX5_digest_118 rfl rfl rfl ?_
      refine xw_iload_n 120 dX5_digest_119 rfl rfl ?_
      refine xw_iconst 121 (nI 4) dX5_digest_120 rfl (xofI 4) ?_
      refine xw_idiv 122 dX5_digest_121 rfl (by decide) ?_
      rw [pk_div (d := 4) (by omega) (by decide) (by decide)]
      refine xw_iload_n 123 dX5_digest_122 rfl rfl ?_
      refine xw_iconst 124 (nI 4) dX5_digest_123 rfl (xofI 4) ?_
      refine xw_irem 125 dX5_digest_124 rfl (by decide) ?_
      rw [pk_rem (d := 4) (by omega) (by decide) (by decide)]
      refine xw_pV 128 dX5_digest_125 rfl ok_M_strandNow s_X5_175 (S_M_strandNow (xA hA rfl) (xA hA rfl) I (by omega) (by omega)) (mH_len) (xA hA rfl) rfl rfl rfl rfl rfl rfl rfl ?_
      refine xw_i2l 129 dX5_digest_128 rfl ?_
      refine xw_pVv 132 dX5_digest_129 rfl ok_M_mix s_X5_244 (S_M_mix hA) (mH_len) (xA hA rfl) rfl rfl rfl rfl rfl rfl rfl ?_
      refine xw_iinc (ls' := [(1, _), (0, _)]) 135 _ dX5_digest_132 rfl rfl (xnI_inc _) rfl rfl ?_
      refine xw_goto 104 dX5_digest_135 rfl ?_
      exact xW.pick [0, 1] rfl (ih)
  have lb : ∀ (t i : Nat), i + t = 4 * zI z 6 → xW G M_digest (fun o hp' => o = .inl (some (.long (hdig z (nI s) tx ln))) ∧ ∃ c : mS, hp' = mHq A z (nI s) hi (nI ln) tx (nI 0) c T) 68 [(1, .int (nI i)), (0, .ref 71)] [] (mH A z (nI s) hi (nI ln) tx (nI 0) ot oR oC wa pR pC pM ps rr ha nu fe kc (hfo (fun k => zbead z (k / 4) (k % 4)) i (hcol z 6 (hfo2 (fun r c => z (27 + (r * 12 + c))) (zI z 5) (zI z 4) (hfo (fun k => z k) 4 (hfo (znum z (nI s)) 13 2351))))) T) x 0 0 := by
    intro t
    induction t with
    | zero =>
      intro i hi9
      have e : i = 4 * zI z 6 := by omega
      rw [e]
      refine xw_iload_n 69 dX5_digest_68 rfl rfl ?_
      refine xw_iconst 70 (nI 4) dX5_digest_69 rfl (xofI 4) ?_
      refine xw_aload_n 71 dX5_digest_70 rfl rfl rfl ?_
      refine xw_get 74 dX5_digest_71 rfl f_X5_7 (xA hA rfl) rfl ?_
      refine xw_bipush 76 (nI 6) dX5_digest_74 rfl (by decide) ?_
      refine xw_ialv (j := 6) 77 dX5_digest_76 rfl (xA hA rfl) (rfl) (by decide) (by decide) (I.iM.1) ?_
      refine xw_imul 78 dX5_digest_77 rfl ?_
      rw [pk_mul]
      refine xw_icmp_ge 102 81 dX5_digest_78 rfl rfl (fun h78 => ?_) (fun h78 => absurd (nI_le (Nat.le_refl _) (by omega)) h78)
      refine xw_iconst 103 (nI 0) dX5_digest_102 rfl (xofI 0) ?_
      refine xw_istore_n (ls' := [(1, _), (0, _)]) 104 dX5_digest_103 rfl rfl rfl ?_
      rw [hfo_4 (f := fun b k => zbead z b k)]
      exact xW.pick [0, 1] rfl (ls (4 * zI z 7) 0 (by omega))
    | succ t ih =>
      intro i hi9
      have ih := ih (i + 1) (by omega)
      refine xw_iload_n 69 dX5_digest_68 rfl rfl ?_
      refine xw_iconst 70 (nI 4) dX5_digest_69 rfl (xofI 4) ?_
      refine xw_aload_n 71 dX5_digest_70 rfl rfl rfl ?_
      refine xw_get 74 dX5_digest_71 rfl f_X5_7 (xA hA rfl) rfl ?_
      refine xw_bipush 76 (nI 6) dX5_digest_74 rfl (by decide) ?_
      refine xw_ialv (j := 6) 77 dX5_digest_76 rfl (xA hA rfl) (rfl) (by decide) (by decide) (I.iM.1) ?_
      refine xw_imul 78 dX5_digest_77 rfl ?_
      rw [pk_mul]
      refine xw_icmp_ge 102 81 dX5_digest_78 rfl rfl (fun h78 => absurd h78 (nI_ge (by omega) (by omega))) (fun h78 => ?_)
      refine xw_aload_n 82 dX5_digest_81 rfl rfl rfl ?_
      refine xw_aload_n 83 dX5_digest_82 rfl rfl rfl ?_
      refine xw_iload_n 84 dX5_digest_83 rfl rfl ?_
      refine xw_iconst 85 (nI 4) dX5_digest_84 rfl (xofI 4) ?_
      refine xw_idiv 86 dX5_digest_85 rfl (by decide) ?_
      rw [pk_div (d := 4) (by omega) (by decide) (by decide)]
      refine xw_iload_n 87 dX5_digest_86 rfl rfl ?_
      refine xw_iconst 88 (nI 4) dX5_digest_87 rfl (xofI 4) ?_
      refine xw_irem 89 dX5_digest_88 rfl (by decide) ?_
      rw [pk_rem (d := 4) (by omega) (by decide) (by decide)]
      refine xw_pV 92 dX5_digest_89 rfl ok_M_beadNow s_X5_172 (S_M_beadNow (xA hA rfl) (xA hA rfl) I (by omega) (by omega)) (mH_len) (xA hA rfl) rfl rfl rfl rfl rfl rfl rfl ?_
      refine xw_i2l 93 dX5_digest_92 rfl ?_
      refine xw_pVv 96 dX5_digest_93 rfl ok_M_mix s_X5_244 (S_M_mix hA) (mH_len) (xA hA rfl) rfl rfl rfl rfl rfl rfl rfl ?_
      refine xw_iinc (ls' := [(1, _), (0, _)]) 99 _ dX5_digest_96 rfl rfl (xnI_inc _) rfl rfl ?_
      refine xw_goto 68 dX5_digest_99 rfl ?_
      exact xW.pick [0, 1] rfl (ih)
  have l4 : ∀ (t i : Nat), i + t = 4 → xW G M_digest (fun o hp' => o = .inl (some (.long (hdig z (nI s) tx ln))) ∧ ∃ c : mS, hp' = mHq A z (nI s) hi (nI ln) tx (nI 0) c T) 38 [(1, .int (nI i)), (0, .ref 71)] [] (mH A z (nI s) hi (nI ln) tx (nI 0) ot oR oC wa pR pC pM ps rr ha nu fe kc (hfo (fun k => z k) i (hfo (znum z (nI s)) 13 2351)) T) x 0 0 := by
    intro t
    induction t with
    | zero =>
      intro i hi9
      have e : i = 4 := by omega
      rw [e]
      refine xw_iload_n 39 dX5_digest_38 rfl rfl ?_
      refine xw_iconst 40 (nI 4) dX5_digest_39 rfl (xofI 4) ?_
      refine xw_icmp_ge 62 43 dX5_digest_40 rfl rfl (fun h40 => ?_) (fun h40 => absurd (nI_le (Nat.le_refl _) (by decide)) h40)
      refine xw_aload_n 63 dX5_digest_62 rfl rfl rfl ?_
      refine xw_pVv 66 dX5_digest_63 rfl ok_M_mixChart s_X5_256 (S_M_mixChart hA I) (mH_len) (xA hA rfl) rfl rfl rfl rfl rfl rfl rfl ?_
      refine xw_iconst 67 (nI 0) dX5_digest_66 rfl (xofI 0) ?_
      refine xw_istore_n (ls' := [(1, _), (0, _)]) 68 dX5_digest_67 rfl rfl rfl ?_
      exact xW.pick [0, 1] rfl (lb (4 * zI z 6) 0 (by omega))
    | succ t ih =>
      intro i hi9
      have ih := ih (i + 1) (by omega)
      refine xw_iload_n 39 dX5_digest_38 rfl rfl ?_
      refine xw_iconst 40 (nI 4) dX5_digest_39 rfl (xofI 4) ?_
      refine xw_icmp_ge 62 43 dX5_digest_40 rfl rfl (fun h40 => absurd h40 (nI_ge (by omega) (by omega))) (fun h40 => ?_)
      refine xw_aload_n 44 dX5_digest_43 rfl rfl rfl ?_
      refine xw_aload_n 45 dX5_digest_44 rfl rfl rfl ?_
      refine xw_get 48 dX5_digest_45 rfl f_X5_7 (xA hA rfl) rfl ?_
      refine xw_iconst 49 (nI 0) dX5_digest_48 rfl (xofI 0) ?_
      refine xw_iload_n 50 dX5_digest_49 rfl rfl ?_
      refine xw_iadd 51 dX5_digest_50 rfl ?_
      refine xw_iaload (j := i) 52 dX5_digest_51 rfl (xA hA rfl) ((nI_add _ _).trans (congrArg nI (Nat.zero_add i))) (by omega) (by omega) ?_
      refine xw_i2l 53 dX5_digest_52 rfl ?_
      refine xw_pVv 56 dX5_digest_53 rfl ok_M_mix s_X5_244 (S_M_mix hA) (mH_len) (xA hA rfl) rfl rfl rfl rfl rfl rfl rfl ?_
      refine xw_iinc (ls' := [(1, _), (0, _)]) 59 _ dX5_digest_56 rfl rfl (xnI_inc _) rfl rfl ?_
      refine xw_goto 38 dX5_digest_59 rfl ?_
      exact xW.pick [0, 1] rfl (ih)
  have l13 : ∀ (t i : Nat), i + t = 13 → xW G M_digest (fun o hp' => o = .inl (some (.long (hdig z (nI s) tx ln))) ∧ ∃ c : mS, hp' = mHq A z (nI s) hi (nI ln) tx (nI 0) c T) 14 [(1, .int (nI i)), (0, .ref 71)] [] (mH A z (nI s) hi (nI ln) tx (nI 0) ot oR oC wa pR pC pM ps rr ha nu fe kc (hfo (znum z (nI s)) i 2351) T) x 0 0 := by
    intro t
    induction t with
    | zero =>
      intro i hi9
      have e : i = 13 := by omega
      rw [e]
      refine xw_iload_n 15 dX5_digest_14 rfl rfl ?_
      refine xw_bipush 17 (nI 13) dX5_digest_15 rfl (by decide) ?_
      refine xw_icmp_ge 36 20 dX5_digest_17 rfl rfl (fun h17 => ?_) (fun h17 => absurd (nI_le (Nat.le_refl _) (by decide)) h17)
      refine xw_iconst 37 (nI 0) dX5_digest_36 rfl (xofI 0) ?_
      refine xw_istore_n (ls' := [(1, _), (0, _)]) 38 dX5_digest_37 rfl rfl rfl ?_
      exact xW.pick [0, 1] rfl (l4 4 0 (by omega))
    | succ t ih =>
      intro i hi9
      have ih := ih (i + 1) (by omega)
      refine xw_iload_n 15 dX5_digest_14 rfl rfl ?_
      refine xw_bipush 17 (nI 13) dX5_digest_15 rfl (by decide) ?_
      refine xw_icmp_ge 36 20 dX5_digest_17 rfl rfl (fun h17 => absurd h17 (nI_ge (by omega) (by omega))) (fun h17 => ?_)
      refine xw_aload_n 21 dX5_digest_20 rfl rfl rfl ?_
      refine xw_aload_n 22 dX5_digest_21 rfl rfl rfl ?_
      refine xw_iload_n 23 dX5_digest_22 rfl rfl ?_
      refine xw_pV 26 dX5_digest_23 rfl ok_M_counted s_X5_203 (S_M_counted (xA hA rfl) (xA hA rfl) I (by omega)) (mH_len) (xA hA rfl) rfl rfl rfl rfl rfl rfl rfl ?_
      refine xw_i2l 27 dX5_digest_26 rfl ?_
      refine xw_pVv 30 dX5_digest_27 rfl ok_M_mix s_X5_244 (S_M_mix hA) (mH_len) (xA hA rfl) rfl rfl rfl rfl rfl rfl rfl ?_
      refine xw_iinc (ls' := [(1, _), (0, _)]) 33 _ dX5_digest_30 rfl rfl (xnI_inc _) rfl rfl ?_
      refine xw_goto 14 dX5_digest_33 rfl ?_
      exact xW.pick [0, 1] rfl (ih)
  refine xw_aload_n 1 dX5_digest_0 rfl rfl rfl ?_
  refine xw_iconst 2 (nI 0) dX5_digest_1 rfl (xofI 0) ?_
  refine xw_put (hp' := (mH A z (nI s) hi (nI ln) tx (nI 0) ot oR oC wa pR pC pM ps rr ha nu fe kc hs T)) 5 dX5_digest_2 rfl f_X5_40 (xA hA rfl) ⟨rfl, rfl⟩ rfl rfl (xAs hA rfl) ?_
  refine xw_aload_n 6 dX5_digest_5 rfl rfl rfl ?_
  refine xw_ldc2 9 dX5_digest_6 rfl k_X5_254 ?_
  refine xw_put (hp' := (mH A z (nI s) hi (nI ln) tx (nI 0) ot oR oC wa pR pC pM ps rr ha nu fe kc (2351) T)) 12 dX5_digest_9 rfl f_X5_240 (xA hA rfl) ⟨rfl, rfl⟩ rfl rfl (xAs hA rfl) ?_
  refine xw_iconst 13 (nI 0) dX5_digest_12 rfl (xofI 0) ?_
  refine xw_istore_n (ls' := [(1, _), (0, _)]) 14 dX5_digest_13 rfl rfl rfl ?_
  exact l13 13 0 (by omega)
end P54

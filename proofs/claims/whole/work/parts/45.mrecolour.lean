/-! ===== the model: colours changed, beads strung, strings joined ===== -/
theorem zon_o {w : Nat → Int32} {fc : Nat → Nat} {k : Nat} : ∀ {i : Nat}, (∀ j, j < i → fc j < 6) → (k < 9 ∨ (15 ≤ k ∧ k < 147 + zI w 6) ∨ 147 + zI w 6 + i ≤ k) → zon w fc i k = w k
  | 0, _, _ => rfl
  | i + 1, hf, h => by
    have h1 := hf i (by omega)
    unfold zon
    rw [upd_ne (by omega), upd_ne (by omega)]
    exact zon_o (fun j hj => hf j (by omega)) (by omega)
theorem zon_b {w : Nat → Int32} {fc : Nat → Nat} {j : Nat} : ∀ {i : Nat}, (∀ j, j < i → fc j < 6) → j < i → zon w fc i (147 + (zI w 6 + j)) = nI (fc j)
  | 0, _, h => absurd h (Nat.not_lt_zero _)
  | i + 1, hf, h => by
    have h1 := hf i (by omega)
    unfold zon
    rw [upd_ne (by omega)]
    by_cases e : j = i
    · subst e; rw [upd_at]
    · rw [upd_ne (by omega)]
      exact zon_b (fun j hj => hf j (by omega)) (by omega)
theorem ztake_o {w : Nat → Int32} {fc : Nat → Nat} {k i : Nat} (hf : ∀ j, j < i → fc j < 6) (h : (k < 9 ∧ k ≠ 6) ∨ (15 ≤ k ∧ k < 147 + zI w 6) ∨ 147 + zI w 6 + i ≤ k) : ztake w fc i k = w k := by
  unfold ztake
  rw [upd_ne (by omega)]
  exact zon_o hf (by omega)
theorem ztake_6 {w : Nat → Int32} {fc : Nat → Nat} {i : Nat} : ztake w fc i 6 = nI (zI w 6 + i) := upd_at
theorem ztake_inv {w : Nat → Int32} {fc : Nat → Nat} {m : Nat} (I : xInv w) (hM : zI w 6 + m ≤ 240) (hf : ∀ i, i < m → fc i < 6) : xInv (ztake w fc m) := by
  obtain ⟨M1, M2, M3⟩ := I.iM
  have i6 : zI (ztake w fc m) 6 = zI w 6 + m := zI_k ztake_6 (by omega)
  have eo : ∀ k, (k < 9 ∧ k ≠ 6) ∨ (15 ≤ k ∧ k < 147 + zI w 6) ∨ 147 + zI w 6 + m ≤ k → ztake w fc m k = w k := fun k h => ztake_o hf h
  have io : ∀ k, (k < 9 ∧ k ≠ 6) ∨ (15 ≤ k ∧ k < 147 + zI w 6) ∨ 147 + zI w 6 + m ≤ k → zI (ztake w fc m) k = zI w k := fun k h => by unfold zI; rw [eo k h]
  refine ⟨xnn_ag (eo 0 (by omega)) I.iA, xnn_ag (eo 1 (by omega)) I.iS, xnn_ag (eo 2 (by omega)) I.iH, xnn_ag (eo 3 (by omega)) I.iD, xnn_ag (eo 4 (by omega)) I.iR, xnn_ag (eo 5 (by omega)) I.iC, xnn_k ztake_6 (by omega) (by omega) (by omega), xnn_ag (eo 7 (by omega)) I.iK, fun k hk => ?_, ?_, fun k hk => ?_, fun k hk => ?_, fun r c hr hc => ?_⟩
  · rw [io 7 (by omega)] at hk
    have h1 := I.iB k hk
    have h2 := xnn_ag (eo (387 + k) (by omega)) h1
    rw [i6]
    exact ⟨h2.1, h2.2.1, by have := h2.2.2; omega⟩
  · rw [io 387 (by omega)]
    exact I.i0
  · rw [io 7 (by omega)] at hk
    rw [io (387 + k) (by omega), io (387 + (k + 1)) (by omega)]
    exact I.im k hk
  · rw [i6] at hk
    by_cases h : k < zI w 6
    · exact xnn_ag (eo _ (by omega)) (I.ib k h)
    · have e : ztake w fc m (147 + k) = nI (fc (k - zI w 6)) := by
        unfold ztake
        rw [upd_ne (by omega), show 147 + k = 147 + (zI w 6 + (k - zI w 6)) by omega]
        exact zon_b hf (by omega)
      have := hf (k - zI w 6) (by omega)
      exact xnn_k e (by omega) (by omega) (by omega)
  · rw [io 4 (by omega)] at hr
    rw [io 5 (by omega)] at hc
    have := I.iR.2.2
    have := I.iC.2.2
    exact xnn_ag (eo _ (by omega)) (I.ic r c hr hc)
theorem ztake_pc {w : Nat → Int32} {fc : Nat → Nat} {i : Nat} (I : xInv w) (hf : ∀ j, j < i → fc j < 6) (n : Nat) : pcol (ztake w fc i) n = pcol w n := by
  have hpl := I.pl n
  have eo : ∀ k, (k < 9 ∧ k ≠ 6) ∨ (15 ≤ k ∧ k < 147 + zI w 6) ∨ 147 + zI w 6 + i ≤ k → ztake w fc i k = w k := fun k h => ztake_o hf h
  have io : ∀ k, (k < 9 ∧ k ≠ 6) ∨ (15 ≤ k ∧ k < 147 + zI w 6) ∨ 147 + zI w 6 + i ≤ k → zI (ztake w fc i) k = zI w k := fun k h => by unfold zI; rw [eo k h]
  unfold pcol
  rw [io 0 (by omega), io 1 (by omega), io 4 (by omega), io 5 (by omega), eo _ (by omega)]
theorem ztake_0 {w : Nat → Int32} {fc : Nat → Nat} (I : xInv w) : ztake w fc 0 = w := by
  funext k
  show upd w 6 (nI (zI w 6)) k = w k
  by_cases h : k = 6
  · subst h; rw [upd_at]; exact I.iM.1.symm
  · rw [upd_ne h]
/-- one bead more -/
def mst (y : Nat → Int32) (M c : Nat) : Nat → Int32 := upd (upd (upd y (9 + c) (y (9 + c) - nI 1)) (147 + M) (nI c)) 6 (nI (M + 1))
theorem mst_take {w : Nat → Int32} {fc : Nat → Nat} {i : Nat} (hc : fc i < 6) (hM : zI w 6 + i < 240) : mst (ztake w fc i) (zI w 6 + i) (fc i) = ztake w fc (i + 1) := by
  have e1 : ∀ v : Int32, v - nI 1 = v + (-1) := fun v => Int32.sub_eq_add_neg v (nI 1)
  have e9 : ztake w fc i (9 + fc i) = zon w fc i (9 + fc i) := upd_ne (by omega)
  unfold mst
  rw [e9, e1]
  funext k
  by_cases h6 : k = 6
  · subst h6; rw [upd_at, ztake_6, Nat.add_assoc]
  · rw [upd_ne h6]
    show _ = upd (zon w fc (i + 1)) 6 _ k
    rw [upd_ne h6]
    show _ = upd (upd (zon w fc i) (147 + (zI w 6 + i)) (nI (fc i))) (9 + fc i) (zon w fc i (9 + fc i) + (-1)) k
    by_cases h9 : k = 9 + fc i
    · subst h9
      rw [upd_ne (by omega), upd_at, upd_at]
    · rw [upd_ne h9]
      by_cases hb : k = 147 + (zI w 6 + i)
      · subst hb; rw [upd_at, upd_at]
      · rw [upd_ne hb, upd_ne hb, upd_ne h9]
        exact upd_ne h6
/-- the first i cells recoloured -/
def mrc (z : Nat → Int32) (a b : Int32) (R C i : Nat) : Nat → Int32 := fun k => if (27 ≤ k ∧ k < 27 + i) ∧ ((k - 27) / 12 < R ∧ (k - 27) % 12 < C) then xsw a b (z k) else z k
theorem mrc_0 (z : Nat → Int32) (a b : Int32) (R C : Nat) : mrc z a b R C 0 = z := by
  funext k
  unfold mrc
  rw [if_neg (fun h => by have := h.1; omega)]
theorem mrc_at {z : Nat → Int32} {a b : Int32} {R C i : Nat} : mrc z a b R C i (27 + i) = z (27 + i) := by
  unfold mrc
  rw [if_neg (fun h => by have := h.1; omega)]
theorem mrc_lo {z : Nat → Int32} {a b : Int32} {R C i k : Nat} (h : k < 27) : mrc z a b R C i k = z k := by
  unfold mrc
  rw [if_neg (fun h => by have := h.1; omega)]
theorem mrc_s {z : Nat → Int32} {a b v : Int32} {R C i : Nat} (hi : i / 12 < R ∧ i % 12 < C) (hv : v = xsw a b (z (27 + i))) : upd (mrc z a b R C i) (27 + i) v = mrc z a b R C (i + 1) := by
  funext k
  by_cases h : k = 27 + i
  · subst h
    rw [upd_at]
    unfold mrc
    rw [if_pos ⟨by omega, by rw [Nat.add_sub_cancel_left]; exact hi⟩, hv]
  · rw [upd_ne h]
    unfold mrc
    by_cases h2 : (27 ≤ k ∧ k < 27 + i) ∧ ((k - 27) / 12 < R ∧ (k - 27) % 12 < C)
    · rw [if_pos h2, if_pos ⟨by have := h2.1; omega, h2.2⟩]
    · rw [if_neg h2, if_neg (fun q => h2 ⟨by have := q.1; omega, q.2⟩)]
theorem mrc_k {z : Nat → Int32} {a b : Int32} {R C i : Nat} (h : (i / 12 < R ∧ i % 12 < C) → xsw a b (z (27 + i)) = z (27 + i)) : mrc z a b R C (i + 1) = mrc z a b R C i := by
  funext k
  unfold mrc
  by_cases h2 : (27 ≤ k ∧ k < 27 + i) ∧ ((k - 27) / 12 < R ∧ (k - 27) % 12 < C)
  · rw [if_pos h2, if_pos ⟨by have := h2.1; omega, h2.2⟩]
  · rw [if_neg h2]
    by_cases h3 : (27 ≤ k ∧ k < 27 + (i + 1)) ∧ ((k - 27) / 12 < R ∧ (k - 27) % 12 < C)
    · have e : k = 27 + i := by
        by_cases q : k = 27 + i
        · exact q
        · exact absurd ⟨by have := h3.1; omega, h3.2⟩ h2
      rw [if_pos h3]
      subst e
      exact h (by have := h3.2; rw [Nat.add_sub_cancel_left] at this; exact this)
    · rw [if_neg h3]
theorem mrc_e {z : Nat → Int32} {a b R C : Nat} (hR : zI z 4 = R) (hC : zI z 5 = C) (hab : ¬ a = b) : mrc z (nI a) (nI b) R C 120 = zrec z a b := by
  unfold zrec
  rw [if_neg hab]
  funext k
  unfold mrc zcel
  by_cases h : 27 ≤ k ∧ k < 147
  · rw [if_pos h]
    unfold xlay
    rw [hR, hC]
    by_cases h2 : (k - 27) / 12 < R ∧ (k - 27) % 12 < C
    · rw [if_pos ⟨by omega, h2⟩, if_pos h2]
      show _ = xsw (nI a) (nI b) (xsl z 27 120 ((k - 27) / 12 * 12 + (k - 27) % 12))
      rw [xsl_at (by omega), show 27 + ((k - 27) / 12 * 12 + (k - 27) % 12) = k by omega]
    · rw [if_neg (fun q => h2 q.2), if_neg h2, xsl_at (by omega), show 27 + (k - 27) = k by omega]
  · rw [if_neg h, if_neg (fun q => h (by have := q.1; omega))]
theorem le_sub_iff {m l H : Nat} (hm : m ≤ 100000) (hl : l ≤ 240) (hH : H ≤ 240) : nI m ≤ nI H - nI l ↔ l + m ≤ H := by
  by_cases h : l ≤ H
  · rw [pk_sub h, nI_leI (by omega) (by omega)]
    omega
  · have e : (nI H - nI l).toInt = (H : Int) - l := by
      rw [Int32.toInt_sub, nI_toInt (by omega), nI_toInt (by omega)]
      simp only [Int.bmod]
      split <;> omega
    rw [Int32.le_iff_toInt_le, e, nI_toInt (by omega)]
    omega
section P45
variable {G : xG} {x : Nat} {A T : List xE} {z hi tx ot wa pR pC pM fe kc : Nat → Int32} {s ln : Nat} {th oR oC ps rr ha nu : Int32} {hs : Int64}
theorem S_M_isCellG {hp : List xE} {st : Int32} {mo : List Value} {a b R C : Nat} (O : hp[71]? = some (.inr (5, .ref 72 :: .int st :: mo))) (Z : hp[72]? = some (.inl (0, 435, .inl z))) (h4 : z 4 = nI R) (h5 : z 5 = nI C) (hR : R ≤ 100) (hC : C ≤ 100) (ha : a < 100) (hb : b < 100) : xMet G M_isCell [.ref 71, .int (nI a), .int (nI b)] hp x 0 0 (xRetV (.int (nI (if a < R ∧ b < C then 1 else 0))) hp) := by
  have w1 := xlt_iff (k := a) (n := R) (by omega) (by omega)
  have w2 := xlt_iff (k := b) (n := C) (by omega) (by omega)
  refine xw_iload_n 1 dX5_isCell_0 rfl rfl ?_
  refine xw_iconst 2 (nI 0) dX5_isCell_1 rfl (xofI 0) ?_
  refine xw_aload_n 3 dX5_isCell_2 rfl rfl rfl ?_
  refine xw_get 6 dX5_isCell_3 rfl f_X5_7 (O) rfl ?_
  refine xw_iconst 7 (nI 4) dX5_isCell_6 rfl (xofI 4) ?_
  refine xw_ialv (j := 4) 8 dX5_isCell_7 rfl (Z) (rfl) (by decide) (by decide) (h4) ?_
  refine xw_iconst 9 (nI 1) dX5_isCell_8 rfl (xofI 1) ?_
  refine xw_isub 10 dX5_isCell_9 rfl ?_
  refine xw_pS 13 dX5_isCell_10 rfl ok_M_within s_X5_47 (xcast_t (.int (nI (if xlt (nI a) R then 1 else 0))) S_M_within (congrArg Value.int (bIff (xbt_lt (n := R) (by omega))))) (rfl) rfl rfl rfl rfl rfl rfl ?_
  refine xw_if_eq 36 16 dX5_isCell_13 rfl rfl (fun h13 => ?_) (fun h13 => ?_)
  · rw [if_neg (fun q => b0 h13 (w1.mpr q.1))]
    refine xw_iconst 37 (nI 0) dX5_isCell_36 rfl (xofI 0) ?_
    exact xw_zreturn dX5_isCell_37 rfl (by decide) (⟨rfl, rfl⟩)
  · refine xw_iload_n 17 dX5_isCell_16 rfl rfl ?_
    refine xw_iconst 18 (nI 0) dX5_isCell_17 rfl (xofI 0) ?_
    refine xw_aload_n 19 dX5_isCell_18 rfl rfl rfl ?_
    refine xw_get 22 dX5_isCell_19 rfl f_X5_7 (O) rfl ?_
    refine xw_iconst 23 (nI 5) dX5_isCell_22 rfl (xofI 5) ?_
    refine xw_ialv (j := 5) 24 dX5_isCell_23 rfl (Z) (rfl) (by decide) (by decide) (h5) ?_
    refine xw_iconst 25 (nI 1) dX5_isCell_24 rfl (xofI 1) ?_
    refine xw_isub 26 dX5_isCell_25 rfl ?_
    refine xw_pS 29 dX5_isCell_26 rfl ok_M_within s_X5_47 (xcast_t (.int (nI (if xlt (nI b) C then 1 else 0))) S_M_within (congrArg Value.int (bIff (xbt_lt (n := C) (by omega))))) (rfl) rfl rfl rfl rfl rfl rfl ?_
    refine xw_if_eq 36 32 dX5_isCell_29 rfl rfl (fun h29 => ?_) (fun h29 => ?_)
    · rw [if_neg (fun q => b0 h29 (w2.mpr q.2))]
      refine xw_iconst 37 (nI 0) dX5_isCell_36 rfl (xofI 0) ?_
      exact xw_zreturn dX5_isCell_37 rfl (by decide) (⟨rfl, rfl⟩)
    · rw [if_pos ⟨w1.mp (b1 h13), w2.mp (b1 h29)⟩]
      refine xw_iconst 33 (nI 1) dX5_isCell_32 rfl (xofI 1) ?_
      refine xw_goto 37 dX5_isCell_33 rfl ?_
      exact xw_zreturn dX5_isCell_37 rfl (by decide) (⟨rfl, rfl⟩)
theorem S_M_recolour {p r : Int32} (hA : A.length = 71) (I : xInv z) (hs6 : s ≤ 6) : xMet G M_recolour [.ref 71, .int p, .int r] (mH A z (nI s) hi (nI ln) tx th ot oR oC wa pR pC pM ps rr ha nu fe kc hs T) x 0 0 (xQm A T (oRecM (z, hi, s, ln, tx) p r).1 (oRecM (z, hi, s, ln, tx) p r).2) := by
  have hA1 := I.iA.2.1
  have hA2 := I.iA.2.2
  have hS2 := I.iS.2.2
  have hR1 := I.iR.2.1
  have hR2 := I.iR.2.2
  have hC1 := I.iC.2.1
  have hC2 := I.iC.2.2
  have hM2 := I.iM.2.2
  have hK1 := I.iK.2.1
  have hK2 := I.iK.2.2
  unfold oRecM
  dsimp only
  by_cases g0 : xlt p 6
  · have w0 : nI (if xlt p 6 then 1 else 0) = nI 1 := bIf g0
    rw [if_pos g0]
    obtain ⟨a, a1, rfl⟩ := xlt_y (by decide) g0
    rw [pN_k (by omega)]
    by_cases g1 : xlt r 6
    · have w1 : nI (if xlt r 6 then 1 else 0) = nI 1 := bIf g1
      rw [if_pos g1]
      obtain ⟨b, b9, rfl⟩ := xlt_y (by decide) g1
      rw [pN_k (by omega)]
      by_cases hab : a = b
      · subst hab
        have e1 : zrec z a a = z := if_pos rfl
        have e2 : zrecN z a a = 0 := if_pos rfl
        rw [e1, e2]
        have loop : ∀ (t i : Nat), i + t = 120 → xW G M_recolour (xQm A T (0, nI 0) (mSav (z, hi, s, ln, tx) z ln)) 41 [(4, .int (nI i)), (3, .int (nI 0)), (0, .ref 71), (1, .int (nI a)), (2, .int (nI a))] [] (mH A z (nI (zrM s)) (mhis z hi s) (nI ln) tx (nI 0) ot oR oC wa pR pC pM ps rr ha nu fe kc hs T) x 0 0 := by
          intro t
          induction t with
          | zero =>
            intro i hi9
            have e1 : i = 120 := by omega
            subst e1
            refine xw_iload 43 dX5_recolour_41 rfl rfl ?_
            refine xw_bipush 45 (nI 120) dX5_recolour_43 rfl (by decide) ?_
            refine xw_icmp_ge 124 48 dX5_recolour_45 rfl rfl (fun h45 => ?_) (fun h45 => absurd (nI_le (Nat.le_refl _) (by decide)) h45)
            refine xw_iload_n 125 dX5_recolour_124 rfl rfl ?_
            exact xw_ireturn dX5_recolour_125 rfl (⟨rfl, (ot, oR, oC, wa, pR, pC, pM, ps, rr, ha, nu, fe, kc, hs), rfl⟩)
          | succ t ih =>
            intro i hi9
            have ih := ih (i + 1) (by omega)
            refine xw_iload 43 dX5_recolour_41 rfl rfl ?_
            refine xw_bipush 45 (nI 120) dX5_recolour_43 rfl (by decide) ?_
            refine xw_icmp_ge 124 48 dX5_recolour_45 rfl rfl (fun h45 => absurd h45 (nI_ge (by omega) (by omega))) (fun h45 => ?_)
            refine xw_aload_n 49 dX5_recolour_48 rfl rfl rfl ?_
            refine xw_get 52 dX5_recolour_49 rfl f_X5_7 (xA hA rfl) rfl ?_
            refine xw_bipush 54 (nI 27) dX5_recolour_52 rfl (by decide) ?_
            refine xw_iload 56 dX5_recolour_54 rfl rfl ?_
            refine xw_iadd 57 dX5_recolour_56 rfl ?_
            refine xw_iaload (j := _) 58 dX5_recolour_57 rfl (xA hA rfl) (nI_add _ _) (by omega) (by omega) ?_
            refine xw_istore (ls' := [(5, _), (4, _), (3, _), (0, _), (1, _), (2, _)]) 60 dX5_recolour_58 rfl rfl rfl ?_
            refine xw_aload_n 61 dX5_recolour_60 rfl rfl rfl ?_
            refine xw_iload 63 dX5_recolour_61 rfl rfl ?_
            refine xw_bipush 65 (nI 12) dX5_recolour_63 rfl (by decide) ?_
            refine xw_idiv 66 dX5_recolour_65 rfl (by decide) ?_
            rw [pk_div (d := 12) (by omega) (by decide) (by decide)]
            refine xw_iload 68 dX5_recolour_66 rfl rfl ?_
            refine xw_bipush 70 (nI 12) dX5_recolour_68 rfl (by decide) ?_
            refine xw_irem 71 dX5_recolour_70 rfl (by decide) ?_
            rw [pk_rem (d := 12) (by omega) (by decide) (by decide)]
            refine xw_pV 74 dX5_recolour_71 rfl ok_M_isCell s_X5_111 (S_M_isCellG (xA hA rfl) (xA hA rfl) I.iR.1 I.iC.1 (by omega) (by omega) (by omega) (by omega)) (mH_len) (xA hA rfl) rfl rfl rfl rfl rfl rfl rfl ?_
            refine xw_if_eq 118 77 dX5_recolour_74 rfl rfl (fun h74 => ?_) (fun h74 => ?_)
            · refine xw_iinc (ls' := [(4, _), (5, _), (3, _), (0, _), (1, _), (2, _)]) 121 _ dX5_recolour_118 rfl rfl (xnI_inc _) rfl rfl ?_
              refine xw_goto 41 dX5_recolour_121 rfl ?_
              exact xW.pick [0, 2, 3, 4, 5] rfl (ih)
            · refine xw_iload_n 78 dX5_recolour_77 rfl rfl ?_
              refine xw_iload_n 79 dX5_recolour_78 rfl rfl ?_
              refine xw_icmp_eq 118 82 dX5_recolour_79 rfl rfl (fun h79 => ?_) (fun h79 => absurd (rfl) h79)
              refine xw_iinc (ls' := [(4, _), (5, _), (3, _), (0, _), (1, _), (2, _)]) 121 _ dX5_recolour_118 rfl rfl (xnI_inc _) rfl rfl ?_
              refine xw_goto 41 dX5_recolour_121 rfl ?_
              exact xW.pick [0, 2, 3, 4, 5] rfl (ih)
        refine xw_aload_n 1 dX5_recolour_0 rfl rfl rfl ?_
        refine xw_iload_n 2 dX5_recolour_1 rfl rfl ?_
        refine xw_pS 5 dX5_recolour_2 rfl ok_M_isColour s_X5_108 (S_M_isColour) (mH_len) rfl rfl rfl rfl rfl rfl ?_
        refine xw_if_eq 19 8 dX5_recolour_5 rfl rfl (fun h5 => absurd h5 (by rw [w0]; decide)) (fun h5 => ?_)
        refine xw_iload_n 9 dX5_recolour_8 rfl rfl ?_
        refine xw_pS 12 dX5_recolour_9 rfl ok_M_isColour s_X5_108 (S_M_isColour) (mH_len) rfl rfl rfl rfl rfl rfl ?_
        refine xw_if_eq 19 15 dX5_recolour_12 rfl rfl (fun h12 => absurd h12 (by rw [w1]; decide)) (fun h12 => ?_)
        refine xw_iconst 16 (nI 0) dX5_recolour_15 rfl (xofI 0) ?_
        refine xw_goto 20 dX5_recolour_16 rfl ?_
        refine xw_put (hp' := (mH A z (nI s) hi (nI ln) tx (nI 0) ot oR oC wa pR pC pM ps rr ha nu fe kc hs T)) 23 dX5_recolour_20 rfl f_X5_40 (xA hA rfl) ⟨rfl, rfl⟩ rfl rfl (xAs hA rfl) ?_
        refine xw_aload_n 24 dX5_recolour_23 rfl rfl rfl ?_
        refine xw_get 27 dX5_recolour_24 rfl f_X5_40 (xA hA rfl) rfl ?_
        refine xw_if_le 32 30 dX5_recolour_27 rfl rfl (fun h27 => ?_) (fun h27 => absurd (by decide) h27)
        refine xw_aload_n 33 dX5_recolour_32 rfl rfl rfl ?_
        refine xw_pVv 36 dX5_recolour_33 rfl ok_M_save s_X5_95 (S_M_save hA hs6) (mH_len) (xA hA rfl) rfl rfl rfl rfl rfl rfl rfl ?_
        refine xw_iconst 37 (nI 0) dX5_recolour_36 rfl (xofI 0) ?_
        refine xw_istore_n (ls' := [(3, _), (0, _), (1, _), (2, _)]) 38 dX5_recolour_37 rfl rfl rfl ?_
        refine xw_iconst 39 (nI 0) dX5_recolour_38 rfl (xofI 0) ?_
        refine xw_istore (ls' := [(4, _), (3, _), (0, _), (1, _), (2, _)]) 41 dX5_recolour_39 rfl rfl rfl ?_
        exact loop 120 0 (by omega)
      · have hab2 : ¬ nI a = nI b := fun h => hab ((nI_eq (by omega) (by omega)).mp h)
        have e2 : zrecN z a b = xct (fun k => decide (k / 12 < zI z 4 ∧ k % 12 < zI z 5) && decide (z (27 + (k / 12 * 12 + k % 12)) = nI a ∨ z (27 + (k / 12 * 12 + k % 12)) = nI b)) 120 := by
          unfold zrecN
          rw [if_neg hab]
          exact (xct_grid (p := fun r d => decide (z (27 + (r * 12 + d)) = nI a ∨ z (27 + (r * 12 + d)) = nI b)) hR2 hC2).symm
        have loop : ∀ (t i : Nat), i + t = 120 → xW G M_recolour (xQm A T (0, nI (zrecN z a b)) (mSav (z, hi, s, ln, tx) (zrec z a b) ln)) 41 [(4, .int (nI i)), (3, .int (nI (xct (fun k => decide (k / 12 < zI z 4 ∧ k % 12 < zI z 5) && decide (z (27 + (k / 12 * 12 + k % 12)) = nI a ∨ z (27 + (k / 12 * 12 + k % 12)) = nI b)) i))), (0, .ref 71), (1, .int (nI a)), (2, .int (nI b))] [] (mH A (mrc z (nI a) (nI b) (zI z 4) (zI z 5) i) (nI (zrM s)) (mhis z hi s) (nI ln) tx (nI 0) ot oR oC wa pR pC pM ps rr ha nu fe kc hs T) x 0 0 := by
          intro t
          induction t with
          | zero =>
            intro i hi9
            have e1 : i = 120 := by omega
            subst e1
            rw [mrc_e rfl rfl hab, e2]
            refine xw_iload 43 dX5_recolour_41 rfl rfl ?_
            refine xw_bipush 45 (nI 120) dX5_recolour_43 rfl (by decide) ?_
            refine xw_icmp_ge 124 48 dX5_recolour_45 rfl rfl (fun h45 => ?_) (fun h45 => absurd (nI_le (Nat.le_refl _) (by decide)) h45)
            refine xw_iload_n 125 dX5_recolour_124 rfl rfl ?_
            exact xw_ireturn dX5_recolour_125 rfl (⟨rfl, (ot, oR, oC, wa, pR, pC, pM, ps, rr, ha, nu, fe, kc, hs), rfl⟩)
          | succ t ih =>
            intro i hi9
            have ih := ih (i + 1) (by omega)
            have ei : z (27 + i) = z (27 + (i / 12 * 12 + i % 12)) := congrArg z (by omega)
            refine xw_iload 43 dX5_recolour_41 rfl rfl ?_
            refine xw_bipush 45 (nI 120) dX5_recolour_43 rfl (by decide) ?_
            refine xw_icmp_ge 124 48 dX5_recolour_45 rfl rfl (fun h45 => absurd h45 (nI_ge (by omega) (by omega))) (fun h45 => ?_)
            refine xw_aload_n 49 dX5_recolour_48 rfl rfl rfl ?_
            refine xw_get 52 dX5_recolour_49 rfl f_X5_7 (xA hA rfl) rfl ?_
            refine xw_bipush 54 (nI 27) dX5_recolour_52 rfl (by decide) ?_
            refine xw_iload 56 dX5_recolour_54 rfl rfl ?_
            refine xw_iadd 57 dX5_recolour_56 rfl ?_
            refine xw_ialv (j := _) 58 dX5_recolour_57 rfl (xA hA rfl) (nI_add _ _) (by omega) (by omega) (mrc_at) ?_
            refine xw_istore (ls' := [(5, _), (4, _), (3, _), (0, _), (1, _), (2, _)]) 60 dX5_recolour_58 rfl rfl rfl ?_
            refine xw_aload_n 61 dX5_recolour_60 rfl rfl rfl ?_
            refine xw_iload 63 dX5_recolour_61 rfl rfl ?_
            refine xw_bipush 65 (nI 12) dX5_recolour_63 rfl (by decide) ?_
            refine xw_idiv 66 dX5_recolour_65 rfl (by decide) ?_
            rw [pk_div (d := 12) (by omega) (by decide) (by decide)]
            refine xw_iload 68 dX5_recolour_66 rfl rfl ?_
            refine xw_bipush 70 (nI 12) dX5_recolour_68 rfl (by decide) ?_
            refine xw_irem 71 dX5_recolour_70 rfl (by decide) ?_
            rw [pk_rem (d := 12) (by omega) (by decide) (by decide)]
            refine xw_pV 74 dX5_recolour_71 rfl ok_M_isCell s_X5_111 (S_M_isCellG (xA hA rfl) (xA hA rfl) ((mrc_lo (by decide)).trans I.iR.1) ((mrc_lo (by decide)).trans I.iC.1) (by omega) (by omega) (by omega) (by omega)) (mH_len) (xA hA rfl) rfl rfl rfl rfl rfl rfl rfl ?_
            refine xw_if_eq 118 77 dX5_recolour_74 rfl rfl (fun h74 => ?_) (fun h74 => ?_)
            · refine xw_iinc (ls' := [(4, _), (5, _), (3, _), (0, _), (1, _), (2, _)]) 121 _ dX5_recolour_118 rfl rfl (xnI_inc _) rfl rfl ?_
              refine xw_goto 41 dX5_recolour_121 rfl ?_
              have e1 : xct (fun k => decide (k / 12 < zI z 4 ∧ k % 12 < zI z 5) && decide (z (27 + (k / 12 * 12 + k % 12)) = nI a ∨ z (27 + (k / 12 * 12 + k % 12)) = nI b)) (i + 1) = xct (fun k => decide (k / 12 < zI z 4 ∧ k % 12 < zI z 5) && decide (z (27 + (k / 12 * 12 + k % 12)) = nI a ∨ z (27 + (k / 12 * 12 + k % 12)) = nI b)) i := xct_n (by rw [← ei]; simp [b0 h74])
              rw [e1, mrc_k (fun q => absurd q (b0 h74))] at ih
              exact xW.pick [0, 2, 3, 4, 5] rfl (ih)
            · refine xw_iload_n 78 dX5_recolour_77 rfl rfl ?_
              refine xw_iload_n 79 dX5_recolour_78 rfl rfl ?_
              refine xw_icmp_eq 118 82 dX5_recolour_79 rfl rfl (fun h79 => absurd h79 (hab2)) (fun h79 => ?_)
              refine xw_iload 84 dX5_recolour_82 rfl rfl ?_
              refine xw_iload_n 85 dX5_recolour_84 rfl rfl ?_
              refine xw_icmp_eq 94 88 dX5_recolour_85 rfl rfl (fun h85 => ?_) (fun h85 => ?_)
              · refine xw_aload_n 95 dX5_recolour_94 rfl rfl rfl ?_
                refine xw_get 98 dX5_recolour_95 rfl f_X5_7 (xA hA rfl) rfl ?_
                refine xw_bipush 100 (nI 27) dX5_recolour_98 rfl (by decide) ?_
                refine xw_iload 102 dX5_recolour_100 rfl rfl ?_
                refine xw_iadd 103 dX5_recolour_102 rfl ?_
                refine xw_iload 105 dX5_recolour_103 rfl rfl ?_
                refine xw_iload_n 106 dX5_recolour_105 rfl rfl ?_
                refine xw_icmp_ne 113 109 dX5_recolour_106 rfl rfl (fun h106 => absurd (h85) h106) (fun h106 => ?_)
                refine xw_iload_n 110 dX5_recolour_109 rfl rfl ?_
                refine xw_goto 114 dX5_recolour_110 rfl ?_
                refine xw_iastore (j := 27 + i) (hp' := (mH A (mrc z (nI a) (nI b) (zI z 4) (zI z 5) (i + 1)) (nI (zrM s)) (mhis z hi s) (nI ln) tx (nI 0) ot oR oC wa pR pC pM ps rr ha nu fe kc hs T)) 115 dX5_recolour_114 rfl (xA hA rfl) (nI_add _ _) (by omega) (by omega) (by rw [mrc_s (b1 h74) (by rw [h85]; exact (if_pos rfl).symm)]; exact xAs hA rfl) ?_
                refine xw_iinc (ls' := [(3, _), (5, _), (4, _), (0, _), (1, _), (2, _)]) 118 _ dX5_recolour_115 rfl rfl (xnI_inc _) rfl rfl ?_
                refine xw_iinc (ls' := [(4, _), (3, _), (5, _), (0, _), (1, _), (2, _)]) 121 _ dX5_recolour_118 rfl rfl (xnI_inc _) rfl rfl ?_
                refine xw_goto 41 dX5_recolour_121 rfl ?_
                have e1 : xct (fun k => decide (k / 12 < zI z 4 ∧ k % 12 < zI z 5) && decide (z (27 + (k / 12 * 12 + k % 12)) = nI a ∨ z (27 + (k / 12 * 12 + k % 12)) = nI b)) (i + 1) = xct (fun k => decide (k / 12 < zI z 4 ∧ k % 12 < zI z 5) && decide (z (27 + (k / 12 * 12 + k % 12)) = nI a ∨ z (27 + (k / 12 * 12 + k % 12)) = nI b)) i + 1 := xct_y (by rw [← ei]; simp [b1 h74, h85])
                rw [e1] at ih
                exact xW.pick [0, 1, 3, 4, 5] rfl (ih)
              · refine xw_iload 90 dX5_recolour_88 rfl rfl ?_
                refine xw_iload_n 91 dX5_recolour_90 rfl rfl ?_
                refine xw_icmp_ne 118 94 dX5_recolour_91 rfl rfl (fun h91 => ?_) (fun h91 => ?_)
                · refine xw_iinc (ls' := [(4, _), (5, _), (3, _), (0, _), (1, _), (2, _)]) 121 _ dX5_recolour_118 rfl rfl (xnI_inc _) rfl rfl ?_
                  refine xw_goto 41 dX5_recolour_121 rfl ?_
                  have e1 : xct (fun k => decide (k / 12 < zI z 4 ∧ k % 12 < zI z 5) && decide (z (27 + (k / 12 * 12 + k % 12)) = nI a ∨ z (27 + (k / 12 * 12 + k % 12)) = nI b)) (i + 1) = xct (fun k => decide (k / 12 < zI z 4 ∧ k % 12 < zI z 5) && decide (z (27 + (k / 12 * 12 + k % 12)) = nI a ∨ z (27 + (k / 12 * 12 + k % 12)) = nI b)) i := xct_n (by rw [← ei]; simp [h85, h91])
                  rw [e1, mrc_k (fun _ => by unfold xsw; rw [if_neg h85, if_neg h91])] at ih
                  exact xW.pick [0, 2, 3, 4, 5] rfl (ih)
                · refine xw_aload_n 95 dX5_recolour_94 rfl rfl rfl ?_
                  refine xw_get 98 dX5_recolour_95 rfl f_X5_7 (xA hA rfl) rfl ?_
                  refine xw_bipush 100 (nI 27) dX5_recolour_98 rfl (by decide) ?_
                  refine xw_iload 102 dX5_recolour_100 rfl rfl ?_
                  refine xw_iadd 103 dX5_recolour_102 rfl ?_
                  refine xw_iload 105 dX5_recolour_103 rfl rfl ?_
                  refine xw_iload_n 106 dX5_recolour_105 rfl rfl ?_
                  refine xw_icmp_ne 113 109 dX5_recolour_106 rfl rfl (fun h106 => ?_) (fun h106 => absurd h106 (h85))
                  refine xw_iload_n 114 dX5_recolour_113 rfl rfl ?_
                  refine xw_iastore (j := 27 + i) (hp' := (mH A (mrc z (nI a) (nI b) (zI z 4) (zI z 5) (i + 1)) (nI (zrM s)) (mhis z hi s) (nI ln) tx (nI 0) ot oR oC wa pR pC pM ps rr ha nu fe kc hs T)) 115 dX5_recolour_114 rfl (xA hA rfl) (nI_add _ _) (by omega) (by omega) (by rw [mrc_s (b1 h74) (by unfold xsw; rw [if_neg h85, if_pos h91])]; exact xAs hA rfl) ?_
                  refine xw_iinc (ls' := [(3, _), (5, _), (4, _), (0, _), (1, _), (2, _)]) 118 _ dX5_recolour_115 rfl rfl (xnI_inc _) rfl rfl ?_
                  refine xw_iinc (ls' := [(4, _), (3, _), (5, _), (0, _), (1, _), (2, _)]) 121 _ dX5_recolour_118 rfl rfl (xnI_inc _) rfl rfl ?_
                  refine xw_goto 41 dX5_recolour_121 rfl ?_
                  have e1 : xct (fun k => decide (k / 12 < zI z 4 ∧ k % 12 < zI z 5) && decide (z (27 + (k / 12 * 12 + k % 12)) = nI a ∨ z (27 + (k / 12 * 12 + k % 12)) = nI b)) (i + 1) = xct (fun k => decide (k / 12 < zI z 4 ∧ k % 12 < zI z 5) && decide (z (27 + (k / 12 * 12 + k % 12)) = nI a ∨ z (27 + (k / 12 * 12 + k % 12)) = nI b)) i + 1 := xct_y (by rw [← ei]; simp [b1 h74, h91])
                  rw [e1] at ih
                  exact xW.pick [0, 1, 3, 4, 5] rfl (ih)
        refine xw_aload_n 1 dX5_recolour_0 rfl rfl rfl ?_
        refine xw_iload_n 2 dX5_recolour_1 rfl rfl ?_
        refine xw_pS 5 dX5_recolour_2 rfl ok_M_isColour s_X5_108 (S_M_isColour) (mH_len) rfl rfl rfl rfl rfl rfl ?_
        refine xw_if_eq 19 8 dX5_recolour_5 rfl rfl (fun h5 => absurd h5 (by rw [w0]; decide)) (fun h5 => ?_)
        refine xw_iload_n 9 dX5_recolour_8 rfl rfl ?_
        refine xw_pS 12 dX5_recolour_9 rfl ok_M_isColour s_X5_108 (S_M_isColour) (mH_len) rfl rfl rfl rfl rfl rfl ?_
        refine xw_if_eq 19 15 dX5_recolour_12 rfl rfl (fun h12 => absurd h12 (by rw [w1]; decide)) (fun h12 => ?_)
        refine xw_iconst 16 (nI 0) dX5_recolour_15 rfl (xofI 0) ?_
        refine xw_goto 20 dX5_recolour_16 rfl ?_
        refine xw_put (hp' := (mH A z (nI s) hi (nI ln) tx (nI 0) ot oR oC wa pR pC pM ps rr ha nu fe kc hs T)) 23 dX5_recolour_20 rfl f_X5_40 (xA hA rfl) ⟨rfl, rfl⟩ rfl rfl (xAs hA rfl) ?_
        refine xw_aload_n 24 dX5_recolour_23 rfl rfl rfl ?_
        refine xw_get 27 dX5_recolour_24 rfl f_X5_40 (xA hA rfl) rfl ?_
        refine xw_if_le 32 30 dX5_recolour_27 rfl rfl (fun h27 => ?_) (fun h27 => absurd (by decide) h27)
        refine xw_aload_n 33 dX5_recolour_32 rfl rfl rfl ?_
        refine xw_pVv 36 dX5_recolour_33 rfl ok_M_save s_X5_95 (S_M_save hA hs6) (mH_len) (xA hA rfl) rfl rfl rfl rfl rfl rfl rfl ?_
        refine xw_iconst 37 (nI 0) dX5_recolour_36 rfl (xofI 0) ?_
        refine xw_istore_n (ls' := [(3, _), (0, _), (1, _), (2, _)]) 38 dX5_recolour_37 rfl rfl rfl ?_
        refine xw_iconst 39 (nI 0) dX5_recolour_38 rfl (xofI 0) ?_
        refine xw_istore (ls' := [(4, _), (3, _), (0, _), (1, _), (2, _)]) 41 dX5_recolour_39 rfl rfl rfl ?_
        have h9 := loop 120 0 (by omega)
        rw [mrc_0] at h9
        exact h9
    · have w1 : nI (if xlt r 6 then 1 else 0) = nI 0 := bIfn g1
      rw [if_neg g1]
      refine xw_aload_n 1 dX5_recolour_0 rfl rfl rfl ?_
      refine xw_iload_n 2 dX5_recolour_1 rfl rfl ?_
      refine xw_pS 5 dX5_recolour_2 rfl ok_M_isColour s_X5_108 (S_M_isColour) (mH_len) rfl rfl rfl rfl rfl rfl ?_
      refine xw_if_eq 19 8 dX5_recolour_5 rfl rfl (fun h5 => absurd h5 (by rw [w0]; decide)) (fun h5 => ?_)
      refine xw_iload_n 9 dX5_recolour_8 rfl rfl ?_
      refine xw_pS 12 dX5_recolour_9 rfl ok_M_isColour s_X5_108 (S_M_isColour) (mH_len) rfl rfl rfl rfl rfl rfl ?_
      refine xw_if_eq 19 15 dX5_recolour_12 rfl rfl (fun h12 => ?_) (fun h12 => absurd (w1) h12)
      refine xw_iconst 20 (nI 1) dX5_recolour_19 rfl (xofI 1) ?_
      refine xw_put (hp' := (mH A z (nI s) hi (nI ln) tx (nI 1) ot oR oC wa pR pC pM ps rr ha nu fe kc hs T)) 23 dX5_recolour_20 rfl f_X5_40 (xA hA rfl) ⟨rfl, rfl⟩ rfl rfl (xAs hA rfl) ?_
      refine xw_aload_n 24 dX5_recolour_23 rfl rfl rfl ?_
      refine xw_get 27 dX5_recolour_24 rfl f_X5_40 (xA hA rfl) rfl ?_
      refine xw_if_le 32 30 dX5_recolour_27 rfl rfl (fun h27 => absurd h27 (by decide)) (fun h27 => ?_)
      refine xw_iconst 31 (nI 0) dX5_recolour_30 rfl (xofI 0) ?_
      exact xw_ireturn dX5_recolour_31 rfl (⟨rfl, (ot, oR, oC, wa, pR, pC, pM, ps, rr, ha, nu, fe, kc, hs), rfl⟩)
  · have w0 : nI (if xlt p 6 then 1 else 0) = nI 0 := bIfn g0
    rw [if_neg g0]
    refine xw_aload_n 1 dX5_recolour_0 rfl rfl rfl ?_
    refine xw_iload_n 2 dX5_recolour_1 rfl rfl ?_
    refine xw_pS 5 dX5_recolour_2 rfl ok_M_isColour s_X5_108 (S_M_isColour) (mH_len) rfl rfl rfl rfl rfl rfl ?_
    refine xw_if_eq 19 8 dX5_recolour_5 rfl rfl (fun h5 => ?_) (fun h5 => absurd (w0) h5)
    refine xw_iconst 20 (nI 1) dX5_recolour_19 rfl (xofI 1) ?_
    refine xw_put (hp' := (mH A z (nI s) hi (nI ln) tx (nI 1) ot oR oC wa pR pC pM ps rr ha nu fe kc hs T)) 23 dX5_recolour_20 rfl f_X5_40 (xA hA rfl) ⟨rfl, rfl⟩ rfl rfl (xAs hA rfl) ?_
    refine xw_aload_n 24 dX5_recolour_23 rfl rfl rfl ?_
    refine xw_get 27 dX5_recolour_24 rfl f_X5_40 (xA hA rfl) rfl ?_
    refine xw_if_le 32 30 dX5_recolour_27 rfl rfl (fun h27 => absurd h27 (by decide)) (fun h27 => ?_)
    refine xw_iconst 31 (nI 0) dX5_recolour_30 rfl (xofI 0) ?_
    exact xw_ireturn dX5_recolour_31 rfl (⟨rfl, (ot, oR, oC, wa, pR, pC, pM, ps, rr, ha, nu, fe, kc, hs), rfl⟩)
end P45

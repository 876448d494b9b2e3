/-! ===== the model: what only reads its row ===== -/
section P40a
variable {G : xG} {Y : xM} {Qx : xO → List xE → Prop} {pc : Nat} {ls : List (Nat × Value)} {st : List Value} {hp : List xE} {x kc ks : Nat}
theorem xw_ialv (pc' : Nat) {k n j : Nat} {f : Nat → Int32} {i v : Int32} (hd : decode (xmB Y) pc = .ok (.iaload, 1)) (hn : pc + 1 = pc') (he : hp[k]? = some (.inl (0, n, .inl f))) (hi : i = nI j) (hj : j < n) (hb : j < 2 ^ 31) (hv : f j = v) (k9 : xW G Y Qx pc' ls (.int v :: st) hp x kc ks) : xW G Y Qx pc ls (.int i :: .ref k :: st) hp x kc ks := by
  subst hv
  exact xw_iaload pc' hd hn he hi hj hb k9
end P40a
theorem b0 {p : Prop} {d : Decidable p} (h : nI (@ite Nat p d 1 0) = 0) : ¬ p := by
  intro q
  rw [if_pos q] at h
  exact absurd h (by decide)
theorem b1 {p : Prop} {d : Decidable p} (h : ¬ nI (@ite Nat p d 1 0) = 0) : p := by
  by_cases q : p
  · exact q
  · rw [if_neg q] at h
    exact absurd rfl h
theorem bIf {p : Prop} {d : Decidable p} (h : p) : nI (@ite Nat p d 1 0) = nI 1 := by rw [if_pos h]
theorem bIfn {p : Prop} {d : Decidable p} (h : ¬ p) : nI (@ite Nat p d 1 0) = nI 0 := by rw [if_neg h]
theorem bIff {p q : Prop} {d : Decidable p} {d' : Decidable q} (h : p ↔ q) : nI (@ite Nat p d 1 0) = nI (@ite Nat q d' 1 0) := by
  by_cases e : p
  · rw [if_pos e, if_pos (h.mp e)]
  · rw [if_neg e, if_neg (fun k => e (h.mpr k))]
abbrev xbt (a l h : Int32) : Prop := ¬ a < l ∧ ¬ h < a
theorem xlt_iff {k n : Nat} (hn : n < 2 ^ 31) (hk : k < 2 ^ 31) : xlt (nI k) n ↔ k < n := by
  constructor
  · intro h
    have h2 := h.2
    rw [nI_leI hn hk] at h2
    omega
  · exact xlt_k hn
/-- within 0 and n - 1 -/
theorem xbt_lt {p : Int32} {n : Nat} (hn : n < 2 ^ 31) : xbt p (nI 0) (nI n - nI 1) ↔ xlt p n := by
  by_cases h0 : p < 0
  · exact ⟨fun h => absurd h0 h.1, fun h => absurd h0 h.1⟩
  · obtain ⟨j, hj, rfl⟩ := nI_of h0
    rw [xlt_iff hn hj]
    cases n with
    | zero =>
      refine ⟨fun h => absurd h.2 (fun q => q ?_), fun h => absurd h (Nat.not_lt_zero _)⟩
      have e1 : (nI 0 - nI 1).toInt = -1 := by decide
      have e2 : ¬ (nI j).toInt < (0 : Int32).toInt := fun z => h0 (Int32.lt_iff_toInt_lt.mpr z)
      have e3 : (0 : Int32).toInt = 0 := by decide
      rw [e3] at e2
      exact Int32.lt_iff_toInt_lt.mpr (by rw [e1]; omega)
    | succ n =>
      rw [nI_1s (by omega)]
      constructor
      · intro h
        have h2 := h.2
        rw [nI_ltI (by omega) hj] at h2
        omega
      · intro h
        exact ⟨h0, by rw [nI_ltI (by omega) hj]; omega⟩
theorem xin_lt {p : Int32} {n : Nat} (hn : n + 1 < 2 ^ 31) : xin p 0 n ↔ xlt p (n + 1) := by
  rw [← xbt_lt hn, nI_1s (by omega)]
  exact Iff.rfl
theorem xcast_t {G : xG} {Y : xM} {args : List Value} {hp h1 : List xE} {x kc ks : Nat} {v : Value} (v2 : Value) (h : xMet G Y args hp x kc ks (xRetV v h1)) (e : v = v2) : xMet G Y args hp x kc ks (xRetV v2 h1) := by subst e; exact h
section P40
variable {G : xG} {hp : List xE} {x : Nat} {z : Nat → Int32} {st : Int32} {mo : List Value}
theorem S_M_within {a l h : Int32} : xMet G M_within [.int a, .int l, .int h] hp x 0 0 (xRetV (.int (nI (if xbt a l h then 1 else 0))) hp) := by
  by_cases g : xbt a l h
  · rw [if_pos g]
    refine xw_iload_n 1 dX5_within_0 rfl rfl ?_
    refine xw_iload_n 2 dX5_within_1 rfl rfl ?_
    refine xw_icmp_lt 14 5 dX5_within_2 rfl rfl (fun h2 => absurd h2 (g.1)) (fun h2 => ?_)
    refine xw_iload_n 6 dX5_within_5 rfl rfl ?_
    refine xw_iload_n 7 dX5_within_6 rfl rfl ?_
    refine xw_icmp_gt 14 10 dX5_within_7 rfl rfl (fun h7 => absurd h7 (g.2)) (fun h7 => ?_)
    refine xw_iconst 11 (nI 1) dX5_within_10 rfl (xofI 1) ?_
    refine xw_goto 15 dX5_within_11 rfl ?_
    exact xw_zreturn dX5_within_15 rfl (by decide) (⟨rfl, rfl⟩)
  · rw [if_neg g]
    by_cases g1 : a < l
    · skip
      refine xw_iload_n 1 dX5_within_0 rfl rfl ?_
      refine xw_iload_n 2 dX5_within_1 rfl rfl ?_
      refine xw_icmp_lt 14 5 dX5_within_2 rfl rfl (fun h2 => ?_) (fun h2 => absurd (g1) h2)
      refine xw_iconst 15 (nI 0) dX5_within_14 rfl (xofI 0) ?_
      exact xw_zreturn dX5_within_15 rfl (by decide) (⟨rfl, rfl⟩)
    · have g2 : h < a := Decidable.byContradiction fun q => g ⟨g1, q⟩
      refine xw_iload_n 1 dX5_within_0 rfl rfl ?_
      refine xw_iload_n 2 dX5_within_1 rfl rfl ?_
      refine xw_icmp_lt 14 5 dX5_within_2 rfl rfl (fun h2 => absurd h2 (g1)) (fun h2 => ?_)
      refine xw_iload_n 6 dX5_within_5 rfl rfl ?_
      refine xw_iload_n 7 dX5_within_6 rfl rfl ?_
      refine xw_icmp_gt 14 10 dX5_within_7 rfl rfl (fun h7 => ?_) (fun h7 => absurd (g2) h7)
      refine xw_iconst 15 (nI 0) dX5_within_14 rfl (xofI 0) ?_
      exact xw_zreturn dX5_within_15 rfl (by decide) (⟨rfl, rfl⟩)
theorem S_M_isColour {a : Int32} : xMet G M_isColour [.int a] hp x 0 0 (xRetV (.int (nI (if xlt a 6 then 1 else 0))) hp) := by
  refine xw_iload_n 1 dX5_isColour_0 rfl rfl ?_
  refine xw_iconst 2 (nI 0) dX5_isColour_1 rfl (xofI 0) ?_
  refine xw_iconst 3 (nI 5) dX5_isColour_2 rfl (xofI 5) ?_
  refine xw_pS 6 dX5_isColour_3 rfl ok_M_within s_X5_47 (xcast_t (.int (nI (if xlt a 6 then 1 else 0))) S_M_within (congrArg Value.int (bIff (xin_lt (n := 5) (by decide))))) (rfl) rfl rfl rfl rfl rfl rfl ?_
  exact xw_zreturn dX5_isColour_6 rfl (by split <;> decide) (⟨rfl, rfl⟩)
theorem S_M_isSetting {a : Int32} : xMet G M_isSetting [.int a] hp x 0 0 (xRetV (.int (nI (if xlt a 4 then 1 else 0))) hp) := by
  refine xw_iload_n 1 dX5_isSetting_0 rfl rfl ?_
  refine xw_iconst 2 (nI 0) dX5_isSetting_1 rfl (xofI 0) ?_
  refine xw_iconst 3 (nI 3) dX5_isSetting_2 rfl (xofI 3) ?_
  refine xw_pS 6 dX5_isSetting_3 rfl ok_M_within s_X5_47 (xcast_t (.int (nI (if xlt a 4 then 1 else 0))) S_M_within (congrArg Value.int (bIff (xin_lt (n := 3) (by decide))))) (rfl) rfl rfl rfl rfl rfl rfl ?_
  exact xw_zreturn dX5_isSetting_6 rfl (by split <;> decide) (⟨rfl, rfl⟩)
theorem S_M_isValue {a : Nat} {v : Int32} (ha : a < 4) : xMet G M_isValue [.int (nI a), .int v] hp x 0 0 (xRetV (.int (nI (if xin v (zlo a) (zhi a) then 1 else 0))) hp) := by
  rcases (show a = 0 ∨ a = 1 ∨ a = 2 ∨ a = 3 by omega) with rfl | rfl | rfl | rfl
  · show xMet _ _ _ _ _ _ _ (xRetV (.int (nI (if xin v 3 15 then 1 else 0))) hp)
    refine xw_iload_n 1 dX5_isValue_0 rfl rfl ?_
    refine xw_table [28, 36, 44] 53 dX5_isValue_1 rfl rfl rfl ⟨fun _ => ?_, fun h => absurd h (by decide), fun h => absurd h (by decide), trivial⟩ (fun h => absurd h (by decide))
    refine xw_iload_n 29 dX5_isValue_28 rfl rfl ?_
    refine xw_iconst 30 (nI 3) dX5_isValue_29 rfl (xofI 3) ?_
    refine xw_bipush 32 (nI 15) dX5_isValue_30 rfl (by decide) ?_
    refine xw_pS 35 dX5_isValue_32 rfl ok_M_within s_X5_47 (S_M_within) (rfl) rfl rfl rfl rfl rfl rfl ?_
    exact xw_zreturn dX5_isValue_35 rfl (by split <;> decide) (⟨rfl, rfl⟩)
  · show xMet _ _ _ _ _ _ _ (xRetV (.int (nI (if xin v 0 11 then 1 else 0))) hp)
    refine xw_iload_n 1 dX5_isValue_0 rfl rfl ?_
    refine xw_table [28, 36, 44] 53 dX5_isValue_1 rfl rfl rfl ⟨fun h => absurd h (by decide), fun _ => ?_, fun h => absurd h (by decide), trivial⟩ (fun h => absurd h (by decide))
    refine xw_iload_n 37 dX5_isValue_36 rfl rfl ?_
    refine xw_iconst 38 (nI 0) dX5_isValue_37 rfl (xofI 0) ?_
    refine xw_bipush 40 (nI 11) dX5_isValue_38 rfl (by decide) ?_
    refine xw_pS 43 dX5_isValue_40 rfl ok_M_within s_X5_47 (S_M_within) (rfl) rfl rfl rfl rfl rfl rfl ?_
    exact xw_zreturn dX5_isValue_43 rfl (by split <;> decide) (⟨rfl, rfl⟩)
  · show xMet _ _ _ _ _ _ _ (xRetV (.int (nI (if xin v 5 240 then 1 else 0))) hp)
    refine xw_iload_n 1 dX5_isValue_0 rfl rfl ?_
    refine xw_table [28, 36, 44] 53 dX5_isValue_1 rfl rfl rfl ⟨fun h => absurd h (by decide), fun h => absurd h (by decide), fun _ => ?_, trivial⟩ (fun h => absurd h (by decide))
    refine xw_iload_n 45 dX5_isValue_44 rfl rfl ?_
    refine xw_iconst 46 (nI 5) dX5_isValue_45 rfl (xofI 5) ?_
    refine xw_sipush 49 (nI 240) dX5_isValue_46 rfl (by decide) ?_
    refine xw_pS 52 dX5_isValue_49 rfl ok_M_within s_X5_47 (S_M_within) (rfl) rfl rfl rfl rfl rfl rfl ?_
    exact xw_zreturn dX5_isValue_52 rfl (by split <;> decide) (⟨rfl, rfl⟩)
  · show xMet _ _ _ _ _ _ _ (xRetV (.int (nI (if xin v 0 5 then 1 else 0))) hp)
    refine xw_iload_n 1 dX5_isValue_0 rfl rfl ?_
    refine xw_table [28, 36, 44] 53 dX5_isValue_1 rfl rfl rfl ⟨fun h => absurd h (by decide), fun h => absurd h (by decide), fun h => absurd h (by decide), trivial⟩ (fun _ => ?_)
    refine xw_iload_n 54 dX5_isValue_53 rfl rfl ?_
    refine xw_pS 57 dX5_isValue_54 rfl ok_M_isColour s_X5_108 (xcast_t (.int (nI (if xin v 0 5 then 1 else 0))) S_M_isColour (congrArg Value.int (bIff (xin_lt (n := 5) (by decide)).symm))) (rfl) rfl rfl rfl rfl rfl rfl ?_
    exact xw_zreturn dX5_isValue_57 rfl (by split <;> decide) (⟨rfl, rfl⟩)
theorem S_M_chartAt {r c : Nat} (O : hp[71]? = some (.inr (5, .ref 72 :: .int st :: mo))) (Z : hp[72]? = some (.inl (0, 435, .inl z))) (h : r * 12 + c < 120) : xMet G M_chartAt [.ref 71, .int (nI r), .int (nI c)] hp x 0 0 (xRetV (.int (z (27 + (r * 12 + c)))) hp) := by
  refine xw_aload_n 1 dX5_chartAt_0 rfl rfl rfl ?_
  refine xw_get 4 dX5_chartAt_1 rfl f_X5_7 (O) rfl ?_
  refine xw_bipush 6 (nI 27) dX5_chartAt_4 rfl (by decide) ?_
  refine xw_bipush 8 (nI 12) dX5_chartAt_6 rfl (by decide) ?_
  refine xw_iload_n 9 dX5_chartAt_8 rfl rfl ?_
  refine xw_imul 10 dX5_chartAt_9 rfl ?_
  refine xw_iadd 11 dX5_chartAt_10 rfl ?_
  refine xw_iload_n 12 dX5_chartAt_11 rfl rfl ?_
  refine xw_iadd 13 dX5_chartAt_12 rfl ?_
  rw [pk_mul, nI_add, nI_add]
  refine xw_ialv (j := _) 14 dX5_chartAt_13 rfl (Z) (rfl) (by omega) (by omega) (congrArg z (show 27 + 12 * r + c = 27 + (r * 12 + c) by omega)) ?_
  exact xw_ireturn dX5_chartAt_14 rfl (⟨rfl, rfl⟩)
theorem S_M_roundOf {n : Nat} (O : hp[71]? = some (.inr (5, .ref 72 :: .int st :: mo))) (Z : hp[72]? = some (.inl (0, 435, .inl z))) (I : xInv z) (hn : n ≤ 1000) : xMet G M_roundOf [.ref 71, .int (nI n)] hp x 0 0 (xRetV (.int (nI (n / zI z 0))) hp) := by
  have hA1 := I.iA.2.1
  have hA2 := I.iA.2.2
  have hS2 := I.iS.2.2
  have hR1 := I.iR.2.1
  have hR2 := I.iR.2.2
  have hC1 := I.iC.2.1
  have hC2 := I.iC.2.2
  have hM2 := I.iM.2.2
  have hK1 := I.iK.2.1
  have hK2 := I.iK.2.2
  refine xw_iload_n 1 dX5_roundOf_0 rfl rfl ?_
  refine xw_aload_n 2 dX5_roundOf_1 rfl rfl rfl ?_
  refine xw_get 5 dX5_roundOf_2 rfl f_X5_7 (O) rfl ?_
  refine xw_iconst 6 (nI 0) dX5_roundOf_5 rfl (xofI 0) ?_
  refine xw_ialv (j := 0) 7 dX5_roundOf_6 rfl (Z) (rfl) (by decide) (by decide) (I.iA.1) ?_
  refine xw_idiv 8 dX5_roundOf_7 rfl (nI_ne0 (by omega) (by omega)) ?_
  rw [pk_div (by omega) (by omega) (by omega)]
  exact xw_ireturn dX5_roundOf_8 rfl (⟨rfl, rfl⟩)
theorem S_M_rowOf {n : Nat} (O : hp[71]? = some (.inr (5, .ref 72 :: .int st :: mo))) (Z : hp[72]? = some (.inl (0, 435, .inl z))) (I : xInv z) (hn : n ≤ 1000) : xMet G M_rowOf [.ref 71, .int (nI n)] hp x 0 0 (xRetV (.int (nI (n / zI z 0 % zI z 4))) hp) := by
  have hA1 := I.iA.2.1
  have hA2 := I.iA.2.2
  have hS2 := I.iS.2.2
  have hR1 := I.iR.2.1
  have hR2 := I.iR.2.2
  have hC1 := I.iC.2.1
  have hC2 := I.iC.2.2
  have hM2 := I.iM.2.2
  have hK1 := I.iK.2.1
  have hK2 := I.iK.2.2
  have e0 : n / zI z 0 ≤ n := Nat.div_le_self n _
  refine xw_aload_n 1 dX5_rowOf_0 rfl rfl rfl ?_
  refine xw_iload_n 2 dX5_rowOf_1 rfl rfl ?_
  refine xw_pV 5 dX5_rowOf_2 rfl ok_M_roundOf s_X5_51 (S_M_roundOf O Z I hn) (rfl) (O) rfl rfl rfl rfl rfl rfl rfl ?_
  refine xw_aload_n 6 dX5_rowOf_5 rfl rfl rfl ?_
  refine xw_get 9 dX5_rowOf_6 rfl f_X5_7 (O) rfl ?_
  refine xw_iconst 10 (nI 4) dX5_rowOf_9 rfl (xofI 4) ?_
  refine xw_ialv (j := 4) 11 dX5_rowOf_10 rfl (Z) (rfl) (by decide) (by decide) (I.iR.1) ?_
  refine xw_irem 12 dX5_rowOf_11 rfl (nI_ne0 (by omega) (by omega)) ?_
  rw [pk_rem (by omega) (by omega) (by omega)]
  exact xw_ireturn dX5_rowOf_12 rfl (⟨rfl, rfl⟩)
theorem S_M_columnOf {n : Nat} (O : hp[71]? = some (.inr (5, .ref 72 :: .int st :: mo))) (Z : hp[72]? = some (.inl (0, 435, .inl z))) (I : xInv z) (hn : n ≤ 1000) : xMet G M_columnOf [.ref 71, .int (nI n)] hp x 0 0 (xRetV (.int (nI ((n % zI z 0 + zI z 1 * (n / zI z 0)) % zI z 5))) hp) := by
  have hA1 := I.iA.2.1
  have hA2 := I.iA.2.2
  have hS2 := I.iS.2.2
  have hR1 := I.iR.2.1
  have hR2 := I.iR.2.2
  have hC1 := I.iC.2.1
  have hC2 := I.iC.2.2
  have hM2 := I.iM.2.2
  have hK1 := I.iK.2.1
  have hK2 := I.iK.2.2
  have e0 : n / zI z 0 ≤ n := Nat.div_le_self n _
  have e1 : n % zI z 0 ≤ n := Nat.mod_le n _
  have e2 : zI z 1 * (n / zI z 0) ≤ 11 * n := Nat.mul_le_mul hS2 e0
  refine xw_iload_n 1 dX5_columnOf_0 rfl rfl ?_
  refine xw_aload_n 2 dX5_columnOf_1 rfl rfl rfl ?_
  refine xw_get 5 dX5_columnOf_2 rfl f_X5_7 (O) rfl ?_
  refine xw_iconst 6 (nI 0) dX5_columnOf_5 rfl (xofI 0) ?_
  refine xw_ialv (j := 0) 7 dX5_columnOf_6 rfl (Z) (rfl) (by decide) (by decide) (I.iA.1) ?_
  refine xw_irem 8 dX5_columnOf_7 rfl (nI_ne0 (by omega) (by omega)) ?_
  rw [pk_rem (by omega) (by omega) (by omega)]
  refine xw_aload_n 9 dX5_columnOf_8 rfl rfl rfl ?_
  refine xw_get 12 dX5_columnOf_9 rfl f_X5_7 (O) rfl ?_
  refine xw_iconst 13 (nI 1) dX5_columnOf_12 rfl (xofI 1) ?_
  refine xw_ialv (j := 1) 14 dX5_columnOf_13 rfl (Z) (rfl) (by decide) (by decide) (I.iS.1) ?_
  refine xw_aload_n 15 dX5_columnOf_14 rfl rfl rfl ?_
  refine xw_iload_n 16 dX5_columnOf_15 rfl rfl ?_
  refine xw_pV 19 dX5_columnOf_16 rfl ok_M_roundOf s_X5_51 (S_M_roundOf O Z I hn) (rfl) (O) rfl rfl rfl rfl rfl rfl rfl ?_
  refine xw_imul 20 dX5_columnOf_19 rfl ?_
  refine xw_iadd 21 dX5_columnOf_20 rfl ?_
  rw [pk_mul, nI_add]
  refine xw_aload_n 22 dX5_columnOf_21 rfl rfl rfl ?_
  refine xw_get 25 dX5_columnOf_22 rfl f_X5_7 (O) rfl ?_
  refine xw_iconst 26 (nI 5) dX5_columnOf_25 rfl (xofI 5) ?_
  refine xw_ialv (j := 5) 27 dX5_columnOf_26 rfl (Z) (rfl) (by decide) (by decide) (I.iC.1) ?_
  refine xw_irem 28 dX5_columnOf_27 rfl (nI_ne0 (by omega) (by omega)) ?_
  rw [pk_rem (by omega) (by omega) (by omega)]
  exact xw_ireturn dX5_columnOf_28 rfl (⟨rfl, rfl⟩)
theorem S_M_colourOf {n : Nat} (O : hp[71]? = some (.inr (5, .ref 72 :: .int st :: mo))) (Z : hp[72]? = some (.inl (0, 435, .inl z))) (I : xInv z) (hn : n ≤ 1000) : xMet G M_colourOf [.ref 71, .int (nI n)] hp x 0 0 (xRetV (.int (pcol z n)) hp) := by
  have hpl := I.pl n
  refine xw_aload_n 1 dX5_colourOf_0 rfl rfl rfl ?_
  refine xw_aload_n 2 dX5_colourOf_1 rfl rfl rfl ?_
  refine xw_iload_n 3 dX5_colourOf_2 rfl rfl ?_
  refine xw_pV 6 dX5_colourOf_3 rfl ok_M_rowOf s_X5_55 (S_M_rowOf O Z I hn) (rfl) (O) rfl rfl rfl rfl rfl rfl rfl ?_
  refine xw_aload_n 7 dX5_colourOf_6 rfl rfl rfl ?_
  refine xw_iload_n 8 dX5_colourOf_7 rfl rfl ?_
  refine xw_pV 11 dX5_colourOf_8 rfl ok_M_columnOf s_X5_58 (S_M_columnOf O Z I hn) (rfl) (O) rfl rfl rfl rfl rfl rfl rfl ?_
  refine xw_pV 14 dX5_colourOf_11 rfl ok_M_chartAt s_X5_61 (S_M_chartAt O Z hpl) (rfl) (O) rfl rfl rfl rfl rfl rfl rfl ?_
  exact xw_ireturn dX5_colourOf_14 rfl (⟨rfl, rfl⟩)
theorem S_M_hides {n : Nat} (O : hp[71]? = some (.inr (5, .ref 72 :: .int st :: mo))) (Z : hp[72]? = some (.inl (0, 435, .inl z))) (I : xInv z) (hn : n ≤ 1000) : xMet G M_hides [.ref 71, .int (nI n)] hp x 0 0 (xRetV (.int (nI (if zhd z n = true then 1 else 0))) hp) := by
  refine xw_aload_n 1 dX5_hides_0 rfl rfl rfl ?_
  refine xw_iload_n 2 dX5_hides_1 rfl rfl ?_
  refine xw_pV 5 dX5_hides_2 rfl ok_M_colourOf s_X5_65 (S_M_colourOf O Z I hn) (rfl) (O) rfl rfl rfl rfl rfl rfl rfl ?_
  refine xw_aload_n 6 dX5_hides_5 rfl rfl rfl ?_
  refine xw_get 9 dX5_hides_6 rfl f_X5_7 (O) rfl ?_
  refine xw_iconst 10 (nI 3) dX5_hides_9 rfl (xofI 3) ?_
  refine xw_ialv (j := 3) 11 dX5_hides_10 rfl (Z) (rfl) (by decide) (by decide) (rfl) ?_
  refine xw_icmp_ne 18 14 dX5_hides_11 rfl rfl (fun h11 => ?_) (fun h11 => ?_)
  · rw [if_neg (show ¬ zhd z n = true from fun q => h11 (of_decide_eq_true q))]
    refine xw_iconst 19 (nI 0) dX5_hides_18 rfl (xofI 0) ?_
    exact xw_zreturn dX5_hides_19 rfl (by decide) (⟨rfl, rfl⟩)
  · rw [if_pos (show zhd z n = true from decide_eq_true h11)]
    refine xw_iconst 15 (nI 1) dX5_hides_14 rfl (xofI 1) ?_
    refine xw_goto 19 dX5_hides_15 rfl ?_
    exact xw_zreturn dX5_hides_19 rfl (by decide) (⟨rfl, rfl⟩)
theorem S_M_isWrong {n : Nat} (O : hp[71]? = some (.inr (5, .ref 72 :: .int st :: mo))) (Z : hp[72]? = some (.inl (0, 435, .inl z))) (I : xInv z) (hn : n < 240) : xMet G M_isWrong [.ref 71, .int (nI n)] hp x 0 0 (xRetV (.int (nI (if zwr z n = true then 1 else 0))) hp) := by
  refine xw_aload_n 1 dX5_isWrong_0 rfl rfl rfl ?_
  refine xw_get 4 dX5_isWrong_1 rfl f_X5_7 (O) rfl ?_
  refine xw_sipush 7 (nI 147) dX5_isWrong_4 rfl (by decide) ?_
  refine xw_iload_n 8 dX5_isWrong_7 rfl rfl ?_
  refine xw_iadd 9 dX5_isWrong_8 rfl ?_
  refine xw_iaload (j := _) 10 dX5_isWrong_9 rfl (Z) (nI_add _ _) (by omega) (by omega) ?_
  refine xw_aload_n 11 dX5_isWrong_10 rfl rfl rfl ?_
  refine xw_iload_n 12 dX5_isWrong_11 rfl rfl ?_
  refine xw_pV 15 dX5_isWrong_12 rfl ok_M_colourOf s_X5_65 (S_M_colourOf O Z I (by omega)) (rfl) (O) rfl rfl rfl rfl rfl rfl rfl ?_
  refine xw_icmp_eq 22 18 dX5_isWrong_15 rfl rfl (fun h15 => ?_) (fun h15 => ?_)
  · rw [if_neg (show ¬ zwr z n = true from fun q => of_decide_eq_true q h15)]
    refine xw_iconst 23 (nI 0) dX5_isWrong_22 rfl (xofI 0) ?_
    exact xw_zreturn dX5_isWrong_23 rfl (by decide) (⟨rfl, rfl⟩)
  · rw [if_pos (show zwr z n = true from decide_eq_true h15)]
    refine xw_iconst 19 (nI 1) dX5_isWrong_18 rfl (xofI 1) ?_
    refine xw_goto 23 dX5_isWrong_19 rfl ?_
    exact xw_zreturn dX5_isWrong_23 rfl (by decide) (⟨rfl, rfl⟩)
theorem S_M_b {ov : Option Value} {v : Value} {h1 : List xE} {o : xO} {hp' : List xE} (h : xRet ov h1 o hp') : o = .inl ov ∧ hp' = h1 := h
theorem S_M_wrongFrom {b e : Nat} (O : hp[71]? = some (.inr (5, .ref 72 :: .int st :: mo))) (Z : hp[72]? = some (.inl (0, 435, .inl z))) (I : xInv z) (he : e ≤ 240) (hb : b ≤ 1000) : xMet G M_wrongFrom [.ref 71, .int (nI b), .int (nI e)] hp x 0 0 (xRetV (.int (nI (xctr (zwr z) b e))) hp) := by
  have loop : ∀ (t i : Nat), i + t = e - b → xW G M_wrongFrom (xRetV (.int (nI (xctr (zwr z) b e))) hp) 5 [(4, .int (nI (b + i))), (3, .int (nI (xct (fun k => zwr z (b + k)) i))), (0, .ref 71), (1, .int (nI b)), (2, .int (nI e))] [] hp x 0 0 := by
    intro t
    induction t with
    | zero =>
      intro i hi
      have e1 : i = e - b := by omega
      subst e1
      refine xw_iload 7 dX5_wrongFrom_5 rfl rfl ?_
      refine xw_iload_n 8 dX5_wrongFrom_7 rfl rfl ?_
      refine xw_icmp_ge 34 11 dX5_wrongFrom_8 rfl rfl (fun h8 => ?_) (fun h8 => absurd (nI_le (by omega) (by omega)) h8)
      refine xw_iload_n 35 dX5_wrongFrom_34 rfl rfl ?_
      exact xw_ireturn dX5_wrongFrom_35 rfl (⟨rfl, rfl⟩)
    | succ t ih =>
      intro i hi
      have ih := ih (i + 1) (by omega)
      refine xw_iload 7 dX5_wrongFrom_5 rfl rfl ?_
      refine xw_iload_n 8 dX5_wrongFrom_7 rfl rfl ?_
      refine xw_icmp_ge 34 11 dX5_wrongFrom_8 rfl rfl (fun h8 => absurd h8 (nI_ge (by omega) (by omega))) (fun h8 => ?_)
      refine xw_iload_n 12 dX5_wrongFrom_11 rfl rfl ?_
      refine xw_aload_n 13 dX5_wrongFrom_12 rfl rfl rfl ?_
      refine xw_iload 15 dX5_wrongFrom_13 rfl rfl ?_
      refine xw_pV 18 dX5_wrongFrom_15 rfl ok_M_isWrong s_X5_68 (S_M_isWrong O Z I (by omega)) (rfl) (O) rfl rfl rfl rfl rfl rfl rfl ?_
      refine xw_if_eq 25 21 dX5_wrongFrom_18 rfl rfl (fun h18 => ?_) (fun h18 => ?_)
      · refine xw_iconst 26 (nI 0) dX5_wrongFrom_25 rfl (xofI 0) ?_
        refine xw_iadd 27 dX5_wrongFrom_26 rfl ?_
        rw [nI_add]
        refine xw_istore_n (ls' := [(3, _), (4, _), (0, _), (1, _), (2, _)]) 28 dX5_wrongFrom_27 rfl rfl rfl ?_
        refine xw_iinc (ls' := [(4, _), (3, _), (0, _), (1, _), (2, _)]) 31 _ dX5_wrongFrom_28 rfl rfl (xnI_inc _) rfl rfl ?_
        refine xw_goto 5 dX5_wrongFrom_31 rfl ?_
        have e1 : xct (fun k => zwr z (b + k)) (i + 1) = xct (fun k => zwr z (b + k)) i := xct_n (b0 h18)
        rw [e1] at ih
        exact xW.pick [0, 1, 2, 3, 4] rfl (ih)
      · refine xw_iconst 22 (nI 1) dX5_wrongFrom_21 rfl (xofI 1) ?_
        refine xw_goto 26 dX5_wrongFrom_22 rfl ?_
        refine xw_iadd 27 dX5_wrongFrom_26 rfl ?_
        rw [nI_add]
        refine xw_istore_n (ls' := [(3, _), (4, _), (0, _), (1, _), (2, _)]) 28 dX5_wrongFrom_27 rfl rfl rfl ?_
        refine xw_iinc (ls' := [(4, _), (3, _), (0, _), (1, _), (2, _)]) 31 _ dX5_wrongFrom_28 rfl rfl (xnI_inc _) rfl rfl ?_
        refine xw_goto 5 dX5_wrongFrom_31 rfl ?_
        have e1 : xct (fun k => zwr z (b + k)) (i + 1) = xct (fun k => zwr z (b + k)) i + 1 := xct_y (b1 h18)
        rw [e1] at ih
        exact xW.pick [0, 1, 2, 3, 4] rfl (ih)
  refine xw_iconst 1 (nI 0) dX5_wrongFrom_0 rfl (xofI 0) ?_
  refine xw_istore_n (ls' := [(3, _), (0, _), (1, _), (2, _)]) 2 dX5_wrongFrom_1 rfl rfl rfl ?_
  refine xw_iload_n 3 dX5_wrongFrom_2 rfl rfl ?_
  refine xw_istore (ls' := [(4, _), (3, _), (0, _), (1, _), (2, _)]) 5 dX5_wrongFrom_3 rfl rfl rfl ?_
  exact loop (e - b) 0 (by omega)
theorem S_M_wrongs (O : hp[71]? = some (.inr (5, .ref 72 :: .int st :: mo))) (Z : hp[72]? = some (.inl (0, 435, .inl z))) (I : xInv z) : xMet G M_wrongs [.ref 71] hp x 0 0 (xRetV (.int (nI (xctr (zwr z) 0 (zI z 6)))) hp) := by
  refine xw_aload_n 1 dX5_wrongs_0 rfl rfl rfl ?_
  refine xw_iconst 2 (nI 0) dX5_wrongs_1 rfl (xofI 0) ?_
  refine xw_aload_n 3 dX5_wrongs_2 rfl rfl rfl ?_
  refine xw_get 6 dX5_wrongs_3 rfl f_X5_7 (O) rfl ?_
  refine xw_bipush 8 (nI 6) dX5_wrongs_6 rfl (by decide) ?_
  refine xw_ialv (j := 6) 9 dX5_wrongs_8 rfl (Z) (rfl) (by decide) (by decide) (I.iM.1) ?_
  refine xw_pV 12 dX5_wrongs_9 rfl ok_M_wrongFrom s_X5_72 (S_M_wrongFrom O Z I I.iM.2.2 (by decide)) (rfl) (O) rfl rfl rfl rfl rfl rfl rfl ?_
  exact xw_ireturn dX5_wrongs_12 rfl (⟨rfl, rfl⟩)
theorem S_M_canTurn {how : Nat} (O : hp[71]? = some (.inr (5, .ref 72 :: .int st :: mo))) (Z : hp[72]? = some (.inl (0, 435, .inl z))) (I : xInv z) (hh : how < 5) : xMet G M_canTurn [.ref 71, .int (nI how)] hp x 0 0 (xRetV (.int (nI (if how ≠ 4 ∨ zI z 5 ≤ 10 then 1 else 0))) hp) := by
  have hA1 := I.iA.2.1
  have hA2 := I.iA.2.2
  have hS2 := I.iS.2.2
  have hR1 := I.iR.2.1
  have hR2 := I.iR.2.2
  have hC1 := I.iC.2.1
  have hC2 := I.iC.2.2
  have hM2 := I.iM.2.2
  have hK1 := I.iK.2.1
  have hK2 := I.iK.2.2
  refine xw_iload_n 1 dX5_canTurn_0 rfl rfl ?_
  refine xw_iconst 2 (nI 4) dX5_canTurn_1 rfl (xofI 4) ?_
  refine xw_icmp_ne 16 5 dX5_canTurn_2 rfl rfl (fun h2 => ?_) (fun h2 => ?_)
  · rw [if_pos (Or.inl (fun q => h2 (by rw [q])))]
    refine xw_iconst 17 (nI 1) dX5_canTurn_16 rfl (xofI 1) ?_
    refine xw_goto 21 dX5_canTurn_17 rfl ?_
    exact xw_zreturn dX5_canTurn_21 rfl (by decide) (⟨rfl, rfl⟩)
  · refine xw_aload_n 6 dX5_canTurn_5 rfl rfl rfl ?_
    refine xw_get 9 dX5_canTurn_6 rfl f_X5_7 (O) rfl ?_
    refine xw_iconst 10 (nI 5) dX5_canTurn_9 rfl (xofI 5) ?_
    refine xw_ialv (j := 5) 11 dX5_canTurn_10 rfl (Z) (rfl) (by decide) (by decide) (I.iC.1) ?_
    refine xw_bipush 13 (nI 10) dX5_canTurn_11 rfl (by decide) ?_
    refine xw_icmp_gt 20 16 dX5_canTurn_13 rfl rfl (fun h13 => ?_) (fun h13 => ?_)
    · rw [nI_ltI (by decide) (by omega)] at h13
      rw [nI_eq (by omega) (by decide)] at h2
      rw [if_neg (by omega)]
      refine xw_iconst 21 (nI 0) dX5_canTurn_20 rfl (xofI 0) ?_
      exact xw_zreturn dX5_canTurn_21 rfl (by decide) (⟨rfl, rfl⟩)
    · rw [nI_ltI (by decide) (by omega)] at h13
      rw [if_pos (Or.inr (by omega))]
      refine xw_iconst 17 (nI 1) dX5_canTurn_16 rfl (xofI 1) ?_
      refine xw_goto 21 dX5_canTurn_17 rfl ?_
      exact xw_zreturn dX5_canTurn_21 rfl (by decide) (⟨rfl, rfl⟩)
theorem S_M_isCell {a b : Int32} (O : hp[71]? = some (.inr (5, .ref 72 :: .int st :: mo))) (Z : hp[72]? = some (.inl (0, 435, .inl z))) (I : xInv z) : xMet G M_isCell [.ref 71, .int a, .int b] hp x 0 0 (xRetV (.int (nI (if xlt a (zI z 4) ∧ xlt b (zI z 5) then 1 else 0))) hp) := by
  have hA1 := I.iA.2.1
  have hA2 := I.iA.2.2
  have hS2 := I.iS.2.2
  have hR1 := I.iR.2.1
  have hR2 := I.iR.2.2
  have hC1 := I.iC.2.1
  have hC2 := I.iC.2.2
  have hM2 := I.iM.2.2
  have hK1 := I.iK.2.1
  have hK2 := I.iK.2.2
  refine xw_iload_n 1 dX5_isCell_0 rfl rfl ?_
  refine xw_iconst 2 (nI 0) dX5_isCell_1 rfl (xofI 0) ?_
  refine xw_aload_n 3 dX5_isCell_2 rfl rfl rfl ?_
  refine xw_get 6 dX5_isCell_3 rfl f_X5_7 (O) rfl ?_
  refine xw_iconst 7 (nI 4) dX5_isCell_6 rfl (xofI 4) ?_
  refine xw_ialv (j := 4) 8 dX5_isCell_7 rfl (Z) (rfl) (by decide) (by decide) (I.iR.1) ?_
  refine xw_iconst 9 (nI 1) dX5_isCell_8 rfl (xofI 1) ?_
  refine xw_isub 10 dX5_isCell_9 rfl ?_
  refine xw_pS 13 dX5_isCell_10 rfl ok_M_within s_X5_47 (xcast_t (.int (nI (if xlt a (zI z 4) then 1 else 0))) S_M_within (congrArg Value.int (bIff (xbt_lt (n := zI z 4) (by omega))))) (rfl) rfl rfl rfl rfl rfl rfl ?_
  refine xw_if_eq 36 16 dX5_isCell_13 rfl rfl (fun h13 => ?_) (fun h13 => ?_)
  · rw [if_neg (fun q => b0 h13 q.1)]
    refine xw_iconst 37 (nI 0) dX5_isCell_36 rfl (xofI 0) ?_
    exact xw_zreturn dX5_isCell_37 rfl (by decide) (⟨rfl, rfl⟩)
  · refine xw_iload_n 17 dX5_isCell_16 rfl rfl ?_
    refine xw_iconst 18 (nI 0) dX5_isCell_17 rfl (xofI 0) ?_
    refine xw_aload_n 19 dX5_isCell_18 rfl rfl rfl ?_
    refine xw_get 22 dX5_isCell_19 rfl f_X5_7 (O) rfl ?_
    refine xw_iconst 23 (nI 5) dX5_isCell_22 rfl (xofI 5) ?_
    refine xw_ialv (j := 5) 24 dX5_isCell_23 rfl (Z) (rfl) (by decide) (by decide) (I.iC.1) ?_
    refine xw_iconst 25 (nI 1) dX5_isCell_24 rfl (xofI 1) ?_
    refine xw_isub 26 dX5_isCell_25 rfl ?_
    refine xw_pS 29 dX5_isCell_26 rfl ok_M_within s_X5_47 (xcast_t (.int (nI (if xlt b (zI z 5) then 1 else 0))) S_M_within (congrArg Value.int (bIff (xbt_lt (n := zI z 5) (by omega))))) (rfl) rfl rfl rfl rfl rfl rfl ?_
    refine xw_if_eq 36 32 dX5_isCell_29 rfl rfl (fun h29 => ?_) (fun h29 => ?_)
    · rw [if_neg (fun q => b0 h29 q.2)]
      refine xw_iconst 37 (nI 0) dX5_isCell_36 rfl (xofI 0) ?_
      exact xw_zreturn dX5_isCell_37 rfl (by decide) (⟨rfl, rfl⟩)
    · rw [if_pos ⟨b1 h13, b1 h29⟩]
      refine xw_iconst 33 (nI 1) dX5_isCell_32 rfl (xofI 1) ?_
      refine xw_goto 37 dX5_isCell_33 rfl ?_
      exact xw_zreturn dX5_isCell_37 rfl (by decide) (⟨rfl, rfl⟩)
theorem S_M_isCellN {a b : Nat} (O : hp[71]? = some (.inr (5, .ref 72 :: .int st :: mo))) (Z : hp[72]? = some (.inl (0, 435, .inl z))) (I : xInv z) (ha : a < 100) (hb : b < 100) : xMet G M_isCell [.ref 71, .int (nI a), .int (nI b)] hp x 0 0 (xRetV (.int (nI (if a < zI z 4 ∧ b < zI z 5 then 1 else 0))) hp) := by
  have hA1 := I.iA.2.1
  have hA2 := I.iA.2.2
  have hS2 := I.iS.2.2
  have hR1 := I.iR.2.1
  have hR2 := I.iR.2.2
  have hC1 := I.iC.2.1
  have hC2 := I.iC.2.2
  have hM2 := I.iM.2.2
  have hK1 := I.iK.2.1
  have hK2 := I.iK.2.2
  refine xcast_v (S_M_isCell O Z I) (congrArg Value.int (bIff ?_))
  rw [xlt_iff (by omega) (by omega), xlt_iff (by omega) (by omega)]
theorem S_M_onLast (O : hp[71]? = some (.inr (5, .ref 72 :: .int st :: mo))) (Z : hp[72]? = some (.inl (0, 435, .inl z))) (I : xInv z) : xMet G M_onLast [.ref 71] hp x 0 0 (xRetV (.int (nI (zlen z (zI z 7 - 1)))) hp) := by
  have hA1 := I.iA.2.1
  have hA2 := I.iA.2.2
  have hS2 := I.iS.2.2
  have hR1 := I.iR.2.1
  have hR2 := I.iR.2.2
  have hC1 := I.iC.2.1
  have hC2 := I.iC.2.2
  have hM2 := I.iM.2.2
  have hK1 := I.iK.2.1
  have hK2 := I.iK.2.2
  have hB := I.iB (zI z 7 - 1) (by omega)
  have e1 : zlen z (zI z 7 - 1) = zI z 6 - zI z (387 + (zI z 7 - 1)) := by
    unfold zlen zend
    rw [if_neg (by omega)]
  refine xw_aload_n 1 dX5_onLast_0 rfl rfl rfl ?_
  refine xw_get 4 dX5_onLast_1 rfl f_X5_7 (O) rfl ?_
  refine xw_bipush 6 (nI 6) dX5_onLast_4 rfl (by decide) ?_
  refine xw_ialv (j := 6) 7 dX5_onLast_6 rfl (Z) (rfl) (by decide) (by decide) (I.iM.1) ?_
  refine xw_aload_n 8 dX5_onLast_7 rfl rfl rfl ?_
  refine xw_get 11 dX5_onLast_8 rfl f_X5_7 (O) rfl ?_
  refine xw_sipush 14 (nI 387) dX5_onLast_11 rfl (by decide) ?_
  refine xw_aload_n 15 dX5_onLast_14 rfl rfl rfl ?_
  refine xw_get 18 dX5_onLast_15 rfl f_X5_7 (O) rfl ?_
  refine xw_bipush 20 (nI 7) dX5_onLast_18 rfl (by decide) ?_
  refine xw_ialv (j := 7) 21 dX5_onLast_20 rfl (Z) (rfl) (by decide) (by decide) (I.iK.1) ?_
  refine xw_iadd 22 dX5_onLast_21 rfl ?_
  rw [nI_add]
  refine xw_iconst 23 (nI 1) dX5_onLast_22 rfl (xofI 1) ?_
  refine xw_isub 24 dX5_onLast_23 rfl ?_
  rw [nI_1s (by omega)]
  refine xw_ialv (j := _) 25 dX5_onLast_24 rfl (Z) (rfl) (by omega) (by omega) ((congrArg z (show 387 + zI z 7 - 1 = 387 + (zI z 7 - 1) by omega)).trans hB.1) ?_
  refine xw_isub 26 dX5_onLast_25 rfl ?_
  rw [pk_sub hB.2.2, ← e1]
  exact xw_ireturn dX5_onLast_26 rfl (⟨rfl, rfl⟩)
theorem S_M_isBead {a : Int32} (O : hp[71]? = some (.inr (5, .ref 72 :: .int st :: mo))) (Z : hp[72]? = some (.inl (0, 435, .inl z))) (I : xInv z) : xMet G M_isBead [.ref 71, .int a] hp x 0 0 (xRetV (.int (nI (if xlt a (zI z 6) then 1 else 0))) hp) := by
  have hA1 := I.iA.2.1
  have hA2 := I.iA.2.2
  have hS2 := I.iS.2.2
  have hR1 := I.iR.2.1
  have hR2 := I.iR.2.2
  have hC1 := I.iC.2.1
  have hC2 := I.iC.2.2
  have hM2 := I.iM.2.2
  have hK1 := I.iK.2.1
  have hK2 := I.iK.2.2
  refine xw_iload_n 1 dX5_isBead_0 rfl rfl ?_
  refine xw_iconst 2 (nI 0) dX5_isBead_1 rfl (xofI 0) ?_
  refine xw_aload_n 3 dX5_isBead_2 rfl rfl rfl ?_
  refine xw_get 6 dX5_isBead_3 rfl f_X5_7 (O) rfl ?_
  refine xw_bipush 8 (nI 6) dX5_isBead_6 rfl (by decide) ?_
  refine xw_ialv (j := 6) 9 dX5_isBead_8 rfl (Z) (rfl) (by decide) (by decide) (I.iM.1) ?_
  refine xw_iconst 10 (nI 1) dX5_isBead_9 rfl (xofI 1) ?_
  refine xw_isub 11 dX5_isBead_10 rfl ?_
  refine xw_pS 14 dX5_isBead_11 rfl ok_M_within s_X5_47 (xcast_t (.int (nI (if xlt a (zI z 6) then 1 else 0))) S_M_within (congrArg Value.int (bIff (xbt_lt (n := zI z 6) (by omega))))) (rfl) rfl rfl rfl rfl rfl rfl ?_
  exact xw_zreturn dX5_isBead_14 rfl (by split <;> decide) (⟨rfl, rfl⟩)
theorem S_M_stringOf {b : Nat} (O : hp[71]? = some (.inr (5, .ref 72 :: .int st :: mo))) (Z : hp[72]? = some (.inl (0, 435, .inl z))) (I : xInv z) (hb : b < 2 ^ 31) : xMet G M_stringOf [.ref 71, .int (nI b)] hp x 0 0 (xRetV (.int (nI (zstr z b))) hp) := by
  have hA1 := I.iA.2.1
  have hA2 := I.iA.2.2
  have hS2 := I.iS.2.2
  have hR1 := I.iR.2.1
  have hR2 := I.iR.2.2
  have hC1 := I.iC.2.1
  have hC2 := I.iC.2.2
  have hM2 := I.iM.2.2
  have hK1 := I.iK.2.1
  have hK2 := I.iK.2.2
  have loop : ∀ (i : Nat), i < zI z 7 → xW G M_stringOf (xRetV (.int (nI (xdown (fun s => decide (zI z (387 + s) ≤ b)) i))) hp) 10 [(2, .int (nI i)), (0, .ref 71), (1, .int (nI b))] [] hp x 0 0 := by
    intro i
    induction i with
    | zero =>
      intro hi
      have hB := I.iB 0 hi
      have h0 : zI z (387 + 0) = 0 := I.i0
      refine xw_aload_n 11 dX5_stringOf_10 rfl rfl rfl ?_
      refine xw_get 14 dX5_stringOf_11 rfl f_X5_7 (O) rfl ?_
      refine xw_sipush 17 (nI 387) dX5_stringOf_14 rfl (by decide) ?_
      refine xw_iload_n 18 dX5_stringOf_17 rfl rfl ?_
      refine xw_iadd 19 dX5_stringOf_18 rfl ?_
      refine xw_ialv (j := _) 20 dX5_stringOf_19 rfl (Z) (nI_add _ _) (by omega) (by omega) (hB.1) ?_
      refine xw_iload_n 21 dX5_stringOf_20 rfl rfl ?_
      refine xw_icmp_le 30 24 dX5_stringOf_21 rfl rfl (fun h21 => ?_) (fun h21 => absurd (nI_le (by omega) hb) h21)
      refine xw_iload_n 31 dX5_stringOf_30 rfl rfl ?_
      exact xw_ireturn dX5_stringOf_31 rfl (⟨rfl, rfl⟩)
    | succ i ih =>
      intro hi
      have ih := ih (by omega)
      have hB := I.iB _ hi
      have hB2 := hB.2.2
      by_cases hz : zI z (387 + (i + 1)) ≤ b
      · have e1 : xdown (fun s => decide (zI z (387 + s) ≤ b)) (i + 1) = i + 1 := if_pos (by simpa using hz)
        rw [e1]
        refine xw_aload_n 11 dX5_stringOf_10 rfl rfl rfl ?_
        refine xw_get 14 dX5_stringOf_11 rfl f_X5_7 (O) rfl ?_
        refine xw_sipush 17 (nI 387) dX5_stringOf_14 rfl (by decide) ?_
        refine xw_iload_n 18 dX5_stringOf_17 rfl rfl ?_
        refine xw_iadd 19 dX5_stringOf_18 rfl ?_
        refine xw_ialv (j := _) 20 dX5_stringOf_19 rfl (Z) (nI_add _ _) (by omega) (by omega) (hB.1) ?_
        refine xw_iload_n 21 dX5_stringOf_20 rfl rfl ?_
        refine xw_icmp_le 30 24 dX5_stringOf_21 rfl rfl (fun h21 => ?_) (fun h21 => absurd (nI_le hz hb) h21)
        refine xw_iload_n 31 dX5_stringOf_30 rfl rfl ?_
        exact xw_ireturn dX5_stringOf_31 rfl (⟨rfl, rfl⟩)
      · have e1 : xdown (fun s => decide (zI z (387 + s) ≤ b)) (i + 1) = xdown (fun s => decide (zI z (387 + s) ≤ b)) i := if_neg (by simpa using hz)
        rw [e1]
        refine xw_aload_n 11 dX5_stringOf_10 rfl rfl rfl ?_
        refine xw_get 14 dX5_stringOf_11 rfl f_X5_7 (O) rfl ?_
        refine xw_sipush 17 (nI 387) dX5_stringOf_14 rfl (by decide) ?_
        refine xw_iload_n 18 dX5_stringOf_17 rfl rfl ?_
        refine xw_iadd 19 dX5_stringOf_18 rfl ?_
        refine xw_ialv (j := _) 20 dX5_stringOf_19 rfl (Z) (nI_add _ _) (by omega) (by omega) (hB.1) ?_
        refine xw_iload_n 21 dX5_stringOf_20 rfl rfl ?_
        refine xw_icmp_le 30 24 dX5_stringOf_21 rfl rfl (fun h21 => absurd h21 (nI_ge (by omega) (by omega))) (fun h21 => ?_)
        refine xw_iinc (ls' := [(2, _), (0, _), (1, _)]) 27 _ dX5_stringOf_24 rfl rfl (xnI_dec _) rfl rfl ?_
        refine xw_goto 10 dX5_stringOf_27 rfl ?_
        exact xW.pick [0, 1, 2] rfl (ih)
  refine xw_aload_n 1 dX5_stringOf_0 rfl rfl rfl ?_
  refine xw_get 4 dX5_stringOf_1 rfl f_X5_7 (O) rfl ?_
  refine xw_bipush 6 (nI 7) dX5_stringOf_4 rfl (by decide) ?_
  refine xw_ialv (j := 7) 7 dX5_stringOf_6 rfl (Z) (rfl) (by decide) (by decide) (I.iK.1) ?_
  refine xw_iconst 8 (nI 1) dX5_stringOf_7 rfl (xofI 1) ?_
  refine xw_isub 9 dX5_stringOf_8 rfl ?_
  refine xw_istore_n (ls' := [(2, _), (0, _), (1, _)]) 10 dX5_stringOf_9 rfl rfl rfl ?_
  rw [nI_1s hK1]
  exact loop (zI z 7 - 1) (by omega)
theorem S_M_endOf {s : Nat} (O : hp[71]? = some (.inr (5, .ref 72 :: .int st :: mo))) (Z : hp[72]? = some (.inl (0, 435, .inl z))) (I : xInv z) (hs : s < zI z 7) : xMet G M_endOf [.ref 71, .int (nI s)] hp x 0 0 (xRetV (.int (nI (zend z s))) hp) := by
  have hA1 := I.iA.2.1
  have hA2 := I.iA.2.2
  have hS2 := I.iS.2.2
  have hR1 := I.iR.2.1
  have hR2 := I.iR.2.2
  have hC1 := I.iC.2.1
  have hC2 := I.iC.2.2
  have hM2 := I.iM.2.2
  have hK1 := I.iK.2.1
  have hK2 := I.iK.2.2
  by_cases h : s + 1 < zI z 7
  · have e : zend z s = zI z (387 + (s + 1)) := if_pos h
    rw [e]
    refine xw_iload_n 1 dX5_endOf_0 rfl rfl ?_
    refine xw_aload_n 2 dX5_endOf_1 rfl rfl rfl ?_
    refine xw_get 5 dX5_endOf_2 rfl f_X5_7 (O) rfl ?_
    refine xw_bipush 7 (nI 7) dX5_endOf_5 rfl (by decide) ?_
    refine xw_ialv (j := 7) 8 dX5_endOf_7 rfl (Z) (rfl) (by decide) (by decide) (I.iK.1) ?_
    refine xw_iconst 9 (nI 1) dX5_endOf_8 rfl (xofI 1) ?_
    refine xw_isub 10 dX5_endOf_9 rfl ?_
    rw [nI_1s (by omega)]
    refine xw_icmp_ne 23 13 dX5_endOf_10 rfl rfl (fun h10 => ?_) (fun h10 => absurd h10 (fun q => by rw [nI_eq (by omega) (by omega)] at q; omega))
    refine xw_aload_n 24 dX5_endOf_23 rfl rfl rfl ?_
    refine xw_get 27 dX5_endOf_24 rfl f_X5_7 (O) rfl ?_
    refine xw_sipush 30 (nI 387) dX5_endOf_27 rfl (by decide) ?_
    refine xw_iload_n 31 dX5_endOf_30 rfl rfl ?_
    refine xw_iadd 32 dX5_endOf_31 rfl ?_
    rw [nI_add]
    refine xw_iconst 33 (nI 1) dX5_endOf_32 rfl (xofI 1) ?_
    refine xw_iadd 34 dX5_endOf_33 rfl ?_
    refine xw_ialv (j := _) 35 dX5_endOf_34 rfl (Z) (nI_add _ _) (by omega) (by omega) ((congrArg z (show 387 + s + 1 = 387 + (s + 1) by omega)).trans (I.iB _ h).1) ?_
    exact xw_ireturn dX5_endOf_35 rfl (⟨rfl, rfl⟩)
  · have e : zend z s = zI z 6 := if_neg h
    rw [e]
    refine xw_iload_n 1 dX5_endOf_0 rfl rfl ?_
    refine xw_aload_n 2 dX5_endOf_1 rfl rfl rfl ?_
    refine xw_get 5 dX5_endOf_2 rfl f_X5_7 (O) rfl ?_
    refine xw_bipush 7 (nI 7) dX5_endOf_5 rfl (by decide) ?_
    refine xw_ialv (j := 7) 8 dX5_endOf_7 rfl (Z) (rfl) (by decide) (by decide) (I.iK.1) ?_
    refine xw_iconst 9 (nI 1) dX5_endOf_8 rfl (xofI 1) ?_
    refine xw_isub 10 dX5_endOf_9 rfl ?_
    rw [nI_1s (by omega)]
    refine xw_icmp_ne 23 13 dX5_endOf_10 rfl rfl (fun h10 => absurd (congrArg nI (show s = zI z 7 - 1 by omega)) h10) (fun h10 => ?_)
    refine xw_aload_n 14 dX5_endOf_13 rfl rfl rfl ?_
    refine xw_get 17 dX5_endOf_14 rfl f_X5_7 (O) rfl ?_
    refine xw_bipush 19 (nI 6) dX5_endOf_17 rfl (by decide) ?_
    refine xw_ialv (j := 6) 20 dX5_endOf_19 rfl (Z) (rfl) (by decide) (by decide) (I.iM.1) ?_
    refine xw_goto 35 dX5_endOf_20 rfl ?_
    exact xw_ireturn dX5_endOf_35 rfl (⟨rfl, rfl⟩)
end P40

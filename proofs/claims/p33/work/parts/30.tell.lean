/-! ===== the workshop's calls that only tell ===== -/
abbrev xlt (p : Int32) (n : Nat) : Prop := ¬ p < 0 ∧ ¬ nI n ≤ p
abbrev xin (p : Int32) (lo hi : Nat) : Prop := ¬ p < nI lo ∧ ¬ nI hi < p
theorem xlt_y {p : Int32} {n : Nat} (hn : n < 2 ^ 31) (h : xlt p n) : ∃ k, k < n ∧ p = nI k := by
  obtain ⟨j, hj, rfl⟩ := nI_of h.1
  refine ⟨j, ?_, rfl⟩
  have h2 := h.2
  rw [nI_leI hn hj] at h2
  omega
theorem xlt_n {p : Int32} {n : Nat} (h : ¬ xlt p n) : p < 0 ∨ nI n ≤ p := by
  unfold xlt at h
  by_cases h1 : p < 0
  · exact Or.inl h1
  · exact Or.inr (Decidable.byContradiction fun q => h ⟨h1, q⟩)
theorem xlt_k {k n : Nat} (hn : n < 2 ^ 31) (h : k < n) : xlt (nI k) n := ⟨nI_pos (by omega), nI_ge h hn⟩
theorem xin_y {p : Int32} {lo hi : Nat} (hl : lo < 2 ^ 31) (hn : hi < 2 ^ 31) (h : xin p lo hi) : ∃ k, lo ≤ k ∧ k ≤ hi ∧ p = nI k := by
  have h1 := h.1
  have h2 := h.2
  have h0 : ¬ p < 0 := by
    intro q
    refine h1 (Int32.lt_of_lt_of_le q ?_)
    exact nI_pos' hl
  obtain ⟨j, hj, rfl⟩ := nI_of h0
  rw [nI_ltI hj hl] at h1
  rw [nI_ltI hn hj] at h2
  exact ⟨j, by omega, by omega, rfl⟩
theorem xin_n {p : Int32} {lo hi : Nat} (h : ¬ xin p lo hi) : p < nI lo ∨ nI hi < p := by
  unfold xin at h
  by_cases h1 : p < nI lo
  · exact Or.inl h1
  · exact Or.inr (Decidable.byContradiction fun q => h ⟨h1, q⟩)
def xo3 (r : Nat × Int32) (E1 E2 : String) : xO := if r.1 = 0 then .inl (some (.int r.2)) else if r.1 = 1 then .inr E1 else .inr E2
/-- the answer r, nothing changed -/
def xQr (h1 : List xE) (r : Nat × Int32) (E1 E2 : String) : xO → List xE → Prop := fun o hp' => o = xo3 r E1 E2 ∧ hp' = h1
def pN (p : Int32) : Nat := p.toNatClampNeg
theorem pN_k {k : Nat} (h : k < 2 ^ 31) : pN (nI k) = k := nI_clamp h
def rCell (w : Nat → Int32) (p q : Int32) : Nat × Int32 := if xlt p (zI w 4) then (if xlt q (zI w 5) then (0, w (27 + (pN p * 12 + pN q))) else (1, 0)) else (1, 0)
def rPat (w : Nat → Int32) (p q : Int32) : Nat × Int32 := if xlt p 240 then (if xlt q 4 then (0, zpat w (pN p) (pN q)) else (1, 0)) else (1, 0)
def rBead (w : Nat → Int32) (p q : Int32) : Nat × Int32 := if xlt p (zI w 6) then (if xlt q 4 then (0, zbead w (pN p) (pN q)) else (2, 0)) else (1, 0)
def rStr (w : Nat → Int32) (p q : Int32) : Nat × Int32 := if xlt p (zI w 7) then (if xlt q 4 then (0, zstrand w (pN p) (pN q)) else (2, 0)) else (1, 0)
def rCol (w : Nat → Int32) (p q : Int32) : Nat × Int32 := if xlt p 6 then (if xlt q 6 then (0, zcolour w (pN p) (pN q)) else (1, 0)) else (1, 0)
def rCnt (w : Nat → Int32) (many p : Int32) : Nat × Int32 := if xlt p 13 then (0, znum w many (pN p)) else (1, 0)
def rSet (w : Nat → Int32) (p : Int32) : Nat × Int32 := if xlt p 4 then (0, w (pN p)) else (1, 0)
def rNee (w : Nat → Int32) (p q : Int32) : Nat × Int32 := if xlt p 6 then (if xin q 1 240 then (0, nI (xct (fun n => decide (pcol w n = nI (pN p))) (pN q))) else (1, 0)) else (1, 0)
/-- a string's number or none -/
def pO (q : Int32) : Option Nat := if q = -1 then none else some (pN q)
def rPlan (w : Nat → Int32) (p q : Int32) : Nat × Int32 := if xin p 1 240 then (if ¬ q < -1 ∧ ¬ nI 48 ≤ q then (0, zplan w (pN p) (pO q)) else (1, 0)) else (1, 0)
theorem pO_is {q : Int32} (h1 : ¬ q < -1) (h2 : ¬ nI 48 ≤ q) : q = xoI (pO q) ∧ ∀ k, pO q = some k → k < 48 := by
  unfold pO
  by_cases h : q = -1
  · rw [if_pos h]
    exact ⟨h, fun k hk => by cases hk⟩
  · rw [if_neg h]
    have h0 : ¬ q < 0 := by
      intro a
      have e1 : q.toInt < (0 : Int32).toInt := Int32.lt_iff_toInt_lt.mp a
      have e2 : ¬ q.toInt < (-1 : Int32).toInt := fun z => h1 (Int32.lt_iff_toInt_lt.mpr z)
      have e3 : (0 : Int32).toInt = 0 := by decide
      have e4 : (-1 : Int32).toInt = -1 := by decide
      rw [e3] at e1
      rw [e4] at e2
      exact h (Int32.toInt_inj.mp (by rw [e4]; omega))
    obtain ⟨k, hk, rfl⟩ := nI_of h0
    rw [pN_k hk]
    refine ⟨rfl, fun j hj => ?_⟩
    cases hj
    rw [nI_leI (by decide) hk] at h2
    omega
section P30
variable {G : xG} {hp : List xE} {x : Nat} {w : Nat → Int32} {sv : Nat → Nat → Int32} {qo qm : Int32} {ql : Int32} {co : Nat → Int32} {sx : xSx} {T : List xE}
theorem S_B_pattern {p q : Int32} (I : xInv w) : xMet G B_pattern [.ref 0, .int p, .int q] (bHp w sv qo qm ql co sx T) x 1 6 (xQr (bHp w sv qo qm ql co sx T) (rPat w p q) xIA xIA) := by
  obtain ⟨R1, R2, R3⟩ := I.iR
  obtain ⟨C1, C2, C3⟩ := I.iC
  obtain ⟨M1, M2, M3⟩ := I.iM
  obtain ⟨K1, K2, K3⟩ := I.iK
  unfold rPat
  by_cases g0 : xlt p 240
  · rw [if_pos g0]
    obtain ⟨a, a1, rfl⟩ := xlt_y (by omega) g0
    by_cases g1 : xlt q 4
    · rw [if_pos g1]
      obtain ⟨b, b1, rfl⟩ := xlt_y (by omega) g1
      rw [pN_k (by omega), pN_k (by omega)]
      refine xw_iload_n 1 dX4_pattern_0 rfl rfl ?_
      refine xw_if_lt 20 4 dX4_pattern_1 rfl rfl (fun h1 => absurd h1 (g0.1)) (fun h1 => ?_)
      refine xw_iload_n 5 dX4_pattern_4 rfl rfl ?_
      refine xw_sipush 8 (nI 240) dX4_pattern_5 rfl (by decide) ?_
      refine xw_icmp_ge 20 11 dX4_pattern_8 rfl rfl (fun h8 => absurd h8 (g0.2)) (fun h8 => ?_)
      refine xw_iload_n 12 dX4_pattern_11 rfl rfl ?_
      refine xw_if_lt 20 15 dX4_pattern_12 rfl rfl (fun h12 => absurd h12 (g1.1)) (fun h12 => ?_)
      refine xw_iload_n 16 dX4_pattern_15 rfl rfl ?_
      refine xw_iconst 17 (nI 4) dX4_pattern_16 rfl (xofI 4) ?_
      refine xw_icmp_lt 30 20 dX4_pattern_17 rfl rfl (fun h17 => ?_) (fun h17 => absurd ((Int32.not_le.mp g1.2)) h17)
      refine xw_aload_n 31 dX4_pattern_30 rfl rfl rfl ?_
      refine xw_get 34 dX4_pattern_31 rfl f_X4_10 (rfl) rfl ?_
      refine xw_iload_n 35 dX4_pattern_34 rfl rfl ?_
      refine xw_iload_n 36 dX4_pattern_35 rfl rfl ?_
      refine xw_pVN 39 dX4_pattern_36 rfl ok_W_patternNumber s_X4_221 (S_W_patternNumber bHp_wk I (by omega) (by omega)) (bHp_len) (rfl) rfl rfl rfl rfl rfl rfl rfl ?_
      exact xw_ireturn dX4_pattern_39 rfl (⟨rfl, rfl⟩)
    · rw [if_neg g1]
      by_cases g1l : q < 0
      · skip
        refine xw_iload_n 1 dX4_pattern_0 rfl rfl ?_
        refine xw_if_lt 20 4 dX4_pattern_1 rfl rfl (fun h1 => absurd h1 (g0.1)) (fun h1 => ?_)
        refine xw_iload_n 5 dX4_pattern_4 rfl rfl ?_
        refine xw_sipush 8 (nI 240) dX4_pattern_5 rfl (by decide) ?_
        refine xw_icmp_ge 20 11 dX4_pattern_8 rfl rfl (fun h8 => absurd h8 (g0.2)) (fun h8 => ?_)
        refine xw_iload_n 12 dX4_pattern_11 rfl rfl ?_
        refine xw_if_lt 20 15 dX4_pattern_12 rfl rfl (fun h12 => ?_) (fun h12 => absurd (g1l) h12)
        exact xw_throw dX4_pattern_20 dX4_pattern_23 dX4_pattern_24 dX4_pattern_26 dX4_pattern_29 t_X4_45 x_X4_219 rfl rfl rfl rfl rfl rfl (⟨rfl, rfl⟩)
      · have g1u := (xlt_n g1).resolve_left g1l
        refine xw_iload_n 1 dX4_pattern_0 rfl rfl ?_
        refine xw_if_lt 20 4 dX4_pattern_1 rfl rfl (fun h1 => absurd h1 (g0.1)) (fun h1 => ?_)
        refine xw_iload_n 5 dX4_pattern_4 rfl rfl ?_
        refine xw_sipush 8 (nI 240) dX4_pattern_5 rfl (by decide) ?_
        refine xw_icmp_ge 20 11 dX4_pattern_8 rfl rfl (fun h8 => absurd h8 (g0.2)) (fun h8 => ?_)
        refine xw_iload_n 12 dX4_pattern_11 rfl rfl ?_
        refine xw_if_lt 20 15 dX4_pattern_12 rfl rfl (fun h12 => absurd h12 (g1l)) (fun h12 => ?_)
        refine xw_iload_n 16 dX4_pattern_15 rfl rfl ?_
        refine xw_iconst 17 (nI 4) dX4_pattern_16 rfl (xofI 4) ?_
        refine xw_icmp_lt 30 20 dX4_pattern_17 rfl rfl (fun h17 => absurd h17 ((Int32.not_lt.mpr g1u))) (fun h17 => ?_)
        exact xw_throw dX4_pattern_20 dX4_pattern_23 dX4_pattern_24 dX4_pattern_26 dX4_pattern_29 t_X4_45 x_X4_219 rfl rfl rfl rfl rfl rfl (⟨rfl, rfl⟩)
  · rw [if_neg g0]
    by_cases g0l : p < 0
    · skip
      refine xw_iload_n 1 dX4_pattern_0 rfl rfl ?_
      refine xw_if_lt 20 4 dX4_pattern_1 rfl rfl (fun h1 => ?_) (fun h1 => absurd (g0l) h1)
      exact xw_throw dX4_pattern_20 dX4_pattern_23 dX4_pattern_24 dX4_pattern_26 dX4_pattern_29 t_X4_45 x_X4_219 rfl rfl rfl rfl rfl rfl (⟨rfl, rfl⟩)
    · have g0u := (xlt_n g0).resolve_left g0l
      refine xw_iload_n 1 dX4_pattern_0 rfl rfl ?_
      refine xw_if_lt 20 4 dX4_pattern_1 rfl rfl (fun h1 => absurd h1 (g0l)) (fun h1 => ?_)
      refine xw_iload_n 5 dX4_pattern_4 rfl rfl ?_
      refine xw_sipush 8 (nI 240) dX4_pattern_5 rfl (by decide) ?_
      refine xw_icmp_ge 20 11 dX4_pattern_8 rfl rfl (fun h8 => ?_) (fun h8 => absurd (g0u) h8)
      exact xw_throw dX4_pattern_20 dX4_pattern_23 dX4_pattern_24 dX4_pattern_26 dX4_pattern_29 t_X4_45 x_X4_219 rfl rfl rfl rfl rfl rfl (⟨rfl, rfl⟩)
theorem S_B_strand {p q : Int32} (I : xInv w) : xMet G B_strand [.ref 0, .int p, .int q] (bHp w sv qo qm ql co sx T) x 1 6 (xQr (bHp w sv qo qm ql co sx T) (rStr w p q) xIX xIA) := by
  obtain ⟨R1, R2, R3⟩ := I.iR
  obtain ⟨C1, C2, C3⟩ := I.iC
  obtain ⟨M1, M2, M3⟩ := I.iM
  obtain ⟨K1, K2, K3⟩ := I.iK
  unfold rStr
  by_cases g0 : xlt p (zI w 7)
  · rw [if_pos g0]
    obtain ⟨a, a1, rfl⟩ := xlt_y (by omega) g0
    by_cases g1 : xlt q 4
    · rw [if_pos g1]
      obtain ⟨b, b1, rfl⟩ := xlt_y (by omega) g1
      rw [pN_k (by omega), pN_k (by omega)]
      refine xw_iload_n 1 dX4_strand_0 rfl rfl ?_
      refine xw_if_lt 15 4 dX4_strand_1 rfl rfl (fun h1 => absurd h1 (g0.1)) (fun h1 => ?_)
      refine xw_iload_n 5 dX4_strand_4 rfl rfl ?_
      refine xw_aload_n 6 dX4_strand_5 rfl rfl rfl ?_
      refine xw_get 9 dX4_strand_6 rfl f_X4_10 (rfl) rfl ?_
      refine xw_get 12 dX4_strand_9 rfl f_X4_161 (rfl) rfl ?_
      refine xw_icmp_lt 25 15 dX4_strand_12 rfl rfl (fun h12 => ?_) (fun h12 => absurd (by rw [K1]; exact (Int32.not_le.mp g0.2)) h12)
      refine xw_iload_n 26 dX4_strand_25 rfl rfl ?_
      refine xw_if_lt 34 29 dX4_strand_26 rfl rfl (fun h26 => absurd h26 (g1.1)) (fun h26 => ?_)
      refine xw_iload_n 30 dX4_strand_29 rfl rfl ?_
      refine xw_iconst 31 (nI 4) dX4_strand_30 rfl (xofI 4) ?_
      refine xw_icmp_lt 44 34 dX4_strand_31 rfl rfl (fun h31 => ?_) (fun h31 => absurd ((Int32.not_le.mp g1.2)) h31)
      refine xw_aload_n 45 dX4_strand_44 rfl rfl rfl ?_
      refine xw_get 48 dX4_strand_45 rfl f_X4_10 (rfl) rfl ?_
      refine xw_iload_n 49 dX4_strand_48 rfl rfl ?_
      refine xw_iload_n 50 dX4_strand_49 rfl rfl ?_
      refine xw_pVN 53 dX4_strand_50 rfl ok_W_stringNumber s_X4_231 (S_W_stringNumber bHp_wk I (by omega) (by omega)) (bHp_len) (rfl) rfl rfl rfl rfl rfl rfl rfl ?_
      exact xw_ireturn dX4_strand_53 rfl (⟨rfl, rfl⟩)
    · rw [if_neg g1]
      by_cases g1l : q < 0
      · skip
        refine xw_iload_n 1 dX4_strand_0 rfl rfl ?_
        refine xw_if_lt 15 4 dX4_strand_1 rfl rfl (fun h1 => absurd h1 (g0.1)) (fun h1 => ?_)
        refine xw_iload_n 5 dX4_strand_4 rfl rfl ?_
        refine xw_aload_n 6 dX4_strand_5 rfl rfl rfl ?_
        refine xw_get 9 dX4_strand_6 rfl f_X4_10 (rfl) rfl ?_
        refine xw_get 12 dX4_strand_9 rfl f_X4_161 (rfl) rfl ?_
        refine xw_icmp_lt 25 15 dX4_strand_12 rfl rfl (fun h12 => ?_) (fun h12 => absurd (by rw [K1]; exact (Int32.not_le.mp g0.2)) h12)
        refine xw_iload_n 26 dX4_strand_25 rfl rfl ?_
        refine xw_if_lt 34 29 dX4_strand_26 rfl rfl (fun h26 => ?_) (fun h26 => absurd (g1l) h26)
        exact xw_throw dX4_strand_34 dX4_strand_37 dX4_strand_38 dX4_strand_40 dX4_strand_43 t_X4_45 x_X4_224 rfl rfl rfl rfl rfl rfl (⟨rfl, rfl⟩)
      · have g1u := (xlt_n g1).resolve_left g1l
        refine xw_iload_n 1 dX4_strand_0 rfl rfl ?_
        refine xw_if_lt 15 4 dX4_strand_1 rfl rfl (fun h1 => absurd h1 (g0.1)) (fun h1 => ?_)
        refine xw_iload_n 5 dX4_strand_4 rfl rfl ?_
        refine xw_aload_n 6 dX4_strand_5 rfl rfl rfl ?_
        refine xw_get 9 dX4_strand_6 rfl f_X4_10 (rfl) rfl ?_
        refine xw_get 12 dX4_strand_9 rfl f_X4_161 (rfl) rfl ?_
        refine xw_icmp_lt 25 15 dX4_strand_12 rfl rfl (fun h12 => ?_) (fun h12 => absurd (by rw [K1]; exact (Int32.not_le.mp g0.2)) h12)
        refine xw_iload_n 26 dX4_strand_25 rfl rfl ?_
        refine xw_if_lt 34 29 dX4_strand_26 rfl rfl (fun h26 => absurd h26 (g1l)) (fun h26 => ?_)
        refine xw_iload_n 30 dX4_strand_29 rfl rfl ?_
        refine xw_iconst 31 (nI 4) dX4_strand_30 rfl (xofI 4) ?_
        refine xw_icmp_lt 44 34 dX4_strand_31 rfl rfl (fun h31 => absurd h31 ((Int32.not_lt.mpr g1u))) (fun h31 => ?_)
        exact xw_throw dX4_strand_34 dX4_strand_37 dX4_strand_38 dX4_strand_40 dX4_strand_43 t_X4_45 x_X4_224 rfl rfl rfl rfl rfl rfl (⟨rfl, rfl⟩)
  · rw [if_neg g0]
    by_cases g0l : p < 0
    · skip
      refine xw_iload_n 1 dX4_strand_0 rfl rfl ?_
      refine xw_if_lt 15 4 dX4_strand_1 rfl rfl (fun h1 => ?_) (fun h1 => absurd (g0l) h1)
      exact xw_throw dX4_strand_15 dX4_strand_18 dX4_strand_19 dX4_strand_21 dX4_strand_24 t_X4_103 x_X4_229 rfl rfl rfl rfl rfl rfl (⟨rfl, rfl⟩)
    · have g0u := (xlt_n g0).resolve_left g0l
      refine xw_iload_n 1 dX4_strand_0 rfl rfl ?_
      refine xw_if_lt 15 4 dX4_strand_1 rfl rfl (fun h1 => absurd h1 (g0l)) (fun h1 => ?_)
      refine xw_iload_n 5 dX4_strand_4 rfl rfl ?_
      refine xw_aload_n 6 dX4_strand_5 rfl rfl rfl ?_
      refine xw_get 9 dX4_strand_6 rfl f_X4_10 (rfl) rfl ?_
      refine xw_get 12 dX4_strand_9 rfl f_X4_161 (rfl) rfl ?_
      refine xw_icmp_lt 25 15 dX4_strand_12 rfl rfl (fun h12 => absurd h12 (by rw [K1]; exact (Int32.not_lt.mpr g0u))) (fun h12 => ?_)
      exact xw_throw dX4_strand_15 dX4_strand_18 dX4_strand_19 dX4_strand_21 dX4_strand_24 t_X4_103 x_X4_229 rfl rfl rfl rfl rfl rfl (⟨rfl, rfl⟩)
theorem S_B_colour {p q : Int32} (I : xInv w) : xMet G B_colour [.ref 0, .int p, .int q] (bHp w sv qo qm ql co sx T) x 1 6 (xQr (bHp w sv qo qm ql co sx T) (rCol w p q) xIA xIA) := by
  obtain ⟨R1, R2, R3⟩ := I.iR
  obtain ⟨C1, C2, C3⟩ := I.iC
  obtain ⟨M1, M2, M3⟩ := I.iM
  obtain ⟨K1, K2, K3⟩ := I.iK
  unfold rCol
  by_cases g0 : xlt p 6
  · rw [if_pos g0]
    obtain ⟨a, a1, rfl⟩ := xlt_y (by decide) g0
    by_cases g1 : xlt q 6
    · rw [if_pos g1]
      obtain ⟨b, b1, rfl⟩ := xlt_y (by omega) g1
      rw [pN_k (by omega), pN_k (by omega)]
      refine xw_iload_n 1 dX4_colour_0 rfl rfl ?_
      refine xw_pS 4 dX4_colour_1 rfl ok_B_isColour s_X4_91 (S_B_isColour_y a1) (bHp_len) rfl rfl rfl rfl rfl rfl ?_
      refine xw_if_eq 17 7 dX4_colour_4 rfl rfl (fun h4 => absurd h4 (by decide)) (fun h4 => ?_)
      refine xw_iload_n 8 dX4_colour_7 rfl rfl ?_
      refine xw_if_lt 17 11 dX4_colour_8 rfl rfl (fun h8 => absurd h8 (g1.1)) (fun h8 => ?_)
      refine xw_iload_n 12 dX4_colour_11 rfl rfl ?_
      refine xw_bipush 14 (nI 6) dX4_colour_12 rfl (by decide) ?_
      refine xw_icmp_lt 27 17 dX4_colour_14 rfl rfl (fun h14 => ?_) (fun h14 => absurd ((Int32.not_le.mp g1.2)) h14)
      refine xw_aload_n 28 dX4_colour_27 rfl rfl rfl ?_
      refine xw_get 31 dX4_colour_28 rfl f_X4_10 (rfl) rfl ?_
      refine xw_iload_n 32 dX4_colour_31 rfl rfl ?_
      refine xw_iload_n 33 dX4_colour_32 rfl rfl ?_
      refine xw_pVN 36 dX4_colour_33 rfl ok_W_colourNumber s_X4_236 (S_W_colourNumber bHp_wk I (by omega) (by omega)) (bHp_len) (rfl) rfl rfl rfl rfl rfl rfl rfl ?_
      exact xw_ireturn dX4_colour_36 rfl (⟨rfl, rfl⟩)
    · rw [if_neg g1]
      by_cases g1l : q < 0
      · skip
        refine xw_iload_n 1 dX4_colour_0 rfl rfl ?_
        refine xw_pS 4 dX4_colour_1 rfl ok_B_isColour s_X4_91 (S_B_isColour_y a1) (bHp_len) rfl rfl rfl rfl rfl rfl ?_
        refine xw_if_eq 17 7 dX4_colour_4 rfl rfl (fun h4 => absurd h4 (by decide)) (fun h4 => ?_)
        refine xw_iload_n 8 dX4_colour_7 rfl rfl ?_
        refine xw_if_lt 17 11 dX4_colour_8 rfl rfl (fun h8 => ?_) (fun h8 => absurd (g1l) h8)
        exact xw_throw dX4_colour_17 dX4_colour_20 dX4_colour_21 dX4_colour_23 dX4_colour_26 t_X4_45 x_X4_234 rfl rfl rfl rfl rfl rfl (⟨rfl, rfl⟩)
      · have g1u := (xlt_n g1).resolve_left g1l
        refine xw_iload_n 1 dX4_colour_0 rfl rfl ?_
        refine xw_pS 4 dX4_colour_1 rfl ok_B_isColour s_X4_91 (S_B_isColour_y a1) (bHp_len) rfl rfl rfl rfl rfl rfl ?_
        refine xw_if_eq 17 7 dX4_colour_4 rfl rfl (fun h4 => absurd h4 (by decide)) (fun h4 => ?_)
        refine xw_iload_n 8 dX4_colour_7 rfl rfl ?_
        refine xw_if_lt 17 11 dX4_colour_8 rfl rfl (fun h8 => absurd h8 (g1l)) (fun h8 => ?_)
        refine xw_iload_n 12 dX4_colour_11 rfl rfl ?_
        refine xw_bipush 14 (nI 6) dX4_colour_12 rfl (by decide) ?_
        refine xw_icmp_lt 27 17 dX4_colour_14 rfl rfl (fun h14 => absurd h14 ((Int32.not_lt.mpr g1u))) (fun h14 => ?_)
        exact xw_throw dX4_colour_17 dX4_colour_20 dX4_colour_21 dX4_colour_23 dX4_colour_26 t_X4_45 x_X4_234 rfl rfl rfl rfl rfl rfl (⟨rfl, rfl⟩)
  · rw [if_neg g0]
    refine xw_iload_n 1 dX4_colour_0 rfl rfl ?_
    refine xw_pS 4 dX4_colour_1 rfl ok_B_isColour s_X4_91 (S_B_isColour_n (xlt_n g0)) (bHp_len) rfl rfl rfl rfl rfl rfl ?_
    refine xw_if_eq 17 7 dX4_colour_4 rfl rfl (fun h4 => ?_) (fun h4 => absurd (rfl) h4)
    exact xw_throw dX4_colour_17 dX4_colour_20 dX4_colour_21 dX4_colour_23 dX4_colour_26 t_X4_45 x_X4_234 rfl rfl rfl rfl rfl rfl (⟨rfl, rfl⟩)
theorem S_B_count {p : Int32} (I : xInv w) : xMet G B_count [.ref 0, .int p] (bHp w sv qo qm ql co sx T) x 1 6 (xQr (bHp w sv qo qm ql co sx T) (rCnt w qm p) xIA xIA) := by
  obtain ⟨R1, R2, R3⟩ := I.iR
  obtain ⟨C1, C2, C3⟩ := I.iC
  obtain ⟨M1, M2, M3⟩ := I.iM
  obtain ⟨K1, K2, K3⟩ := I.iK
  unfold rCnt
  by_cases g0 : xlt p 13
  · rw [if_pos g0]
    obtain ⟨a, a1, rfl⟩ := xlt_y (by omega) g0
    rw [pN_k (by omega)]
    refine xw_iload_n 1 dX4_count_0 rfl rfl ?_
    refine xw_if_lt 10 4 dX4_count_1 rfl rfl (fun h1 => absurd h1 (g0.1)) (fun h1 => ?_)
    refine xw_iload_n 5 dX4_count_4 rfl rfl ?_
    refine xw_bipush 7 (nI 13) dX4_count_5 rfl (by decide) ?_
    refine xw_icmp_lt 20 10 dX4_count_7 rfl rfl (fun h7 => ?_) (fun h7 => absurd ((Int32.not_le.mp g0.2)) h7)
    refine xw_aload_n 21 dX4_count_20 rfl rfl rfl ?_
    refine xw_iload_n 22 dX4_count_21 rfl rfl ?_
    refine xw_pV 25 dX4_count_22 rfl ok_B_numberOf s_X4_241 (S_B_numberOf I (by omega)) (bHp_len) (rfl) rfl rfl rfl rfl rfl rfl rfl ?_
    exact xw_ireturn dX4_count_25 rfl (⟨rfl, rfl⟩)
  · rw [if_neg g0]
    by_cases g0l : p < 0
    · skip
      refine xw_iload_n 1 dX4_count_0 rfl rfl ?_
      refine xw_if_lt 10 4 dX4_count_1 rfl rfl (fun h1 => ?_) (fun h1 => absurd (g0l) h1)
      exact xw_throw dX4_count_10 dX4_count_13 dX4_count_14 dX4_count_16 dX4_count_19 t_X4_45 x_X4_239 rfl rfl rfl rfl rfl rfl (⟨rfl, rfl⟩)
    · have g0u := (xlt_n g0).resolve_left g0l
      refine xw_iload_n 1 dX4_count_0 rfl rfl ?_
      refine xw_if_lt 10 4 dX4_count_1 rfl rfl (fun h1 => absurd h1 (g0l)) (fun h1 => ?_)
      refine xw_iload_n 5 dX4_count_4 rfl rfl ?_
      refine xw_bipush 7 (nI 13) dX4_count_5 rfl (by decide) ?_
      refine xw_icmp_lt 20 10 dX4_count_7 rfl rfl (fun h7 => absurd h7 ((Int32.not_lt.mpr g0u))) (fun h7 => ?_)
      exact xw_throw dX4_count_10 dX4_count_13 dX4_count_14 dX4_count_16 dX4_count_19 t_X4_45 x_X4_239 rfl rfl rfl rfl rfl rfl (⟨rfl, rfl⟩)
theorem S_B_bead {p q : Int32} (I : xInv w) : xMet G B_bead [.ref 0, .int p, .int q] (bHp w sv qo qm ql co sx T) x 1 6 (xQr (bHp w sv qo qm ql co sx T) (rBead w p q) xIX xIA) := by
  obtain ⟨R1, R2, R3⟩ := I.iR
  obtain ⟨C1, C2, C3⟩ := I.iC
  obtain ⟨M1, M2, M3⟩ := I.iM
  obtain ⟨K1, K2, K3⟩ := I.iK
  unfold rBead
  by_cases g0 : xlt p (zI w 6)
  · rw [if_pos g0]
    obtain ⟨a, a1, rfl⟩ := xlt_y (by omega) g0
    by_cases g1 : xlt q 4
    · rw [if_pos g1]
      obtain ⟨b, b1, rfl⟩ := xlt_y (by omega) g1
      rw [pN_k (by omega), pN_k (by omega)]
      refine xw_aload_n 1 dX4_bead_0 rfl rfl rfl ?_
      refine xw_iload_n 2 dX4_bead_1 rfl rfl ?_
      refine xw_pV 5 dX4_bead_2 rfl ok_B_isStrung s_X4_175 (S_B_isStrung_y I a1) (bHp_len) (rfl) rfl rfl rfl rfl rfl rfl rfl ?_
      refine xw_if_ne 18 8 dX4_bead_5 rfl rfl (fun h5 => ?_) (fun h5 => absurd h5 (by decide))
      refine xw_iload_n 19 dX4_bead_18 rfl rfl ?_
      refine xw_if_lt 27 22 dX4_bead_19 rfl rfl (fun h19 => absurd h19 (g1.1)) (fun h19 => ?_)
      refine xw_iload_n 23 dX4_bead_22 rfl rfl ?_
      refine xw_iconst 24 (nI 4) dX4_bead_23 rfl (xofI 4) ?_
      refine xw_icmp_lt 37 27 dX4_bead_24 rfl rfl (fun h24 => ?_) (fun h24 => absurd ((Int32.not_le.mp g1.2)) h24)
      refine xw_aload_n 38 dX4_bead_37 rfl rfl rfl ?_
      refine xw_get 41 dX4_bead_38 rfl f_X4_10 (rfl) rfl ?_
      refine xw_iload_n 42 dX4_bead_41 rfl rfl ?_
      refine xw_iload_n 43 dX4_bead_42 rfl rfl ?_
      refine xw_pVN 46 dX4_bead_43 rfl ok_W_beadNumber s_X4_226 (S_W_beadNumber bHp_wk I (by omega) (by omega)) (bHp_len) (rfl) rfl rfl rfl rfl rfl rfl rfl ?_
      exact xw_ireturn dX4_bead_46 rfl (⟨rfl, rfl⟩)
    · rw [if_neg g1]
      by_cases g1l : q < 0
      · skip
        refine xw_aload_n 1 dX4_bead_0 rfl rfl rfl ?_
        refine xw_iload_n 2 dX4_bead_1 rfl rfl ?_
        refine xw_pV 5 dX4_bead_2 rfl ok_B_isStrung s_X4_175 (S_B_isStrung_y I a1) (bHp_len) (rfl) rfl rfl rfl rfl rfl rfl rfl ?_
        refine xw_if_ne 18 8 dX4_bead_5 rfl rfl (fun h5 => ?_) (fun h5 => absurd h5 (by decide))
        refine xw_iload_n 19 dX4_bead_18 rfl rfl ?_
        refine xw_if_lt 27 22 dX4_bead_19 rfl rfl (fun h19 => ?_) (fun h19 => absurd (g1l) h19)
        exact xw_throw dX4_bead_27 dX4_bead_30 dX4_bead_31 dX4_bead_33 dX4_bead_36 t_X4_45 x_X4_224 rfl rfl rfl rfl rfl rfl (⟨rfl, rfl⟩)
      · have g1u := (xlt_n g1).resolve_left g1l
        refine xw_aload_n 1 dX4_bead_0 rfl rfl rfl ?_
        refine xw_iload_n 2 dX4_bead_1 rfl rfl ?_
        refine xw_pV 5 dX4_bead_2 rfl ok_B_isStrung s_X4_175 (S_B_isStrung_y I a1) (bHp_len) (rfl) rfl rfl rfl rfl rfl rfl rfl ?_
        refine xw_if_ne 18 8 dX4_bead_5 rfl rfl (fun h5 => ?_) (fun h5 => absurd h5 (by decide))
        refine xw_iload_n 19 dX4_bead_18 rfl rfl ?_
        refine xw_if_lt 27 22 dX4_bead_19 rfl rfl (fun h19 => absurd h19 (g1l)) (fun h19 => ?_)
        refine xw_iload_n 23 dX4_bead_22 rfl rfl ?_
        refine xw_iconst 24 (nI 4) dX4_bead_23 rfl (xofI 4) ?_
        refine xw_icmp_lt 37 27 dX4_bead_24 rfl rfl (fun h24 => absurd h24 ((Int32.not_lt.mpr g1u))) (fun h24 => ?_)
        exact xw_throw dX4_bead_27 dX4_bead_30 dX4_bead_31 dX4_bead_33 dX4_bead_36 t_X4_45 x_X4_224 rfl rfl rfl rfl rfl rfl (⟨rfl, rfl⟩)
  · rw [if_neg g0]
    refine xw_aload_n 1 dX4_bead_0 rfl rfl rfl ?_
    refine xw_iload_n 2 dX4_bead_1 rfl rfl ?_
    refine xw_pV 5 dX4_bead_2 rfl ok_B_isStrung s_X4_175 (S_B_isStrung_n (by rw [M1]; exact xlt_n g0)) (bHp_len) (rfl) rfl rfl rfl rfl rfl rfl rfl ?_
    refine xw_if_ne 18 8 dX4_bead_5 rfl rfl (fun h5 => absurd (rfl) h5) (fun h5 => ?_)
    exact xw_throw dX4_bead_8 dX4_bead_11 dX4_bead_12 dX4_bead_14 dX4_bead_17 t_X4_103 x_X4_178 rfl rfl rfl rfl rfl rfl (⟨rfl, rfl⟩)
theorem S_B_firstError {ln : Nat} {ch : Bool} (X : xTxt co ln) : xMet G B_firstError [.ref 0, .int (nI (xb01 ch))] (bHp w sv qo qm (nI ln) co sx T) x 0 0 (xRetV (.int (nI (zei ch co 0 ln))) (bHp w sv qo qm (nI ln) co sx T)) := by
  refine xw_aload_n 1 dX4_firstError_0 rfl rfl rfl ?_
  refine xw_get 4 dX4_firstError_1 rfl f_X4_26 (rfl) rfl ?_
  refine xw_iload_n 5 dX4_firstError_4 rfl rfl ?_
  refine xw_pVN 8 dX4_firstError_5 rfl ok_T_errorIndex s_X4_199 (S_T_errorIndex X) (bHp_len) (rfl) rfl rfl rfl rfl rfl rfl rfl ?_
  exact xw_ireturn dX4_firstError_8 rfl (⟨rfl, rfl⟩)
theorem S_B_clearBuffer {ln : Int32} : xMet G B_clearBuffer [.ref 0] (bHp w sv qo qm ln co sx T) x 0 0 (xRetV (.int ln) (bHp w sv qo qm (nI 0) co sx T)) := by
  refine xw_aload_n 1 dX4_clearBuffer_0 rfl rfl rfl ?_
  refine xw_get 4 dX4_clearBuffer_1 rfl f_X4_26 (rfl) rfl ?_
  refine xw_get 7 dX4_clearBuffer_4 rfl f_X4_191 (rfl) rfl ?_
  refine xw_istore_n (ls' := [(1, _), (0, _)]) 8 dX4_clearBuffer_7 rfl rfl rfl ?_
  refine xw_aload_n 9 dX4_clearBuffer_8 rfl rfl rfl ?_
  refine xw_get 12 dX4_clearBuffer_9 rfl f_X4_26 (rfl) rfl ?_
  refine xw_pVNv 15 dX4_clearBuffer_12 rfl ok_T_empty s_X4_72 (S_T_empty) (bHp_len) (rfl) rfl rfl rfl rfl rfl rfl rfl ?_
  refine xw_iload_n 16 dX4_clearBuffer_15 rfl rfl ?_
  exact xw_ireturn dX4_clearBuffer_16 rfl (⟨rfl, rfl⟩)
end P30

/-! ===== the workshop's calls that only tell ===== -/
abbrev xlt (p : Int32) (n : Nat) : Prop := ¬ p < 0 ∧ ¬ nI n ≤ p
abbrev xin (p : Int32) (lo hi : Nat) : Prop := ¬ p < nI lo ∧ ¬ nI hi < p
theorem xlt_y {p : Int32} {n : Nat} (hn : n < 2 ^ 31) (h : xlt p n) : ∃ k, k < n ∧ p = nI k := by
  obtain ⟨j, hj, rfl⟩ := nI_of h.1
  refine ⟨j, ?_, rfl⟩
  have h2 := h.2
  rw [nI_leI hn hj] at h2
  omega
theorem xlt_n {p : Int32} {n : Nat} (h : ¬ xlt p n) : p < 0 ∨ nI n ≤ p := by
  unfold xlt at h
  by_cases h1 : p < 0
  · exact Or.inl h1
  · exact Or.inr (Decidable.byContradiction fun q => h ⟨h1, q⟩)
theorem xlt_k {k n : Nat} (hn : n < 2 ^ 31) (h : k < n) : xlt (nI k) n := ⟨nI_pos (by omega), nI_ge h hn⟩
theorem xin_y {p : Int32} {lo hi : Nat} (hl : lo < 2 ^ 31) (hn : hi < 2 ^ 31) (h : xin p lo hi) : ∃ k, lo ≤ k ∧ k ≤ hi ∧ p = nI k := by
  have h1 := h.1
  have h2 := h.2
  have h0 : ¬ p < 0 := by
    intro q
    refine h1 (Int32.lt_of_lt_of_le q ?_)
    exact nI_pos' hl
  obtain ⟨j, hj, rfl⟩ := nI_of h0
  rw [nI_ltI hj hl] at h1
  rw [nI_ltI hn hj] at h2
  exact ⟨j, by omega, by omega, rfl⟩
theorem xin_n {p : Int32} {lo hi : Nat} (h : ¬ xin p lo hi) : p < nI lo ∨ nI hi < p := by
  unfold xin at h
  by_cases h1 : p < nI lo
  · exact Or.inl h1
  · exact Or.inr (Decidable.byContradiction fun q => h ⟨h1, q⟩)
def xo3 (r : Nat × Int32) (E1 E2 : String) : xO := if r.1 = 0 then .inl (some (.int r.2)) else if r.1 = 1 then .inr E1 else .inr E2
/-- the answer r, nothing changed -/
def xQr (h1 : List xE) (r : Nat × Int32) (E1 E2 : String) : xO → List xE → Prop := fun o hp' => o = xo3 r E1 E2 ∧ hp' = h1
def pN (p : Int32) : Nat := p.toNatClampNeg
theorem pN_k {k : Nat} (h : k < 2 ^ 31) : pN (nI k) = k := nI_clamp h
def rCell (w : Nat → Int32) (p q : Int32) : Nat × Int32 := if xlt p (zI w 4) ∧ xlt q (zI w 5) then (0, w (27 + (pN p * 12 + pN q))) else (1, 0)
def rPat (w : Nat → Int32) (p q : Int32) : Nat × Int32 := if xlt p 240 ∧ xlt q 4 then (0, zpat w (pN p) (pN q)) else (1, 0)
def rBead (w : Nat → Int32) (p q : Int32) : Nat × Int32 := if xlt p (zI w 6) then (if xlt q 4 then (0, zbead w (pN p) (pN q)) else (2, 0)) else (1, 0)
def rStr (w : Nat → Int32) (p q : Int32) : Nat × Int32 := if xlt p (zI w 7) then (if xlt q 4 then (0, zstrand w (pN p) (pN q)) else (2, 0)) else (1, 0)
def rCol (w : Nat → Int32) (p q : Int32) : Nat × Int32 := if xlt p 6 ∧ xlt q 6 then (0, zcolour w (pN p) (pN q)) else (1, 0)
def rCnt (w : Nat → Int32) (many p : Int32) : Nat × Int32 := if xlt p 13 then (0, znum w many (pN p)) else (1, 0)
def rSet (w : Nat → Int32) (p : Int32) : Nat × Int32 := if xlt p 4 then (0, w (pN p)) else (1, 0)
def rNee (w : Nat → Int32) (p q : Int32) : Nat × Int32 := if xlt p 6 ∧ xin q 1 240 then (0, nI (xct (fun n => decide (pcol w n = nI (pN p))) (pN q))) else (1, 0)
section P30
variable {G : xG} {hp : List xE} {x : Nat} {w : Nat → Int32} {sv : Nat → Nat → Int32} {qo qm : Int32} {ql : Int32} {co : Nat → Int32} {sx : xSx} {T : List xE}
theorem S_B_cell {p q : Int32} (I : xInv w) : xMet G B_cell [.ref 0, .int p, .int q] (bHp w sv qo qm ql co sx T) x 1 6 (xQr (bHp w sv qo qm ql co sx T) (rCell w p q) xIX xIX) := by
  obtain ⟨R1, R2, R3⟩ := I.iR
  obtain ⟨C1, C2, C3⟩ := I.iC
  unfold rCell
  by_cases g1 : xlt p (zI w 4)
  · by_cases g2 : xlt q (zI w 5)
    · rw [if_pos ⟨g1, g2⟩]
      obtain ⟨a, ha, rfl⟩ := xlt_y (by omega) g1
      obtain ⟨b, hb, rfl⟩ := xlt_y (by omega) g2
      rw [pN_k (by omega), pN_k (by omega)]
      refine xw_iload_n 1 dX4_cell_0 rfl rfl ?_
      refine xw_if_lt 36 4 dX4_cell_1 rfl rfl (fun h1 => absurd h1 (g1.1)) (fun h1 => ?_)
      refine xw_iload_n 5 dX4_cell_4 rfl rfl ?_
      refine xw_aload_n 6 dX4_cell_5 rfl rfl rfl ?_
      refine xw_get 9 dX4_cell_6 rfl f_X4_10 (rfl) rfl ?_
      refine xw_get 12 dX4_cell_9 rfl f_X4_65 (rfl) rfl ?_
      refine xw_get 15 dX4_cell_12 rfl f_X4_75 (rfl) rfl ?_
      refine xw_icmp_ge 36 18 dX4_cell_15 rfl rfl (fun h15 => absurd h15 (by rw [R1]; exact g1.2)) (fun h15 => ?_)
      refine xw_iload_n 19 dX4_cell_18 rfl rfl ?_
      refine xw_if_lt 36 22 dX4_cell_19 rfl rfl (fun h19 => absurd h19 (g2.1)) (fun h19 => ?_)
      refine xw_iload_n 23 dX4_cell_22 rfl rfl ?_
      refine xw_aload_n 24 dX4_cell_23 rfl rfl rfl ?_
      refine xw_get 27 dX4_cell_24 rfl f_X4_10 (rfl) rfl ?_
      refine xw_get 30 dX4_cell_27 rfl f_X4_65 (rfl) rfl ?_
      refine xw_get 33 dX4_cell_30 rfl f_X4_211 (rfl) rfl ?_
      refine xw_icmp_lt 46 36 dX4_cell_33 rfl rfl (fun h33 => ?_) (fun h33 => absurd (by rw [C1]; exact nI_lt hb (by omega)) h33)
      refine xw_aload_n 47 dX4_cell_46 rfl rfl rfl ?_
      refine xw_get 50 dX4_cell_47 rfl f_X4_10 (rfl) rfl ?_
      refine xw_get 53 dX4_cell_50 rfl f_X4_65 (rfl) rfl ?_
      refine xw_iload_n 54 dX4_cell_53 rfl rfl ?_
      refine xw_iload_n 55 dX4_cell_54 rfl rfl ?_
      refine xw_pVN 58 dX4_cell_55 rfl ok_C_cellAt s_X4_216 (xcast_v (S_C_cellAt (r := a) (c := b) (bHp_wk.cc I) bHp_wk.ce rfl rfl (by omega)) (congrArg Value.int (xsl_at (w := w) (o := 27) (n := 120) (k := a * 12 + b) (by omega)))) (bHp_len) (rfl) rfl rfl rfl rfl rfl rfl rfl ?_
      exact xw_ireturn dX4_cell_58 rfl (⟨rfl, rfl⟩)
    · rw [if_neg (fun q => g2 q.2)]
      by_cases g3 : q < 0
      · skip
        refine xw_iload_n 1 dX4_cell_0 rfl rfl ?_
        refine xw_if_lt 36 4 dX4_cell_1 rfl rfl (fun h1 => absurd h1 (g1.1)) (fun h1 => ?_)
        refine xw_iload_n 5 dX4_cell_4 rfl rfl ?_
        refine xw_aload_n 6 dX4_cell_5 rfl rfl rfl ?_
        refine xw_get 9 dX4_cell_6 rfl f_X4_10 (rfl) rfl ?_
        refine xw_get 12 dX4_cell_9 rfl f_X4_65 (rfl) rfl ?_
        refine xw_get 15 dX4_cell_12 rfl f_X4_75 (rfl) rfl ?_
        refine xw_icmp_ge 36 18 dX4_cell_15 rfl rfl (fun h15 => absurd h15 (by rw [R1]; exact g1.2)) (fun h15 => ?_)
        refine xw_iload_n 19 dX4_cell_18 rfl rfl ?_
        refine xw_if_lt 36 22 dX4_cell_19 rfl rfl (fun h19 => ?_) (fun h19 => absurd (g3) h19)
        exact xw_throw dX4_cell_36 dX4_cell_39 dX4_cell_40 dX4_cell_42 dX4_cell_45 t_X4_103 x_X4_214 rfl rfl rfl rfl rfl rfl (⟨rfl, rfl⟩)
      · have g4 := (xlt_n g2).resolve_left g3
        refine xw_iload_n 1 dX4_cell_0 rfl rfl ?_
        refine xw_if_lt 36 4 dX4_cell_1 rfl rfl (fun h1 => absurd h1 (g1.1)) (fun h1 => ?_)
        refine xw_iload_n 5 dX4_cell_4 rfl rfl ?_
        refine xw_aload_n 6 dX4_cell_5 rfl rfl rfl ?_
        refine xw_get 9 dX4_cell_6 rfl f_X4_10 (rfl) rfl ?_
        refine xw_get 12 dX4_cell_9 rfl f_X4_65 (rfl) rfl ?_
        refine xw_get 15 dX4_cell_12 rfl f_X4_75 (rfl) rfl ?_
        refine xw_icmp_ge 36 18 dX4_cell_15 rfl rfl (fun h15 => absurd h15 (by rw [R1]; exact g1.2)) (fun h15 => ?_)
        refine xw_iload_n 19 dX4_cell_18 rfl rfl ?_
        refine xw_if_lt 36 22 dX4_cell_19 rfl rfl (fun h19 => absurd h19 (g3)) (fun h19 => ?_)
        refine xw_iload_n 23 dX4_cell_22 rfl rfl ?_
        refine xw_aload_n 24 dX4_cell_23 rfl rfl rfl ?_
        refine xw_get 27 dX4_cell_24 rfl f_X4_10 (rfl) rfl ?_
        refine xw_get 30 dX4_cell_27 rfl f_X4_65 (rfl) rfl ?_
        refine xw_get 33 dX4_cell_30 rfl f_X4_211 (rfl) rfl ?_
        refine xw_icmp_lt 46 36 dX4_cell_33 rfl rfl (fun h33 => absurd h33 (by rw [C1]; exact Int32.not_lt.mpr g4)) (fun h33 => ?_)
        exact xw_throw dX4_cell_36 dX4_cell_39 dX4_cell_40 dX4_cell_42 dX4_cell_45 t_X4_103 x_X4_214 rfl rfl rfl rfl rfl rfl (⟨rfl, rfl⟩)
  · rw [if_neg (fun q => g1 q.1)]
    by_cases g3 : p < 0
    · skip
      refine xw_iload_n 1 dX4_cell_0 rfl rfl ?_
      refine xw_if_lt 36 4 dX4_cell_1 rfl rfl (fun h1 => ?_) (fun h1 => absurd (g3) h1)
      exact xw_throw dX4_cell_36 dX4_cell_39 dX4_cell_40 dX4_cell_42 dX4_cell_45 t_X4_103 x_X4_214 rfl rfl rfl rfl rfl rfl (⟨rfl, rfl⟩)
    · have g4 := (xlt_n g1).resolve_left g3
      refine xw_iload_n 1 dX4_cell_0 rfl rfl ?_
      refine xw_if_lt 36 4 dX4_cell_1 rfl rfl (fun h1 => absurd h1 (g3)) (fun h1 => ?_)
      refine xw_iload_n 5 dX4_cell_4 rfl rfl ?_
      refine xw_aload_n 6 dX4_cell_5 rfl rfl rfl ?_
      refine xw_get 9 dX4_cell_6 rfl f_X4_10 (rfl) rfl ?_
      refine xw_get 12 dX4_cell_9 rfl f_X4_65 (rfl) rfl ?_
      refine xw_get 15 dX4_cell_12 rfl f_X4_75 (rfl) rfl ?_
      refine xw_icmp_ge 36 18 dX4_cell_15 rfl rfl (fun h15 => ?_) (fun h15 => absurd (by rw [R1]; exact g4) h15)
      exact xw_throw dX4_cell_36 dX4_cell_39 dX4_cell_40 dX4_cell_42 dX4_cell_45 t_X4_103 x_X4_214 rfl rfl rfl rfl rfl rfl (⟨rfl, rfl⟩)
end P30

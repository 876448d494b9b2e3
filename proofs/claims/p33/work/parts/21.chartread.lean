/-! ===== Text.readWhole, Text.readChart, Work.patternNumber ===== -/
theorem zps_ns {co : Nat → Int32} {n i : Nat} (h : zps false co n ≠ none) (hi : i < n) : zI co i ≠ 47 := by
  obtain ⟨s', hs'⟩ := zps_dn h (show i + 1 ≤ n by omega)
  unfold zps at hs'
  cases hz : zps false co i with
  | none => rw [hz] at hs'; cases hs'
  | some s =>
    rw [hz] at hs'
    intro q
    dsimp only at hs'
    unfold zst at hs'
    rw [if_pos q, if_neg (by simp)] at hs'
    cases hs'
/-- whether what was read can be a chart -/
def zok (co : Nat → Int32) (n : Nat) : Bool := decide (zsr co n + 1 ≤ 10 ∧ zwd co n 0 ≤ 12 ∧ ∀ r, r < zsr co n + 1 → zwd co n r = zwd co n 0)
/-- c numbers of the row r laid -/
def xrw (g : Nat → Nat) (f : Nat → Int32) (r c : Nat) : Nat → Int32 := fun k => if r * 12 ≤ k ∧ k < r * 12 + c then nI (g (k - r * 12)) else f k
theorem xrw_0 {g : Nat → Nat} {f : Nat → Int32} {r : Nat} : xrw g f r 0 = f := by
  funext k
  unfold xrw
  rw [if_neg (by omega)]
theorem xrw_s {g : Nat → Nat} {f : Nat → Int32} {r c : Nat} {v : Int32} (hv : v = nI (g c)) : upd (xrw g f r c) (r * 12 + c) v = xrw g f r (c + 1) := by
  funext k
  unfold upd xrw
  by_cases hk : k = r * 12 + c
  · subst hk
    rw [if_pos rfl, if_pos (by omega), hv, show r * 12 + c - r * 12 = c by omega]
  · rw [if_neg hk]
    by_cases h2 : r * 12 ≤ k ∧ k < r * 12 + c
    · rw [if_pos h2, if_pos (by omega)]
    · rw [if_neg h2, if_neg (by omega)]
section P21
variable {G : xG} {x : Nat} {w : Nat → Int32} {sv : Nat → Nat → Int32} {qo qm ql : Int32} {co : Nat → Int32} {s1 s2 : Int32} {sc sf : Nat → Int32} {T : List xE}
theorem zok_rd {co : Nat → Int32} {n : Nat} (h1 : zsr co n + 1 ≤ 10) (h2 : zwd co n 0 ≤ 12) (h3 : ∀ r, r < zsr co n + 1 → zwd co n r = zwd co n 0) : zok co n = true := by
  unfold zok
  exact decide_eq_true ⟨h1, h2, h3⟩
theorem S_T_readChart {ln : Nat} (X : xTxt co ln) (hz : zwhole true co ln = true) : xMet G T_readChart [.ref 66, .ref 68, .ref 70] (bHp w sv qo qm (nI ln) co (s1, s2, sc, sf) T) x 0 0 (fun o hp' => ∃ sx : xSx, hp' = bHp w sv qo qm (nI ln) co sx T ∧ o = .inl (some (.int (nI (xb01 (zok co ln))))) ∧ (zok co ln = true → sx.1 = nI (zsr co ln + 1) ∧ sx.2.1 = nI (zwd co ln 0) ∧ ∀ r c, r < zsr co ln + 1 → c < zwd co ln 0 → sx.2.2.1 (r * 12 + c) = nI (zcl co ln r c))) := by
  have hl := X.1
  unfold zwhole at hz
  have hz1 := of_decide_eq_true hz
  have hz2 : zps true co ln ≠ none := by rw [hz1]; simp
  have row : ∀ (i b r C : Nat) (sc sf : Nat → Int32), b ≤ i → i ≤ ln → (∀ j, b ≤ j → j < i → zI co j ≠ 47) → zsr co b = r → zwd co b r = 0 → znm co b = 0 → zwd co ln r = zwd co i r → (∀ c, zcl co ln r c = zcl co i r c) → r ≤ zsr co ln → r ≤ 10 → C ≤ 12 → (∀ q, q < r → zwd co ln q = C) → (∀ q c, q < r → c < C → sc (q * 12 + c) = nI (zcl co ln q c)) →
      (∀ (sc sf : Nat → Int32), r + 1 ≤ 10 → zwd co i r ≤ 12 → (∀ q, q < r + 1 → zwd co ln q = zwd co i r) → (∀ q c, q < r + 1 → c < zwd co i r → sc (q * 12 + c) = nI (zcl co ln q c)) → xW G T_readChart (fun o hp' => ∃ sx : xSx, hp' = bHp w sv qo qm (nI ln) co sx T ∧ o = .inl (some (.int (nI (xb01 (zok co ln))))) ∧ (zok co ln = true → sx.1 = nI (zsr co ln + 1) ∧ sx.2.1 = nI (zwd co ln 0) ∧ ∀ r c, r < zsr co ln + 1 → c < zwd co ln 0 → sx.2.2.1 (r * 12 + c) = nI (zcl co ln r c))) 128 [(6, .int (nI i)), (5, .int (nI (i + 1))), (4, .int (nI (zwd co i r))), (3, .int (nI (r + 1))), (0, .ref 66), (1, .ref 68), (2, .ref 70)] [] (bHp w sv qo qm (nI ln) co (s1, s2, sc, sf) T) x 0 0) →
      xW G T_readChart (fun o hp' => ∃ sx : xSx, hp' = bHp w sv qo qm (nI ln) co sx T ∧ o = .inl (some (.int (nI (xb01 (zok co ln))))) ∧ (zok co ln = true → sx.1 = nI (zsr co ln + 1) ∧ sx.2.1 = nI (zwd co ln 0) ∧ ∀ r c, r < zsr co ln + 1 → c < zwd co ln 0 → sx.2.2.1 (r * 12 + c) = nI (zcl co ln r c))) 49 [(6, .int (nI i)), (5, .int (nI b)), (4, .int (nI C)), (3, .int (nI r)), (0, .ref 66), (1, .ref 68), (2, .ref 70)] [] (bHp w sv qo qm (nI ln) co (s1, s2, sc, sf) T) x 0 0 := by
    intro i b r C sc sf hb hi hns hsb hw0 hn0 hwl hcl hrl hr hC hwC hsc cont
    have hzi : zps true co i ≠ none := by
      obtain ⟨s, hs⟩ := zps_dn hz2 hi
      rw [hs]; simp
    have hx := S_T_readBeads (G := G) (x := x) (w := w) (sv := sv) (qo := qo) (qm := qm) (s1 := s1) (s2 := s2) (sc := sc) (sf := sf) (T := T) X hb hi hzi hns (by rw [hsb]; exact hw0) hn0
    rw [hsb] at hx
    have hwb := zwd_le hzi r i (Nat.le_refl _)
    generalize hW : zwd co i r = W at *
    by_cases h10 : 10 ≤ r
    · have hno : zok co ln = false := by unfold zok; exact decide_eq_false (fun q => by omega)
      refine xw_aload_n 50 dX2_readChart_49 rfl rfl rfl ?_
      refine xw_aload_n 51 dX2_readChart_50 rfl rfl rfl ?_
      refine xw_iload 53 dX2_readChart_51 rfl rfl ?_
      refine xw_iload 55 dX2_readChart_53 rfl rfl ?_
      refine xw_pV 58 dX2_readChart_55 rfl ok_T_readBeads s_X2_45 (hx) (bHp_len) (rfl) rfl rfl rfl rfl rfl rfl rfl ?_
      refine xw_istore (ls' := [(7, _), (6, _), (5, _), (4, _), (3, _), (0, _), (1, _), (2, _)]) 60 dX2_readChart_58 rfl rfl rfl ?_
      refine xw_iload_n 61 dX2_readChart_60 rfl rfl ?_
      refine xw_bipush 63 (nI 10) dX2_readChart_61 rfl (by decide) ?_
      refine xw_icmp_ge 84 66 dX2_readChart_63 rfl rfl (fun h63 => ?_) (fun h63 => absurd (nI_le (by omega) (by omega)) h63)
      refine xw_iconst 85 (nI 0) dX2_readChart_84 rfl (xofI 0) ?_
      exact xw_zreturn dX2_readChart_85 rfl (by decide) (⟨_, rfl, by rw [hno]; rfl, fun q => by rw [hno] at q; cases q⟩)
    · by_cases h12 : 12 < W
      · have hno : zok co ln = false := by unfold zok; exact decide_eq_false (fun q => by have := q.2.2 r (by omega); omega)
        refine xw_aload_n 50 dX2_readChart_49 rfl rfl rfl ?_
        refine xw_aload_n 51 dX2_readChart_50 rfl rfl rfl ?_
        refine xw_iload 53 dX2_readChart_51 rfl rfl ?_
        refine xw_iload 55 dX2_readChart_53 rfl rfl ?_
        refine xw_pV 58 dX2_readChart_55 rfl ok_T_readBeads s_X2_45 (hx) (bHp_len) (rfl) rfl rfl rfl rfl rfl rfl rfl ?_
        refine xw_istore (ls' := [(7, _), (6, _), (5, _), (4, _), (3, _), (0, _), (1, _), (2, _)]) 60 dX2_readChart_58 rfl rfl rfl ?_
        refine xw_iload_n 61 dX2_readChart_60 rfl rfl ?_
        refine xw_bipush 63 (nI 10) dX2_readChart_61 rfl (by decide) ?_
        refine xw_icmp_ge 84 66 dX2_readChart_63 rfl rfl (fun h63 => absurd h63 (nI_ge (by omega) (by omega))) (fun h63 => ?_)
        refine xw_iload 68 dX2_readChart_66 rfl rfl ?_
        refine xw_bipush 70 (nI 12) dX2_readChart_68 rfl (by decide) ?_
        refine xw_icmp_gt 84 73 dX2_readChart_70 rfl rfl (fun h70 => ?_) (fun h70 => absurd (nI_lt (by omega) (by omega)) h70)
        refine xw_iconst 85 (nI 0) dX2_readChart_84 rfl (xofI 0) ?_
        exact xw_zreturn dX2_readChart_85 rfl (by decide) (⟨_, rfl, by rw [hno]; rfl, fun q => by rw [hno] at q; cases q⟩)
      · by_cases hWC : 0 < r ∧ W ≠ C
        · have hno : zok co ln = false := by unfold zok; exact decide_eq_false (fun q => by have := q.2.2 r (by omega); have := hwC 0 (by omega); omega)
          refine xw_aload_n 50 dX2_readChart_49 rfl rfl rfl ?_
          refine xw_aload_n 51 dX2_readChart_50 rfl rfl rfl ?_
          refine xw_iload 53 dX2_readChart_51 rfl rfl ?_
          refine xw_iload 55 dX2_readChart_53 rfl rfl ?_
          refine xw_pV 58 dX2_readChart_55 rfl ok_T_readBeads s_X2_45 (hx) (bHp_len) (rfl) rfl rfl rfl rfl rfl rfl rfl ?_
          refine xw_istore (ls' := [(7, _), (6, _), (5, _), (4, _), (3, _), (0, _), (1, _), (2, _)]) 60 dX2_readChart_58 rfl rfl rfl ?_
          refine xw_iload_n 61 dX2_readChart_60 rfl rfl ?_
          refine xw_bipush 63 (nI 10) dX2_readChart_61 rfl (by decide) ?_
          refine xw_icmp_ge 84 66 dX2_readChart_63 rfl rfl (fun h63 => absurd h63 (nI_ge (by omega) (by omega))) (fun h63 => ?_)
          refine xw_iload 68 dX2_readChart_66 rfl rfl ?_
          refine xw_bipush 70 (nI 12) dX2_readChart_68 rfl (by decide) ?_
          refine xw_icmp_gt 84 73 dX2_readChart_70 rfl rfl (fun h70 => absurd h70 (nI_nlt (by omega) (by omega))) (fun h70 => ?_)
          refine xw_iload_n 74 dX2_readChart_73 rfl rfl ?_
          refine xw_if_le 86 77 dX2_readChart_74 rfl rfl (fun h74 => absurd h74 (xle0 (by omega) (by omega))) (fun h74 => ?_)
          refine xw_iload 79 dX2_readChart_77 rfl rfl ?_
          refine xw_iload 81 dX2_readChart_79 rfl rfl ?_
          refine xw_icmp_eq 86 84 dX2_readChart_81 rfl rfl (fun h81 => absurd h81 (fun q => hWC.2 ((nI_eq (by omega) (by omega)).mp q))) (fun h81 => ?_)
          refine xw_iconst 85 (nI 0) dX2_readChart_84 rfl (xofI 0) ?_
          exact xw_zreturn dX2_readChart_85 rfl (by decide) (⟨_, rfl, by rw [hno]; rfl, fun q => by rw [hno] at q; cases q⟩)
        · have cols : ∀ (u c : Nat), c + u = W → xW G T_readChart (fun o hp' => ∃ sx : xSx, hp' = bHp w sv qo qm (nI ln) co sx T ∧ o = .inl (some (.int (nI (xb01 (zok co ln))))) ∧ (zok co ln = true → sx.1 = nI (zsr co ln + 1) ∧ sx.2.1 = nI (zwd co ln 0) ∧ ∀ r c, r < zsr co ln + 1 → c < zwd co ln 0 → sx.2.2.1 (r * 12 + c) = nI (zcl co ln r c))) 89 [(8, .int (nI c)), (7, .int (nI W)), (6, .int (nI i)), (5, .int (nI b)), (4, .int (nI C)), (3, .int (nI r)), (0, .ref 66), (1, .ref 68), (2, .ref 70)] [] (bHp w sv qo qm (nI ln) co (s1, s2, (xrw (zcl co i r) sc r c), (xfl W (zcl co i r) sf)) T) x 0 0 := by
            intro u
            induction u with
            | zero =>
              intro c hc
              have ec : c = W := by omega
              subst ec
              have k9 := cont (xrw (zcl co i r) sc r c) (xfl c (zcl co i r) sf) (by omega) (by omega) (fun q hq => by
                by_cases h : q = r
                · rw [h]; exact hwl
                · have := hwC q (by omega); omega) (fun q d hq hd => by
                by_cases h : q = r
                · subst h
                  unfold xrw
                  rw [if_pos (by omega), hcl, show q * 12 + d - q * 12 = d by omega]
                · unfold xrw
                  rw [if_neg (by omega)]
                  exact hsc q d (by omega) (by omega))
              refine xw_iload 91 dX2_readChart_89 rfl rfl ?_
              refine xw_iload 93 dX2_readChart_91 rfl rfl ?_
              refine xw_icmp_ge 115 96 dX2_readChart_93 rfl rfl (fun h93 => ?_) (fun h93 => absurd (nI_le (by omega) (by omega)) h93)
              refine xw_iload 117 dX2_readChart_115 rfl rfl ?_
              refine xw_istore (ls' := [(4, _), (8, _), (7, _), (6, _), (5, _), (3, _), (0, _), (1, _), (2, _)]) 119 dX2_readChart_117 rfl rfl rfl ?_
              refine xw_iinc (ls' := [(3, _), (4, _), (8, _), (7, _), (6, _), (5, _), (0, _), (1, _), (2, _)]) 122 _ dX2_readChart_119 rfl rfl (xnI_inc _) rfl rfl ?_
              refine xw_iload 124 dX2_readChart_122 rfl rfl ?_
              refine xw_iconst 125 (nI 1) dX2_readChart_124 rfl (xofI 1) ?_
              refine xw_iadd 126 dX2_readChart_125 rfl ?_
              rw [nI_add]
              refine xw_istore (ls' := [(5, _), (3, _), (4, _), (8, _), (7, _), (6, _), (0, _), (1, _), (2, _)]) 128 dX2_readChart_126 rfl rfl rfl ?_
              exact xW.pick [5, 0, 2, 1, 6, 7, 8] rfl (k9)
            | succ u ih =>
              intro c hc
              have ih := ih (c + 1) (by omega)
              have ev : xfl W (zcl co i r) sf c = nI (zcl co i r c) := by unfold xfl; rw [if_pos (by omega)]
              rw [← xrw_s (v := nI (zcl co i r c)) rfl] at ih
              refine xw_iload 91 dX2_readChart_89 rfl rfl ?_
              refine xw_iload 93 dX2_readChart_91 rfl rfl ?_
              refine xw_icmp_ge 115 96 dX2_readChart_93 rfl rfl (fun h93 => absurd h93 (nI_ge (by omega) (by omega))) (fun h93 => ?_)
              refine xw_aload_n 97 dX2_readChart_96 rfl rfl rfl ?_
              refine xw_iload_n 98 dX2_readChart_97 rfl rfl ?_
              refine xw_iload 100 dX2_readChart_98 rfl rfl ?_
              refine xw_aload_n 101 dX2_readChart_100 rfl rfl rfl ?_
              refine xw_iload 103 dX2_readChart_101 rfl rfl ?_
              refine xw_pSN 106 dX2_readChart_103 rfl ok_B_at s_X2_19 (S_B_atv rfl (by decide) rfl (by omega) ev) (bHp_len) rfl rfl rfl rfl rfl rfl ?_
              refine xw_pVNv 109 dX2_readChart_106 rfl ok_C_putCell s_X2_59 (S_C_putCellG (h9 := (bHp w sv qo qm (nI ln) co (s1, s2, (upd (xrw (zcl co i r) sc r c) (r * 12 + c) (nI (zcl co i r c))), (xfl W (zcl co i r) sf)) T)) rfl rfl rfl rfl (by omega) rfl) (bHp_len) (rfl) rfl rfl rfl rfl rfl rfl rfl ?_
              refine xw_iinc (ls' := [(8, _), (7, _), (6, _), (5, _), (4, _), (3, _), (0, _), (1, _), (2, _)]) 112 _ dX2_readChart_109 rfl rfl (xnI_inc _) rfl rfl ?_
              refine xw_goto 89 dX2_readChart_112 rfl ?_
              exact xW.pick [0, 1, 2, 3, 4, 5, 6, 7, 8] rfl (ih)
          have cols := cols W 0 (Nat.zero_add _)
          rw [xrw_0] at cols
          by_cases hr0 : r = 0
          · subst hr0
            refine xw_aload_n 50 dX2_readChart_49 rfl rfl rfl ?_
            refine xw_aload_n 51 dX2_readChart_50 rfl rfl rfl ?_
            refine xw_iload 53 dX2_readChart_51 rfl rfl ?_
            refine xw_iload 55 dX2_readChart_53 rfl rfl ?_
            refine xw_pV 58 dX2_readChart_55 rfl ok_T_readBeads s_X2_45 (hx) (bHp_len) (rfl) rfl rfl rfl rfl rfl rfl rfl ?_
            refine xw_istore (ls' := [(7, _), (6, _), (5, _), (4, _), (3, _), (0, _), (1, _), (2, _)]) 60 dX2_readChart_58 rfl rfl rfl ?_
            refine xw_iload_n 61 dX2_readChart_60 rfl rfl ?_
            refine xw_bipush 63 (nI 10) dX2_readChart_61 rfl (by decide) ?_
            refine xw_icmp_ge 84 66 dX2_readChart_63 rfl rfl (fun h63 => absurd h63 (nI_ge (by omega) (by omega))) (fun h63 => ?_)
            refine xw_iload 68 dX2_readChart_66 rfl rfl ?_
            refine xw_bipush 70 (nI 12) dX2_readChart_68 rfl (by decide) ?_
            refine xw_icmp_gt 84 73 dX2_readChart_70 rfl rfl (fun h70 => absurd h70 (nI_nlt (by omega) (by omega))) (fun h70 => ?_)
            refine xw_iload_n 74 dX2_readChart_73 rfl rfl ?_
            refine xw_if_le 86 77 dX2_readChart_74 rfl rfl (fun h74 => ?_) (fun h74 => absurd (xle0' rfl) h74)
            refine xw_iconst 87 (nI 0) dX2_readChart_86 rfl (xofI 0) ?_
            refine xw_istore (ls' := [(8, _), (7, _), (6, _), (5, _), (4, _), (3, _), (0, _), (1, _), (2, _)]) 89 dX2_readChart_87 rfl rfl rfl ?_
            exact xW.pick [0, 1, 2, 3, 4, 5, 6, 7, 8] rfl (cols)
          · have eWC : W = C := by omega
            subst eWC
            refine xw_aload_n 50 dX2_readChart_49 rfl rfl rfl ?_
            refine xw_aload_n 51 dX2_readChart_50 rfl rfl rfl ?_
            refine xw_iload 53 dX2_readChart_51 rfl rfl ?_
            refine xw_iload 55 dX2_readChart_53 rfl rfl ?_
            refine xw_pV 58 dX2_readChart_55 rfl ok_T_readBeads s_X2_45 (hx) (bHp_len) (rfl) rfl rfl rfl rfl rfl rfl rfl ?_
            refine xw_istore (ls' := [(7, _), (6, _), (5, _), (4, _), (3, _), (0, _), (1, _), (2, _)]) 60 dX2_readChart_58 rfl rfl rfl ?_
            refine xw_iload_n 61 dX2_readChart_60 rfl rfl ?_
            refine xw_bipush 63 (nI 10) dX2_readChart_61 rfl (by decide) ?_
            refine xw_icmp_ge 84 66 dX2_readChart_63 rfl rfl (fun h63 => absurd h63 (nI_ge (by omega) (by omega))) (fun h63 => ?_)
            refine xw_iload 68 dX2_readChart_66 rfl rfl ?_
            refine xw_bipush 70 (nI 12) dX2_readChart_68 rfl (by decide) ?_
            refine xw_icmp_gt 84 73 dX2_readChart_70 rfl rfl (fun h70 => absurd h70 (nI_nlt (by omega) (by omega))) (fun h70 => ?_)
            refine xw_iload_n 74 dX2_readChart_73 rfl rfl ?_
            refine xw_if_le 86 77 dX2_readChart_74 rfl rfl (fun h74 => absurd h74 (xle0 (by omega) (by omega))) (fun h74 => ?_)
            refine xw_iload 79 dX2_readChart_77 rfl rfl ?_
            refine xw_iload 81 dX2_readChart_79 rfl rfl ?_
            refine xw_icmp_eq 86 84 dX2_readChart_81 rfl rfl (fun h81 => ?_) (fun h81 => absurd (rfl) h81)
            refine xw_iconst 87 (nI 0) dX2_readChart_86 rfl (xofI 0) ?_
            refine xw_istore (ls' := [(8, _), (7, _), (6, _), (5, _), (4, _), (3, _), (0, _), (1, _), (2, _)]) 89 dX2_readChart_87 rfl rfl rfl ?_
            exact xW.pick [0, 1, 2, 3, 4, 5, 6, 7, 8] rfl (cols)
  have loop : ∀ (t i b r C : Nat) (sc sf : Nat → Int32), i + t = ln → zsr co i = r → b ≤ i → (∀ j, b ≤ j → j < i → zI co j ≠ 47) → zsr co b = r → zwd co b r = 0 → znm co b = 0 → r ≤ 10 → C ≤ 12 → (∀ q, q < r → zwd co ln q = C) → (∀ q c, q < r → c < C → sc (q * 12 + c) = nI (zcl co ln q c)) →
      xW G T_readChart (fun o hp' => ∃ sx : xSx, hp' = bHp w sv qo qm (nI ln) co sx T ∧ o = .inl (some (.int (nI (xb01 (zok co ln))))) ∧ (zok co ln = true → sx.1 = nI (zsr co ln + 1) ∧ sx.2.1 = nI (zwd co ln 0) ∧ ∀ r c, r < zsr co ln + 1 → c < zwd co ln 0 → sx.2.2.1 (r * 12 + c) = nI (zcl co ln r c))) 17 [(6, .int (nI i)), (5, .int (nI b)), (4, .int (nI C)), (3, .int (nI r)), (0, .ref 66), (1, .ref 68), (2, .ref 70)] [] (bHp w sv qo qm (nI ln) co (s1, s2, sc, sf) T) x 0 0 := by
    intro t
    induction t with
    | zero =>
      intro i b r C sc sf hi hr hb hns hsb hw0 hn0 hr10 hC hwC hsc
      have ei : i = ln := by omega
      subst ei
      have h49 := row i b r C sc sf hb (Nat.le_refl _) hns hsb hw0 hn0 rfl (fun _ => rfl) (by omega) hr10 hC hwC hsc (fun sc sf k1 k2 k3 k4 => by
        have hyes : zok co i = true := zok_rd (by omega) (by have := k3 0 (by omega); omega) (fun q hq => by have := k3 0 (by omega); have := k3 q (by omega); omega)
        have e0 := k3 0 (by omega)
        refine xw_iinc (ls' := [(6, _), (5, _), (4, _), (3, _), (0, _), (1, _), (2, _)]) 131 _ dX2_readChart_128 rfl rfl (xnI_inc _) rfl rfl ?_
        refine xw_goto 17 dX2_readChart_131 rfl ?_
        refine xw_iload 19 dX2_readChart_17 rfl rfl ?_
        refine xw_aload_n 20 dX2_readChart_19 rfl rfl rfl ?_
        refine xw_get 23 dX2_readChart_20 rfl f_X2_15 (rfl) rfl ?_
        refine xw_icmp_gt 134 26 dX2_readChart_23 rfl rfl (fun h23 => ?_) (fun h23 => absurd (nI_lt (by omega) (by omega)) h23)
        refine xw_aload_n 135 dX2_readChart_134 rfl rfl rfl ?_
        refine xw_iload_n 136 dX2_readChart_135 rfl rfl ?_
        refine xw_put 139 dX2_readChart_136 rfl f_X2_65 (rfl) ⟨rfl, rfl⟩ rfl rfl (rfl) ?_
        refine xw_aload_n 140 dX2_readChart_139 rfl rfl rfl ?_
        refine xw_iload 142 dX2_readChart_140 rfl rfl ?_
        refine xw_put 145 dX2_readChart_142 rfl f_X2_68 (rfl) ⟨rfl, rfl⟩ rfl rfl (rfl) ?_
        refine xw_iconst 146 (nI 1) dX2_readChart_145 rfl (xofI 1) ?_
        exact xw_zreturn dX2_readChart_146 rfl (by decide) (⟨(nI (r + 1), nI (zwd co i r), sc, sf), rfl, by rw [hyes]; rfl, fun _ => ⟨by rw [hr], by rw [e0], fun q c hq hc => k4 q c (by omega) (by omega)⟩⟩))
      refine xw_iload 19 dX2_readChart_17 rfl rfl ?_
      refine xw_aload_n 20 dX2_readChart_19 rfl rfl rfl ?_
      refine xw_get 23 dX2_readChart_20 rfl f_X2_15 (rfl) rfl ?_
      refine xw_icmp_gt 134 26 dX2_readChart_23 rfl rfl (fun h23 => absurd h23 (nI_nlt (by omega) (by omega))) (fun h23 => ?_)
      refine xw_iload 28 dX2_readChart_26 rfl rfl ?_
      refine xw_aload_n 29 dX2_readChart_28 rfl rfl rfl ?_
      refine xw_get 32 dX2_readChart_29 rfl f_X2_15 (rfl) rfl ?_
      refine xw_icmp_eq 49 35 dX2_readChart_32 rfl rfl (fun h32 => ?_) (fun h32 => absurd (rfl) h32)
      exact xW.pick [0, 1, 2, 3, 4, 5, 6] rfl (h49)
    | succ t ih =>
      intro i b r C sc sf hi hr hb hns hsb hw0 hn0 hr10 hC hwC hsc
      obtain ⟨c1, c2, c3⟩ := X.2 i (by omega)
      by_cases h47 : zI co i = 47
      · obtain ⟨s', hs'⟩ := zps_dn hz2 (show i + 1 ≤ ln by omega)
        have hs1 : zsr co (i + 1) = r + 1 := by
          conv => lhs; unfold zsr
          rw [if_pos h47, hr]
        have hw1 : zwd co (i + 1) r = zwd co i r := by
          conv => lhs; unfold zwd
          rw [if_neg (by omega)]
        have hc1 : ∀ c, zcl co (i + 1) r c = zcl co i r c := by
          intro c
          conv => lhs; unfold zcl
          rw [if_neg (by omega)]
        have hm := zsr_mono co (i + 1) (ln - (i + 1))
        rw [show i + 1 + (ln - (i + 1)) = ln by omega] at hm
        have hwl : zwd co ln r = zwd co i r := by
          have := zwd_fin co (show r < zsr co (i + 1) by omega) (ln - (i + 1))
          rw [show i + 1 + (ln - (i + 1)) = ln by omega] at this
          rw [this, hw1]
        have hcl : ∀ c, zcl co ln r c = zcl co i r c := by
          intro c
          have := zcl_fin co (show r < zsr co (i + 1) by omega) c (ln - (i + 1))
          rw [show i + 1 + (ln - (i + 1)) = ln by omega] at this
          rw [this, hc1]
        have hw2 : zwd co (i + 1) (r + 1) = 0 := by
          conv => lhs; unfold zwd
          rw [if_neg (by omega)]
          exact zwd_0 co i (r + 1) (by omega)
        have hn2 : znm co (i + 1) = 0 := by
          conv => lhs; unfold znm
          rw [if_neg (by unfold zdg; rw [h47]; decide)]
        have h49 := row i b r C sc sf hb (by omega) hns hsb hw0 hn0 hwl hcl (by omega) hr10 hC hwC hsc (fun sc sf k1 k2 k3 k4 => by
          have k9 := ih (i + 1) (i + 1) (r + 1) (zwd co i r) sc sf (by omega) hs1 (Nat.le_refl _) (fun j q1 q2 => by omega) hs1 hw2 hn2 (by omega) k2 k3 k4
          refine xw_iinc (ls' := [(6, _), (5, _), (4, _), (3, _), (0, _), (1, _), (2, _)]) 131 _ dX2_readChart_128 rfl rfl (xnI_inc _) rfl rfl ?_
          refine xw_goto 17 dX2_readChart_131 rfl ?_
          exact xW.pick [0, 1, 2, 3, 4, 5, 6] rfl (k9))
        refine xw_iload 19 dX2_readChart_17 rfl rfl ?_
        refine xw_aload_n 20 dX2_readChart_19 rfl rfl rfl ?_
        refine xw_get 23 dX2_readChart_20 rfl f_X2_15 (rfl) rfl ?_
        refine xw_icmp_gt 134 26 dX2_readChart_23 rfl rfl (fun h23 => absurd h23 (nI_nlt (by omega) (by omega))) (fun h23 => ?_)
        refine xw_iload 28 dX2_readChart_26 rfl rfl ?_
        refine xw_aload_n 29 dX2_readChart_28 rfl rfl rfl ?_
        refine xw_get 32 dX2_readChart_29 rfl f_X2_15 (rfl) rfl ?_
        refine xw_icmp_eq 49 35 dX2_readChart_32 rfl rfl (fun h32 => absurd h32 (fun q => by have := (nI_eq (by omega) (by omega)).mp q; omega)) (fun h32 => ?_)
        refine xw_aload_n 36 dX2_readChart_35 rfl rfl rfl ?_
        refine xw_get 39 dX2_readChart_36 rfl f_X2_9 (rfl) rfl ?_
        refine xw_iload 41 dX2_readChart_39 rfl rfl ?_
        refine xw_pSN 44 dX2_readChart_41 rfl ok_B_at s_X2_19 (S_B_atv rfl (by decide) rfl (by omega) c1) (bHp_len) rfl rfl rfl rfl rfl rfl ?_
        refine xw_bipush 46 (nI 47) dX2_readChart_44 rfl (by decide) ?_
        refine xw_icmp_ne 128 49 dX2_readChart_46 rfl rfl (fun h46 => absurd (by rw [h47]) h46) (fun h46 => ?_)
        exact xW.pick [0, 1, 2, 3, 4, 5, 6] rfl (h49)
      · have hs1 : zsr co (i + 1) = r := by
          conv => lhs; unfold zsr
          rw [if_neg h47, hr]
        have k9 := ih (i + 1) b r C sc sf (by omega) hs1 (by omega) (fun j q1 q2 => by
          by_cases h : j = i
          · rw [h]; exact h47
          · exact hns j q1 (by omega)) hsb hw0 hn0 hr10 hC hwC hsc
        refine xw_iload 19 dX2_readChart_17 rfl rfl ?_
        refine xw_aload_n 20 dX2_readChart_19 rfl rfl rfl ?_
        refine xw_get 23 dX2_readChart_20 rfl f_X2_15 (rfl) rfl ?_
        refine xw_icmp_gt 134 26 dX2_readChart_23 rfl rfl (fun h23 => absurd h23 (nI_nlt (by omega) (by omega))) (fun h23 => ?_)
        refine xw_iload 28 dX2_readChart_26 rfl rfl ?_
        refine xw_aload_n 29 dX2_readChart_28 rfl rfl rfl ?_
        refine xw_get 32 dX2_readChart_29 rfl f_X2_15 (rfl) rfl ?_
        refine xw_icmp_eq 49 35 dX2_readChart_32 rfl rfl (fun h32 => absurd h32 (fun q => by have := (nI_eq (by omega) (by omega)).mp q; omega)) (fun h32 => ?_)
        refine xw_aload_n 36 dX2_readChart_35 rfl rfl rfl ?_
        refine xw_get 39 dX2_readChart_36 rfl f_X2_9 (rfl) rfl ?_
        refine xw_iload 41 dX2_readChart_39 rfl rfl ?_
        refine xw_pSN 44 dX2_readChart_41 rfl ok_B_at s_X2_19 (S_B_atv rfl (by decide) rfl (by omega) c1) (bHp_len) rfl rfl rfl rfl rfl rfl ?_
        refine xw_bipush 46 (nI 47) dX2_readChart_44 rfl (by decide) ?_
        refine xw_icmp_ne 128 49 dX2_readChart_46 rfl rfl (fun h46 => ?_) (fun h46 => absurd h46 (fun q => h47 ((nI_eq (by omega) (by decide)).mp q)))
        refine xw_iinc (ls' := [(6, _), (5, _), (4, _), (3, _), (0, _), (1, _), (2, _)]) 131 _ dX2_readChart_128 rfl rfl (xnI_inc _) rfl rfl ?_
        refine xw_goto 17 dX2_readChart_131 rfl ?_
        exact xW.pick [0, 1, 2, 3, 4, 5, 6] rfl (k9)
  have h9 := loop ln 0 0 0 0 sc sf (Nat.zero_add _) rfl (Nat.le_refl _) (fun j q1 q2 => by omega) rfl rfl rfl (by decide) (by decide) (fun q hq => by omega) (fun q c hq => by omega)
  refine xw_aload_n 1 dX2_readChart_0 rfl rfl rfl ?_
  refine xw_ifnonnull 6 dX2_readChart_1 rfl rfl rfl ?_
  refine xw_iconst 7 (nI 0) dX2_readChart_6 rfl (xofI 0) ?_
  refine xw_istore_n (ls' := [(3, _), (0, _), (1, _), (2, _)]) 8 dX2_readChart_7 rfl rfl rfl ?_
  refine xw_iconst 9 (nI 0) dX2_readChart_8 rfl (xofI 0) ?_
  refine xw_istore (ls' := [(4, _), (3, _), (0, _), (1, _), (2, _)]) 11 dX2_readChart_9 rfl rfl rfl ?_
  refine xw_iconst 12 (nI 0) dX2_readChart_11 rfl (xofI 0) ?_
  refine xw_istore (ls' := [(5, _), (4, _), (3, _), (0, _), (1, _), (2, _)]) 14 dX2_readChart_12 rfl rfl rfl ?_
  refine xw_iconst 15 (nI 0) dX2_readChart_14 rfl (xofI 0) ?_
  refine xw_istore (ls' := [(6, _), (5, _), (4, _), (3, _), (0, _), (1, _), (2, _)]) 17 dX2_readChart_15 rfl rfl rfl ?_
  exact xW.pick [0, 1, 2, 3, 4, 5, 6] rfl (h9)
end P21

/-! ===== Text: what a complete text tells ===== -/
/-- the character is a digit -/
def zdg (c : Nat) : Bool := decide (48 ≤ c ∧ c ≤ 57)
/-- the number that stands behind i characters (0: none) -/
def znm (co : Nat → Int32) : Nat → Nat
  | 0 => 0
  | i + 1 => if zdg (zI co i) = true then 10 * znm co i + (zI co i - 48) else 0
/-- how many rows are finished behind i characters -/
def zsr (co : Nat → Int32) : Nat → Nat
  | 0 => 0
  | i + 1 => if zI co i = 47 then zsr co i + 1 else zsr co i
/-- how many beads the row r has behind i characters -/
def zwd (co : Nat → Int32) : Nat → Nat → Nat
  | 0, _ => 0
  | i + 1, r => if zI co i ≠ 47 ∧ zdg (zI co i) = false ∧ r = zsr co i then zwd co i r + max 1 (znm co i) else zwd co i r
/-- and their colours -/
def zcl (co : Nat → Int32) : Nat → Nat → Nat → Nat
  | 0, _, _ => 0
  | i + 1, r, c => if (zI co i ≠ 47 ∧ zdg (zI co i) = false ∧ r = zsr co i) ∧ zwd co i r ≤ c then zI co i - 97 else zcl co i r c
theorem znm_ps {ch : Bool} {co : Nat → Int32} : ∀ {i : Nat} {s : Bool × Nat}, zps ch co i = some s → s.2 = znm co i
  | 0, s, h => by cases h; rfl
  | i + 1, s, h => by
    unfold zps at h
    cases hz : zps ch co i with
    | none => rw [hz] at h; cases h
    | some s' =>
      rw [hz] at h
      have ih := znm_ps hz
      unfold znm zdg
      dsimp only at h
      unfold zst at h
      split at h
      · rename_i h47
        split at h
        · cases h
          rw [if_neg (by simp; omega)]
        · cases h
      · split at h
        · rename_i h1 h2
          split at h
          · cases h
            rw [if_pos (by simp; exact h2), ← ih]
          · cases h
        · split at h
          · rename_i h1 h2 h3
            cases h
            rw [if_neg (by simp; omega)]
          · cases h
theorem zps_up {ch : Bool} {co : Nat → Int32} {i : Nat} (h : zps ch co i = none) : ∀ d, zps ch co (i + d) = none
  | 0 => h
  | d + 1 => by
    rw [← Nat.add_assoc]
    unfold zps
    rw [zps_up h d]
theorem zps_dn {ch : Bool} {co : Nat → Int32} {i n : Nat} (h : zps ch co n ≠ none) (hi : i ≤ n) : ∃ s, zps ch co i = some s := by
  cases hz : zps ch co i with
  | none =>
    have := zps_up hz (n - i)
    rw [show i + (n - i) = n by omega] at this
    exact absurd this h
  | some s => exact ⟨s, rfl⟩
theorem znm_le {ch : Bool} {co : Nat → Int32} {i n : Nat} (h : zps ch co n ≠ none) (hi : i ≤ n) : znm co i ≤ 60 := by
  obtain ⟨s, hs⟩ := zps_dn h hi
  rw [← znm_ps hs]
  exact zps_le hs
theorem zsr_le (co : Nat → Int32) : ∀ i, zsr co i ≤ i
  | 0 => Nat.le_refl _
  | i + 1 => by
    have := zsr_le co i
    unfold zsr
    split <;> omega
theorem zsr_mono (co : Nat → Int32) (i : Nat) : ∀ d, zsr co i ≤ zsr co (i + d)
  | 0 => Nat.le_refl _
  | d + 1 => by
    have := zsr_mono co i d
    rw [← Nat.add_assoc]
    conv => rhs; unfold zsr
    split <;> omega
theorem zwd_le {ch : Bool} {co : Nat → Int32} {n : Nat} (h : zps ch co n ≠ none) (r : Nat) : ∀ i, i ≤ n → zwd co i r ≤ 60 * i
  | 0, _ => Nat.le_refl _
  | i + 1, hi => by
    have := zwd_le h r i (by omega)
    have := znm_le h (show i ≤ n by omega)
    unfold zwd
    split <;> omega
/-- a row that has not begun -/
theorem zwd_0 (co : Nat → Int32) : ∀ i r, zsr co i < r → zwd co i r = 0
  | 0, _, _ => rfl
  | i + 1, r, h => by
    have h2 : zsr co i ≤ zsr co (i + 1) := zsr_mono co i 1
    unfold zwd
    rw [if_neg (by omega)]
    exact zwd_0 co i r (by omega)
/-- a row that is finished -/
theorem zwd_fin (co : Nat → Int32) {i r : Nat} (h : r < zsr co i) : ∀ d, zwd co (i + d) r = zwd co i r
  | 0 => rfl
  | d + 1 => by
    have := zsr_mono co i d
    rw [← Nat.add_assoc]
    conv => lhs; unfold zwd
    rw [if_neg (by omega)]
    exact zwd_fin co h d
theorem zcl_fin (co : Nat → Int32) {i r : Nat} (h : r < zsr co i) (c : Nat) : ∀ d, zcl co (i + d) r c = zcl co i r c
  | 0 => rfl
  | d + 1 => by
    have := zsr_mono co i d
    rw [← Nat.add_assoc]
    conv => lhs; unfold zcl
    rw [if_neg (by omega)]
    exact zcl_fin co h c d
/-- the first L numbers of a row of 240 are those of g -/
def xfl (L : Nat) (g : Nat → Nat) (f : Nat → Int32) : Nat → Int32 := fun k => if k < L ∧ k < 240 then nI (g k) else f k
theorem xfl_congr {L : Nat} {g g' : Nat → Nat} {f : Nat → Int32} (h : ∀ k, k < L → g k = g' k) : xfl L g f = xfl L g' f := by
  funext k
  unfold xfl
  by_cases hk : k < L ∧ k < 240
  · rw [if_pos hk, if_pos hk, h k hk.1]
  · rw [if_neg hk, if_neg hk]
theorem xfl_in {L : Nat} {g : Nat → Nat} {f : Nat → Int32} {v : Int32} (h : L < 240) (hv : v = nI (g L)) : upd (xfl L g f) L v = xfl (L + 1) g f := by
  funext k
  unfold upd xfl
  by_cases hk : k = L
  · subst hk; rw [if_pos rfl, if_pos (by omega), hv]
  · rw [if_neg hk]
    by_cases h2 : k < L ∧ k < 240
    · rw [if_pos h2, if_pos (by omega)]
    · rw [if_neg h2, if_neg (by omega)]
theorem xfl_out {L : Nat} {g : Nat → Nat} {f : Nat → Int32} (h : 240 ≤ L) : xfl L g f = xfl (L + 1) g f := by
  funext k
  unfold xfl
  by_cases h2 : k < L ∧ k < 240
  · rw [if_pos h2, if_pos (by omega)]
  · rw [if_neg h2, if_neg (by omega)]
theorem xfl_0 {g : Nat → Nat} {f : Nat → Int32} : xfl 0 g f = f := by
  funext k
  unfold xfl
  rw [if_neg (by omega)]
theorem zst_let {ch : Bool} {s s' : Bool × Nat} {c : Nat} (h : zst ch s c = some s') (h47 : c ≠ 47) (hd : ¬ (48 ≤ c ∧ c ≤ 57)) : 97 ≤ c ∧ c ≤ 102 := by
  unfold zst at h
  rw [if_neg h47, if_neg hd] at h
  split at h
  · rename_i q; exact ⟨q.1, q.2.1⟩
  · cases h
theorem zps_let {ch : Bool} {co : Nat → Int32} {i n : Nat} (h : zps ch co n ≠ none) (hi : i < n) (h47 : zI co i ≠ 47) (hd : ¬ (48 ≤ zI co i ∧ zI co i ≤ 57)) : 97 ≤ zI co i ∧ zI co i ≤ 102 := by
  obtain ⟨s', hs'⟩ := zps_dn h (show i + 1 ≤ n by omega)
  unfold zps at hs'
  cases hz : zps ch co i with
  | none => rw [hz] at hs'; cases hs'
  | some s => rw [hz] at hs'; exact zst_let hs' h47 hd
section P20
variable {G : xG} {x : Nat} {w : Nat → Int32} {sv : Nat → Nat → Int32} {qo qm ql : Int32} {co : Nat → Int32} {s1 s2 : Int32} {sc sf : Nat → Int32} {T : List xE}
theorem S_T_readBeads {ch : Bool} {ln b e : Nat} (X : xTxt co ln) (hbe : b ≤ e) (hel : e ≤ ln) (hz : zps ch co e ≠ none) (hns : ∀ i, b ≤ i → i < e → zI co i ≠ 47) (hw0 : zwd co b (zsr co b) = 0) (hn0 : znm co b = 0) : xMet G T_readBeads [.ref 66, .ref 70, .int (nI b), .int (nI e)] (bHp w sv qo qm (nI ln) co (s1, s2, sc, sf) T) x 0 0 (xRetV (.int (nI (zwd co e (zsr co b)))) (bHp w sv qo qm (nI ln) co (s1, s2, sc, (xfl (zwd co e (zsr co b)) (zcl co e (zsr co b)) sf)) T)) := by
  have hl := X.1
  have hsr : ∀ i, b ≤ i → i ≤ e → zsr co i = zsr co b := by
    intro i
    induction i with
    | zero => intro h1 h2; rw [show b = 0 by omega]
    | succ i ih =>
      intro h1 h2
      by_cases h3 : b = i + 1
      · rw [h3]
      · rw [← ih (by omega) (by omega)]
        conv => lhs; unfold zsr
        rw [if_neg (hns i (by omega) (by omega))]
  generalize zsr co b = r at *
  have loop : ∀ (t i : Nat), i + t = e → b ≤ i → xW G T_readBeads (xRetV (.int (nI (zwd co e r))) (bHp w sv qo qm (nI ln) co (s1, s2, sc, (xfl (zwd co e r) (zcl co e r) sf)) T)) 9 [(6, .int (nI i)), (5, .int (nI (znm co i))), (4, .int (nI (zwd co i r))), (0, .ref 66), (1, .ref 70), (2, .int (nI b)), (3, .int (nI e))] [] (bHp w sv qo qm (nI ln) co (s1, s2, sc, (xfl (zwd co i r) (zcl co i r) sf)) T) x 0 0 := by
    intro t
    induction t with
    | zero =>
      intro i hi hb
      have e1 : i = e := by omega
      subst e1
      refine xw_iload 11 dX2_readBeads_9 rfl rfl ?_
      refine xw_iload_n 12 dX2_readBeads_11 rfl rfl ?_
      refine xw_icmp_ge 102 15 dX2_readBeads_12 rfl rfl (fun h12 => ?_) (fun h12 => absurd (nI_le (by omega) (by omega)) h12)
      refine xw_iload 104 dX2_readBeads_102 rfl rfl ?_
      exact xw_ireturn dX2_readBeads_104 rfl (⟨rfl, rfl⟩)
    | succ t ih =>
      intro i hi hb
      have ih := ih (i + 1) (by omega) (by omega)
      obtain ⟨c1, c2, c3⟩ := X.2 i (by omega)
      have h47 := hns i hb (by omega)
      have hnl := znm_le hz (show i ≤ e by omega)
      have hwl := zwd_le hz r i (by omega)
      have hri := hsr i hb (by omega)
      have hDG := S_T_isDigit (G := G) (hp := (bHp w sv qo qm (nI ln) co (s1, s2, sc, (xfl (zwd co i r) (zcl co i r) sf)) T)) (x := x) (c := zI co i) (by omega)
      by_cases hd : 48 ≤ zI co i ∧ zI co i ≤ 57
      · rw [if_pos hd] at hDG
        have e1 : znm co (i + 1) = 10 * znm co i + (zI co i - 48) := by
          conv => lhs; unfold znm
          rw [if_pos (by unfold zdg; exact decide_eq_true hd)]
        have e2 : zwd co (i + 1) r = zwd co i r := by
          conv => lhs; unfold zwd
          rw [if_neg (by unfold zdg; rw [decide_eq_true hd]; simp)]
        have e3 : zcl co (i + 1) r = zcl co i r := by
          funext c
          conv => lhs; unfold zcl
          rw [if_neg (by unfold zdg; rw [decide_eq_true hd]; simp)]
        rw [e1, e2, e3] at ih
        refine xw_iload 11 dX2_readBeads_9 rfl rfl ?_
        refine xw_iload_n 12 dX2_readBeads_11 rfl rfl ?_
        refine xw_icmp_ge 102 15 dX2_readBeads_12 rfl rfl (fun h12 => absurd h12 (nI_ge (by omega) (by omega))) (fun h12 => ?_)
        refine xw_aload_n 16 dX2_readBeads_15 rfl rfl rfl ?_
        refine xw_get 19 dX2_readBeads_16 rfl f_X2_9 (rfl) rfl ?_
        refine xw_iload 21 dX2_readBeads_19 rfl rfl ?_
        refine xw_pSN 24 dX2_readBeads_21 rfl ok_B_at s_X2_19 (S_B_atv rfl (by decide) rfl (by omega) c1) (bHp_len) rfl rfl rfl rfl rfl rfl ?_
        refine xw_istore (ls' := [(7, _), (6, _), (5, _), (4, _), (0, _), (1, _), (2, _), (3, _)]) 26 dX2_readBeads_24 rfl rfl rfl ?_
        refine xw_iload 28 dX2_readBeads_26 rfl rfl ?_
        refine xw_pS 31 dX2_readBeads_28 rfl ok_T_isDigit s_X2_39 (hDG) (bHp_len) rfl rfl rfl rfl rfl rfl ?_
        refine xw_if_eq 50 34 dX2_readBeads_31 rfl rfl (fun h31 => absurd h31 (by decide)) (fun h31 => ?_)
        refine xw_bipush 36 (nI 10) dX2_readBeads_34 rfl (by decide) ?_
        refine xw_iload 38 dX2_readBeads_36 rfl rfl ?_
        refine xw_imul 39 dX2_readBeads_38 rfl ?_
        rw [pk_mul (a := 10)]
        refine xw_iload 41 dX2_readBeads_39 rfl rfl ?_
        refine xw_iadd 42 dX2_readBeads_41 rfl ?_
        rw [nI_add]
        refine xw_bipush 44 (nI 48) dX2_readBeads_42 rfl (by decide) ?_
        refine xw_isub 45 dX2_readBeads_44 rfl ?_
        rw [pk_sub (by omega), show 10 * znm co i + zI co i - 48 = 10 * znm co i + (zI co i - 48) by omega]
        refine xw_istore (ls' := [(5, _), (7, _), (6, _), (4, _), (0, _), (1, _), (2, _), (3, _)]) 47 dX2_readBeads_45 rfl rfl rfl ?_
        refine xw_goto 96 dX2_readBeads_47 rfl ?_
        refine xw_iinc (ls' := [(6, _), (5, _), (7, _), (4, _), (0, _), (1, _), (2, _), (3, _)]) 99 _ dX2_readBeads_96 rfl rfl (xnI_inc _) rfl rfl ?_
        refine xw_goto 9 dX2_readBeads_99 rfl ?_
        exact xW.pick [0, 1, 3, 4, 5, 6, 7] rfl (ih)
      · rw [if_neg hd] at hDG
        have hlt := zps_let hz (show i < e by omega) h47 hd
        have hdg : zdg (zI co i) = false := by unfold zdg; exact decide_eq_false hd
        have e1 : znm co (i + 1) = 0 := by
          conv => lhs; unfold znm
          rw [hdg]
          rfl
        have e2 : zwd co (i + 1) r = zwd co i r + max 1 (znm co i) := by
          conv => lhs; unfold zwd
          rw [if_pos ⟨h47, hdg, hri.symm⟩]
        have e3 : ∀ c, c < zwd co i r → zcl co i r c = zcl co (i + 1) r c := by
          intro c hc
          conv => rhs; unfold zcl
          rw [if_neg (by omega)]
        have e4 : ∀ c, zwd co i r ≤ c → zcl co (i + 1) r c = zI co i - 97 := by
          intro c hc
          conv => lhs; unfold zcl
          rw [if_pos ⟨⟨h47, hdg, hri.symm⟩, hc⟩]
        have emx : nI (zwd co i r) + (if nI 1 < nI (znm co i) then nI (znm co i) else nI 1) = nI (zwd co (i + 1) r) := by
          rw [e2]
          by_cases h1 : 1 < znm co i
          · rw [if_pos (nI_lt h1 (by omega)), nI_add]
            congr 2
            omega
          · rw [if_neg (nI_nlt (by omega) (by decide)), nI_add]
            congr 2
            omega
        have hml : max 1 (znm co i) ≤ 60 := by omega
        rw [xfl_congr e3] at hDG ⊢
        rw [e1] at ih
        have fill : ∀ (u j : Nat), j + u = zwd co (i + 1) r → zwd co i r ≤ j → xW G T_readBeads (xRetV (.int (nI (zwd co e r))) (bHp w sv qo qm (nI ln) co (s1, s2, sc, (xfl (zwd co e r) (zcl co e r) sf)) T)) 65 [(9, .int (nI j)), (8, .int (nI (zwd co (i + 1) r))), (7, .int (nI (zI co i))), (6, .int (nI i)), (5, .int (nI (znm co i))), (4, .int (nI (zwd co i r))), (0, .ref 66), (1, .ref 70), (2, .int (nI b)), (3, .int (nI e))] [] (bHp w sv qo qm (nI ln) co (s1, s2, sc, (xfl j (zcl co (i + 1) r) sf)) T) x 0 0 := by
          intro u
          induction u with
          | zero =>
            intro j hj hj2
            have ej : j = zwd co (i + 1) r := by omega
            subst ej
            refine xw_iload 67 dX2_readBeads_65 rfl rfl ?_
            refine xw_iload 69 dX2_readBeads_67 rfl rfl ?_
            refine xw_icmp_ge 89 72 dX2_readBeads_69 rfl rfl (fun h69 => ?_) (fun h69 => absurd (nI_le (by omega) (by omega)) h69)
            refine xw_iload 91 dX2_readBeads_89 rfl rfl ?_
            refine xw_istore (ls' := [(4, _), (9, _), (8, _), (7, _), (6, _), (5, _), (0, _), (1, _), (2, _), (3, _)]) 93 dX2_readBeads_91 rfl rfl rfl ?_
            refine xw_iconst 94 (nI 0) dX2_readBeads_93 rfl (xofI 0) ?_
            refine xw_istore (ls' := [(5, _), (4, _), (9, _), (8, _), (7, _), (6, _), (0, _), (1, _), (2, _), (3, _)]) 96 dX2_readBeads_94 rfl rfl rfl ?_
            refine xw_iinc (ls' := [(6, _), (5, _), (4, _), (9, _), (8, _), (7, _), (0, _), (1, _), (2, _), (3, _)]) 99 _ dX2_readBeads_96 rfl rfl (xnI_inc _) rfl rfl ?_
            refine xw_goto 9 dX2_readBeads_99 rfl ?_
            exact xW.pick [0, 1, 2, 6, 7, 8, 9] rfl (ih)
          | succ u ih2 =>
            intro j hj hj2
            have ih2 := ih2 (j + 1) (by omega) (by omega)
            by_cases hb : j < 240
            · rw [← xfl_in hb (v := nI (zI co i - 97)) (by rw [e4 j hj2])] at ih2
              refine xw_iload 67 dX2_readBeads_65 rfl rfl ?_
              refine xw_iload 69 dX2_readBeads_67 rfl rfl ?_
              refine xw_icmp_ge 89 72 dX2_readBeads_69 rfl rfl (fun h69 => absurd h69 (nI_ge (by omega) (by omega))) (fun h69 => ?_)
              refine xw_aload_n 73 dX2_readBeads_72 rfl rfl rfl ?_
              refine xw_iload 75 dX2_readBeads_73 rfl rfl ?_
              refine xw_iload 77 dX2_readBeads_75 rfl rfl ?_
              refine xw_bipush 79 (nI 97) dX2_readBeads_77 rfl (by decide) ?_
              refine xw_isub 80 dX2_readBeads_79 rfl ?_
              rw [pk_sub (by omega)]
              refine xw_pSNv 83 dX2_readBeads_80 rfl ok_B_put s_X2_55 (S_B_put (h1 := (bHp w sv qo qm (nI ln) co (s1, s2, sc, (upd (xfl j (zcl co (i + 1) r) sf) j (nI (zI co i - 97)))) T)) rfl (by decide) rfl hb rfl) (bHp_len) rfl rfl rfl rfl rfl rfl ?_
              refine xw_iinc (ls' := [(9, _), (8, _), (7, _), (6, _), (5, _), (4, _), (0, _), (1, _), (2, _), (3, _)]) 86 _ dX2_readBeads_83 rfl rfl (xnI_inc _) rfl rfl ?_
              refine xw_goto 65 dX2_readBeads_86 rfl ?_
              exact xW.pick [0, 1, 2, 3, 4, 5, 6, 7, 8, 9] rfl (ih2)
            · rw [← xfl_out (by omega)] at ih2
              refine xw_iload 67 dX2_readBeads_65 rfl rfl ?_
              refine xw_iload 69 dX2_readBeads_67 rfl rfl ?_
              refine xw_icmp_ge 89 72 dX2_readBeads_69 rfl rfl (fun h69 => absurd h69 (nI_ge (by omega) (by omega))) (fun h69 => ?_)
              refine xw_aload_n 73 dX2_readBeads_72 rfl rfl rfl ?_
              refine xw_iload 75 dX2_readBeads_73 rfl rfl ?_
              refine xw_iload 77 dX2_readBeads_75 rfl rfl ?_
              refine xw_bipush 79 (nI 97) dX2_readBeads_77 rfl (by decide) ?_
              refine xw_isub 80 dX2_readBeads_79 rfl ?_
              rw [pk_sub (by omega)]
              refine xw_pSNv 83 dX2_readBeads_80 rfl ok_B_put s_X2_55 (S_B_put_out rfl (by decide) rfl (by omega) (by omega)) (bHp_len) rfl rfl rfl rfl rfl rfl ?_
              refine xw_iinc (ls' := [(9, _), (8, _), (7, _), (6, _), (5, _), (4, _), (0, _), (1, _), (2, _), (3, _)]) 86 _ dX2_readBeads_83 rfl rfl (xnI_inc _) rfl rfl ?_
              refine xw_goto 65 dX2_readBeads_86 rfl ?_
              exact xW.pick [0, 1, 2, 3, 4, 5, 6, 7, 8, 9] rfl (ih2)
        refine xw_iload 11 dX2_readBeads_9 rfl rfl ?_
        refine xw_iload_n 12 dX2_readBeads_11 rfl rfl ?_
        refine xw_icmp_ge 102 15 dX2_readBeads_12 rfl rfl (fun h12 => absurd h12 (nI_ge (by omega) (by omega))) (fun h12 => ?_)
        refine xw_aload_n 16 dX2_readBeads_15 rfl rfl rfl ?_
        refine xw_get 19 dX2_readBeads_16 rfl f_X2_9 (rfl) rfl ?_
        refine xw_iload 21 dX2_readBeads_19 rfl rfl ?_
        refine xw_pSN 24 dX2_readBeads_21 rfl ok_B_at s_X2_19 (S_B_atv rfl (by decide) rfl (by omega) c1) (bHp_len) rfl rfl rfl rfl rfl rfl ?_
        refine xw_istore (ls' := [(7, _), (6, _), (5, _), (4, _), (0, _), (1, _), (2, _), (3, _)]) 26 dX2_readBeads_24 rfl rfl rfl ?_
        refine xw_iload 28 dX2_readBeads_26 rfl rfl ?_
        refine xw_pS 31 dX2_readBeads_28 rfl ok_T_isDigit s_X2_39 (hDG) (bHp_len) rfl rfl rfl rfl rfl rfl ?_
        refine xw_if_eq 50 34 dX2_readBeads_31 rfl rfl (fun h31 => ?_) (fun h31 => absurd (by decide) h31)
        refine xw_iload 52 dX2_readBeads_50 rfl rfl ?_
        refine xw_iconst 53 (nI 1) dX2_readBeads_52 rfl (xofI 1) ?_
        refine xw_iload 55 dX2_readBeads_53 rfl rfl ?_
        refine xw_max 58 dX2_readBeads_55 rfl s_X2_49 rfl rfl rfl ?_
        refine xw_iadd 59 dX2_readBeads_58 rfl ?_
        rw [emx]
        refine xw_istore (ls' := [(8, _), (7, _), (6, _), (5, _), (4, _), (0, _), (1, _), (2, _), (3, _)]) 61 dX2_readBeads_59 rfl rfl rfl ?_
        refine xw_iload 63 dX2_readBeads_61 rfl rfl ?_
        refine xw_istore (ls' := [(9, _), (8, _), (7, _), (6, _), (5, _), (4, _), (0, _), (1, _), (2, _), (3, _)]) 65 dX2_readBeads_63 rfl rfl rfl ?_
        exact xW.pick [0, 1, 2, 3, 4, 5, 6, 7, 8, 9] rfl (fill (max 1 (znm co i)) (zwd co i r) (by omega) (Nat.le_refl _))
  have h9 := loop (e - b) b (by omega) (Nat.le_refl _)
  rw [hw0, hn0, xfl_0] at h9
  refine xw_iconst 1 (nI 0) dX2_readBeads_0 rfl (xofI 0) ?_
  refine xw_istore (ls' := [(4, _), (0, _), (1, _), (2, _), (3, _)]) 3 dX2_readBeads_1 rfl rfl rfl ?_
  refine xw_iconst 4 (nI 0) dX2_readBeads_3 rfl (xofI 0) ?_
  refine xw_istore (ls' := [(5, _), (4, _), (0, _), (1, _), (2, _), (3, _)]) 6 dX2_readBeads_4 rfl rfl rfl ?_
  refine xw_iload_n 7 dX2_readBeads_6 rfl rfl ?_
  refine xw_istore (ls' := [(6, _), (5, _), (4, _), (0, _), (1, _), (2, _), (3, _)]) 9 dX2_readBeads_7 rfl rfl rfl ?_
  exact xW.pick [0, 1, 2, 3, 4, 5, 6] rfl (h9)
end P20

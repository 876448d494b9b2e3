/-! ===== the model: a chart that is read ===== -/
/-- what the rows of parts hold -/
def zpt (co : Nat → Int32) (n : Nat) (pR pC pM : Nat → Int32) : Prop := ∀ i, i < n → zlet co i → pR (zpn co i) = zvR co i ∧ pC (zpn co i) = zvC co i ∧ pM (zpn co i) = zvM co i
theorem zpt_A {co pR pC pM : Nat → Int32} {n : Nat} : zpt co n (zpA co pR (zvR co) n) (zpA co pC (zvC co) n) (zpA co pM (zvM co) n) := by
  intro i hi hl
  have e := fun (f v : Nat → Int32) => zpA_at (co := co) (f := f) (v := v) hl (n - (i + 1))
  rw [show i + 1 + (n - (i + 1)) = n by omega] at e
  exact ⟨e _ _, e _ _, e _ _⟩
theorem zwd_y {co : Nat → Int32} {i : Nat} (h : zlet co i) : zwd co (i + 1) (zsr co i) = zwd co i (zsr co i) + max 1 (znm co i) := if_pos ⟨h.1, h.2, rfl⟩
theorem zwd_n {co : Nat → Int32} {i r : Nat} (h : ¬ (zlet co i ∧ r = zsr co i)) : zwd co (i + 1) r = zwd co i r := if_neg (fun q => h ⟨⟨q.1, q.2.1⟩, q.2.2⟩)
theorem zwd_mono (co : Nat → Int32) (r i : Nat) : ∀ d, zwd co i r ≤ zwd co (i + d) r
  | 0 => Nat.le_refl _
  | d + 1 => by
    have := zwd_mono co r i d
    rw [← Nat.add_assoc]
    by_cases h : zlet co (i + d) ∧ r = zsr co (i + d)
    · obtain ⟨h1, rfl⟩ := h
      rw [zwd_y h1]
      omega
    · rw [zwd_n h]; exact this
theorem zsr_l {co : Nat → Int32} {i : Nat} (h : zlet co i) : zsr co (i + 1) = zsr co i := zsr_n h.1
theorem zpn_mono (co : Nat → Int32) (i : Nat) : ∀ d, zpn co i ≤ zpn co (i + d)
  | 0 => Nat.le_refl _
  | d + 1 => by
    have := zpn_mono co i d
    rw [← Nat.add_assoc]
    by_cases h : zlet co (i + d)
    · rw [zpn_y h]; omega
    · rw [zpn_n h]; exact this
theorem zpn_lt {co : Nat → Int32} {i n : Nat} (h : zlet co i) (hi : i < n) : zpn co i < zpn co n := by
  have := zpn_mono co (i + 1) (n - (i + 1))
  rw [show i + 1 + (n - (i + 1)) = n by omega, zpn_y h] at this
  omega
theorem zcl_y {co : Nat → Int32} {i c : Nat} (h : zlet co i) (hc : zwd co i (zsr co i) ≤ c) : zcl co (i + 1) (zsr co i) c = zI co i - 97 := if_pos ⟨⟨h.1, h.2, rfl⟩, hc⟩
theorem zcl_n {co : Nat → Int32} {i r c : Nat} (h : ¬ (zlet co i ∧ r = zsr co i ∧ zwd co i r ≤ c)) : zcl co (i + 1) r c = zcl co i r c := if_neg (fun q => h ⟨⟨q.1.1, q.1.2.1⟩, q.1.2.2, q.2⟩)
theorem zcl_keep {co : Nat → Int32} {i r c : Nat} (h : c < zwd co i r) : ∀ d, zcl co (i + d) r c = zcl co i r c
  | 0 => rfl
  | d + 1 => by
    have := zwd_mono co r i d
    rw [← Nat.add_assoc, zcl_n (fun q => by have := q.2.2; omega)]
    exact zcl_keep h d
/-- m numbers v in the row r from the column c on -/
def zlr (f : Nat → Int32) (r c m v : Nat) : Nat → Int32 := fun k => if r * 12 + c ≤ k ∧ k < r * 12 + c + m then nI v else f k
theorem zlr_0 (f : Nat → Int32) (r c v : Nat) : zlr f r c 0 v = f := by
  funext k
  unfold zlr
  rw [if_neg (by omega)]
theorem zlr_s (f : Nat → Int32) (r c m v : Nat) : upd (zlr f r c m v) (r * 12 + (c + m)) (nI v) = zlr f r c (m + 1) v := by
  funext k
  by_cases h : k = r * 12 + (c + m)
  · subst h
    rw [upd_at]
    unfold zlr
    rw [if_pos (by omega)]
  · rw [upd_ne h]
    unfold zlr
    by_cases h2 : r * 12 + c ≤ k ∧ k < r * 12 + c + m
    · rw [if_pos h2, if_pos (by omega)]
    · rw [if_neg h2, if_neg (by omega)]
/-- the cells laid behind i characters -/
def zol (co ot : Nat → Int32) : Nat → Nat → Int32
  | 0 => ot
  | i + 1 => if zI co i ≠ 47 ∧ zdg (zI co i) = false then zlr (zol co ot i) (zsr co i) (zwd co i (zsr co i)) (max 1 (znm co i)) (zI co i - 97) else zol co ot i
theorem zol_y {co ot : Nat → Int32} {i : Nat} (h : zlet co i) : zol co ot (i + 1) = zlr (zol co ot i) (zsr co i) (zwd co i (zsr co i)) (max 1 (znm co i)) (zI co i - 97) := if_pos h
theorem zol_n {co ot : Nat → Int32} {i : Nat} (h : ¬ zlet co i) : zol co ot (i + 1) = zol co ot i := if_neg h
theorem zol_at {co ot : Nat → Int32} {n : Nat} (hw : ∀ r, r < zsr co n + 1 → zwd co n r ≤ 12) : ∀ i, i ≤ n → ∀ r c, c < zwd co i r → zol co ot i (r * 12 + c) = nI (zcl co i r c)
  | 0, _, _, _, h => absurd h (Nat.not_lt_zero _)
  | i + 1, hi, r, c, h => by
    have ih := zol_at (ot := ot) hw i (by omega) r c
    by_cases hl : zlet co i
    · rw [zol_y hl]
      have hs := zsr_mono co i (n - i)
      rw [show i + (n - i) = n by omega] at hs
      have h12 := hw (zsr co i) (by omega)
      have hm := zwd_mono co (zsr co i) (i + 1) (n - (i + 1))
      rw [show i + 1 + (n - (i + 1)) = n by omega, zwd_y hl] at hm
      by_cases hr : r = zsr co i
      · subst hr
        rw [zwd_y hl] at h
        unfold zlr
        by_cases hc : zwd co i (zsr co i) ≤ c
        · rw [if_pos (by omega), zcl_y hl hc]
        · rw [if_neg (by omega), zcl_n (fun q => hc q.2.2)]
          exact ih (by omega)
      · rw [zwd_n (fun q => hr q.2)] at h
        have h13 : c < 12 ∨ 12 ≤ c := by omega
        rw [zcl_n (fun q => hr q.2.1)]
        unfold zlr
        have hcr : c < 12 := by
          rcases h13 with h13 | h13
          · exact h13
          · exfalso
            have hm2 := zwd_mono co r i (n - i)
            rw [show i + (n - i) = n by omega] at hm2
            by_cases q : r < zsr co n + 1
            · have := hw r q; omega
            · have := zwd_0 co n r (by omega); omega
        rw [if_neg (by omega)]
        exact ih h
    · rw [zol_n hl, zcl_n (fun q => hl q.1)]
      rw [zwd_n (fun q => hl q.1)] at h
      exact ih h
/-- t rows from r on have C cells -/
def zal (co : Nat → Int32) (n C : Nat) : Nat → Nat → Bool
  | _, 0 => true
  | r, t + 1 => decide (zwd co n r = C) && zal co n C (r + 1) t
theorem zal_iff {co : Nat → Int32} {n C : Nat} : ∀ {t r : Nat}, zal co n C r t = true ↔ ∀ k, r ≤ k → k < r + t → zwd co n k = C
  | 0, r => ⟨fun _ k h1 h2 => absurd h2 (by omega), fun _ => rfl⟩
  | t + 1, r => by
    unfold zal
    rw [Bool.and_eq_true, zal_iff]
    constructor
    · intro h k h1 h2
      by_cases e : k = r
      · subst e; exact of_decide_eq_true h.1
      · exact h.2 k (by omega) (by omega)
    · intro h
      exact ⟨decide_eq_true (h r (by omega) (by omega)), fun k h1 h2 => h k (by omega) (by omega)⟩
theorem zok_al {co : Nat → Int32} {n : Nat} : (decide (zsr co n + 1 ≤ 10 ∧ zwd co n 0 ≤ 12) && zal co n (zwd co n 0) 1 (zsr co n)) = zok co n := by
  rw [Bool.eq_iff_iff, Bool.and_eq_true, decide_eq_true_iff, zal_iff]
  unfold zok
  rw [decide_eq_true_iff]
  constructor
  · intro h
    refine ⟨h.1.1, h.1.2, fun r hr => ?_⟩
    by_cases e : r = 0
    · rw [e]
    · exact h.2 r (by omega) (by omega)
  · intro h
    exact ⟨⟨h.1, h.2.1⟩, fun k h1 h2 => h.2.2 k (by omega)⟩
section P50
variable {G : xG} {x : Nat} {A T : List xE} {z hi tx ot wa pR pC pM fe kc : Nat → Int32} {s ln : Nat} {th oR oC ps rr ha nu : Int32} {hs : Int64}
theorem S_M_cellsIn {r ln0 : Nat} {ch : Bool} (hA : A.length = 71) (hP : zpt tx ln pR pC pM) (hz : zps ch tx ln ≠ none) (hl : ln ≤ 60) (hr : r < 100) : xMet G M_cellsIn [.ref 71, .int (nI r)] (mH A z (nI s) hi (nI ln0) tx th ot oR oC wa pR pC pM (nI (zpn tx ln)) rr ha nu fe kc hs T) x 0 0 (xRetV (.int (nI (zwd tx ln r))) (mH A z (nI s) hi (nI ln0) tx th ot oR oC wa pR pC pM (nI (zpn tx ln)) rr ha nu fe kc hs T)) := by
  have hpl := zpn_le tx ln
  have loop : ∀ (t i : Nat), i + t = ln → xW G M_cellsIn (xRetV (.int (nI (zwd tx ln r))) (mH A z (nI s) hi (nI ln0) tx th ot oR oC wa pR pC pM (nI (zpn tx ln)) rr ha nu fe kc hs T)) 4 [(3, .int (nI (zpn tx i))), (2, .int (nI (zwd tx i r))), (0, .ref 71), (1, .int (nI r))] [] (mH A z (nI s) hi (nI ln0) tx th ot oR oC wa pR pC pM (nI (zpn tx ln)) rr ha nu fe kc hs T) x 0 0 := by
    intro t
    induction t with
    | zero =>
      intro i hi9
      have e : i = ln := by omega
      rw [e]
      refine xw_iload_n 5 dX5_cellsIn_4 rfl rfl ?_
      refine xw_aload_n 6 dX5_cellsIn_5 rfl rfl rfl ?_
      refine xw_get 9 dX5_cellsIn_6 rfl f_X5_134 (xA hA rfl) rfl ?_
      refine xw_icmp_ge 41 12 dX5_cellsIn_9 rfl rfl (fun h9 => ?_) (fun h9 => absurd (nI_le (Nat.le_refl _) (by omega)) h9)
      refine xw_iload_n 42 dX5_cellsIn_41 rfl rfl ?_
      exact xw_ireturn dX5_cellsIn_42 rfl (⟨rfl, rfl⟩)
    | succ t ih =>
      intro i hi9
      have ih := ih (i + 1) (by omega)
      by_cases hl1 : zlet tx i
      · have hp := zpn_lt hl1 (show i < ln by omega)
        obtain ⟨q1, q2, q3⟩ := hP i (by omega) hl1
        have hsr := zsr_le tx i
        rw [zpn_y hl1] at ih
        by_cases hrr : r = zsr tx i
        · subst hrr
          rw [zwd_y hl1] at ih
          refine xw_iload_n 5 dX5_cellsIn_4 rfl rfl ?_
          refine xw_aload_n 6 dX5_cellsIn_5 rfl rfl rfl ?_
          refine xw_get 9 dX5_cellsIn_6 rfl f_X5_134 (xA hA rfl) rfl ?_
          refine xw_icmp_ge 41 12 dX5_cellsIn_9 rfl rfl (fun h9 => absurd h9 (nI_ge hp (by omega))) (fun h9 => ?_)
          refine xw_iload_n 13 dX5_cellsIn_12 rfl rfl ?_
          refine xw_aload_n 14 dX5_cellsIn_13 rfl rfl rfl ?_
          refine xw_get 17 dX5_cellsIn_14 rfl f_X5_25 (xA hA rfl) rfl ?_
          refine xw_iload_n 18 dX5_cellsIn_17 rfl rfl ?_
          refine xw_ialv (j := _) 19 dX5_cellsIn_18 rfl (xA hA rfl) (rfl) (by omega) (by omega) (q1) ?_
          refine xw_iload_n 20 dX5_cellsIn_19 rfl rfl ?_
          refine xw_icmp_ne 32 23 dX5_cellsIn_20 rfl rfl (fun h20 => absurd (rfl) h20) (fun h20 => ?_)
          refine xw_aload_n 24 dX5_cellsIn_23 rfl rfl rfl ?_
          refine xw_get 27 dX5_cellsIn_24 rfl f_X5_31 (xA hA rfl) rfl ?_
          refine xw_iload_n 28 dX5_cellsIn_27 rfl rfl ?_
          refine xw_ialv (j := _) 29 dX5_cellsIn_28 rfl (xA hA rfl) (rfl) (by omega) (by omega) (q3) ?_
          refine xw_goto 33 dX5_cellsIn_29 rfl ?_
          refine xw_iadd 34 dX5_cellsIn_33 rfl ?_
          rw [show zvM tx i = nI (max 1 (znm tx i)) from rfl, nI_add]
          refine xw_istore_n (ls' := [(2, _), (3, _), (0, _), (1, _)]) 35 dX5_cellsIn_34 rfl rfl rfl ?_
          refine xw_iinc (ls' := [(3, _), (2, _), (0, _), (1, _)]) 38 _ dX5_cellsIn_35 rfl rfl (xnI_inc _) rfl rfl ?_
          refine xw_goto 4 dX5_cellsIn_38 rfl ?_
          exact xW.pick [0, 1, 2, 3] rfl (ih)
        · rw [zwd_n (fun q => hrr q.2)] at ih
          refine xw_iload_n 5 dX5_cellsIn_4 rfl rfl ?_
          refine xw_aload_n 6 dX5_cellsIn_5 rfl rfl rfl ?_
          refine xw_get 9 dX5_cellsIn_6 rfl f_X5_134 (xA hA rfl) rfl ?_
          refine xw_icmp_ge 41 12 dX5_cellsIn_9 rfl rfl (fun h9 => absurd h9 (nI_ge hp (by omega))) (fun h9 => ?_)
          refine xw_iload_n 13 dX5_cellsIn_12 rfl rfl ?_
          refine xw_aload_n 14 dX5_cellsIn_13 rfl rfl rfl ?_
          refine xw_get 17 dX5_cellsIn_14 rfl f_X5_25 (xA hA rfl) rfl ?_
          refine xw_iload_n 18 dX5_cellsIn_17 rfl rfl ?_
          refine xw_ialv (j := _) 19 dX5_cellsIn_18 rfl (xA hA rfl) (rfl) (by omega) (by omega) (q1) ?_
          refine xw_iload_n 20 dX5_cellsIn_19 rfl rfl ?_
          refine xw_icmp_ne 32 23 dX5_cellsIn_20 rfl rfl (fun h20 => ?_) (fun h20 => absurd h20 (fun q => by rw [show zvR tx i = nI (zsr tx i) from rfl, nI_eq (by omega) (by omega)] at q; omega))
          refine xw_iconst 33 (nI 0) dX5_cellsIn_32 rfl (xofI 0) ?_
          refine xw_iadd 34 dX5_cellsIn_33 rfl ?_
          rw [nI_add]
          refine xw_istore_n (ls' := [(2, _), (3, _), (0, _), (1, _)]) 35 dX5_cellsIn_34 rfl rfl rfl ?_
          refine xw_iinc (ls' := [(3, _), (2, _), (0, _), (1, _)]) 38 _ dX5_cellsIn_35 rfl rfl (xnI_inc _) rfl rfl ?_
          refine xw_goto 4 dX5_cellsIn_38 rfl ?_
          exact xW.pick [0, 1, 2, 3] rfl (ih)
      · rw [zpn_n hl1, zwd_n (fun q => hl1 q.1)] at ih
        exact ih
  refine xw_iconst 1 (nI 0) dX5_cellsIn_0 rfl (xofI 0) ?_
  refine xw_istore_n (ls' := [(2, _), (0, _), (1, _)]) 2 dX5_cellsIn_1 rfl rfl rfl ?_
  refine xw_iconst 3 (nI 0) dX5_cellsIn_2 rfl (xofI 0) ?_
  refine xw_istore_n (ls' := [(3, _), (2, _), (0, _), (1, _)]) 4 dX5_cellsIn_3 rfl rfl rfl ?_
  exact loop ln 0 (by omega)
theorem S_M_layChart {ch : Bool} (hA : A.length = 71) (hP : zpt tx ln pR pC pM) (hz : zps ch tx ln ≠ none) (hl : ln ≤ 60) : xMet G M_layChart [.ref 71] (mH A z (nI s) hi (nI ln) tx th ot oR oC wa pR pC pM (nI (zpn tx ln)) (nI (zsr tx ln)) ha nu fe kc hs T) x 0 0 (xRetV (.int (nI (xb01 (zok tx ln)))) (mH A z (nI s) hi (nI ln) tx th (if zok tx ln = true then zol tx ot ln else ot) (nI (zsr tx ln + 1)) (nI (zwd tx ln 0)) wa pR pC pM (nI (zpn tx ln)) (nI (zsr tx ln)) ha nu fe kc hs T)) := by
  have hpl := zpn_le tx ln
  have hsl := zsr_le tx ln
  have hw0 := zwd_le hz 0 ln (Nat.le_refl _)
  have fill : zok tx ln = true → ∀ (t i col : Nat), i + t = ln → ((zpn tx i = 0 ∧ col = 0 ∧ ∀ r, zwd tx i r = 0) ∨ (∃ p ρ, zpn tx i = p + 1 ∧ pR p = nI ρ ∧ ρ ≤ zsr tx i ∧ col = zwd tx i ρ ∧ ∀ r, ρ < r → zwd tx i r = 0)) → xW G M_layChart (xRetV (.int (nI (xb01 true))) (mH A z (nI s) hi (nI ln) tx th (zol tx ot ln) (nI (zsr tx ln + 1)) (nI (zwd tx ln 0)) wa pR pC pM (nI (zpn tx ln)) (nI (zsr tx ln)) ha nu fe kc hs T)) 85 [(3, .int (nI (zpn tx i))), (2, .int (nI col)), (0, .ref 71), (1, .int (nI (xb01 true)))] [] (mH A z (nI s) hi (nI ln) tx th (zol tx ot i) (nI (zsr tx ln + 1)) (nI (zwd tx ln 0)) wa pR pC pM (nI (zpn tx ln)) (nI (zsr tx ln)) ha nu fe kc hs T) x 0 0 := by
    intro hk t
    obtain ⟨hk1, hk2⟩ := zok_is hk
    have hkw : ∀ r, r < zsr tx ln + 1 → zwd tx ln r ≤ 12 := fun r hr => by
      unfold zok at hk
      have := (of_decide_eq_true hk).2.2 r hr
      omega
    induction t with
    | zero =>
      intro i col hi9 hc
      have e : i = ln := by omega
      rw [e]
      refine xw_iload_n 86 dX5_layChart_85 rfl rfl ?_
      refine xw_aload_n 87 dX5_layChart_86 rfl rfl rfl ?_
      refine xw_get 90 dX5_layChart_87 rfl f_X5_134 (xA hA rfl) rfl ?_
      refine xw_icmp_ge 175 93 dX5_layChart_90 rfl rfl (fun h90 => ?_) (fun h90 => absurd (nI_le (Nat.le_refl _) (by omega)) h90)
      refine xw_iload_n 176 dX5_layChart_175 rfl rfl ?_
      exact xw_zreturn dX5_layChart_176 rfl (Or.inr rfl) (⟨rfl, rfl⟩)
    | succ t ih =>
      intro i col hi9 hc
      by_cases hl1 : zlet tx i
      · have hp := zpn_lt hl1 (show i < ln by omega)
        obtain ⟨q1, q2, q3⟩ := hP i (by omega) hl1
        have q1' : pR (zpn tx i) = nI (zsr tx i) := q1
        have q2' : pC (zpn tx i) = nI (zI tx i - 97) := q2
        have q3' : pM (zpn tx i) = nI (max 1 (znm tx i)) := q3
        have hsr := zsr_le tx i
        have hsm := zsr_mono tx i (ln - i)
        rw [show i + (ln - i) = ln by omega] at hsm
        have hnm := znm_le hz (show i ≤ ln by omega)
        have hmx : (max 1 (znm tx i)) ≤ 60 := Nat.max_le.mpr ⟨by omega, hnm⟩
        have hm := zwd_mono tx (zsr tx i) (i + 1) (ln - (i + 1))
        rw [show i + 1 + (ln - (i + 1)) = ln by omega, zwd_y hl1] at hm
        have h12 := hkw (zsr tx i) (by omega)
        have ih := ih (i + 1) (zwd tx (i + 1) (zsr tx i)) (by omega) (Or.inr ⟨zpn tx i, zsr tx i, zpn_y hl1, q1', by rw [zsr_l hl1]; exact Nat.le_refl _, rfl, fun r hr => zwd_0 tx (i + 1) r (by rw [zsr_l hl1]; exact hr)⟩)
        rw [zpn_y hl1, zwd_y hl1, zol_y hl1] at ih
        have inner : ∀ (u k : Nat), k + u = (max 1 (znm tx i)) → xW G M_layChart (xRetV (.int (nI (xb01 true))) (mH A z (nI s) hi (nI ln) tx th (zol tx ot ln) (nI (zsr tx ln + 1)) (nI (zwd tx ln 0)) wa pR pC pM (nI (zpn tx ln)) (nI (zsr tx ln)) ha nu fe kc hs T)) 127 [(4, .int (nI k)), (2, .int (nI ((zwd tx i (zsr tx i)) + k))), (0, .ref 71), (1, .int (nI (xb01 true))), (3, .int (nI (zpn tx i)))] [] (mH A z (nI s) hi (nI ln) tx th (zlr (zol tx ot i) (zsr tx i) (zwd tx i (zsr tx i)) k (zI tx i - 97)) (nI (zsr tx ln + 1)) (nI (zwd tx ln 0)) wa pR pC pM (nI (zpn tx ln)) (nI (zsr tx ln)) ha nu fe kc hs T) x 0 0 := by
          intro u
          induction u with
          | zero =>
            intro k hk9
            have e : k = (max 1 (znm tx i)) := by omega
            rw [e]
            refine xw_iload 129 dX5_layChart_127 rfl rfl ?_
            refine xw_aload_n 130 dX5_layChart_129 rfl rfl rfl ?_
            refine xw_get 133 dX5_layChart_130 rfl f_X5_31 (xA hA rfl) rfl ?_
            refine xw_iload_n 134 dX5_layChart_133 rfl rfl ?_
            refine xw_ialv (j := _) 135 dX5_layChart_134 rfl (xA hA rfl) (rfl) (by omega) (by omega) (q3') ?_
            refine xw_icmp_ge 169 138 dX5_layChart_135 rfl rfl (fun h135 => ?_) (fun h135 => absurd (nI_le (Nat.le_refl _) (by omega)) h135)
            refine xw_iinc (ls' := [(3, _), (4, _), (2, _), (0, _), (1, _)]) 172 _ dX5_layChart_169 rfl rfl (xnI_inc _) rfl rfl ?_
            refine xw_goto 85 dX5_layChart_172 rfl ?_
            exact xW.pick [0, 2, 3, 4] rfl (ih)
          | succ u ihu =>
            intro k hk9
            have ihu := ihu (k + 1) (by omega)
            rw [← zlr_s] at ihu
            refine xw_iload 129 dX5_layChart_127 rfl rfl ?_
            refine xw_aload_n 130 dX5_layChart_129 rfl rfl rfl ?_
            refine xw_get 133 dX5_layChart_130 rfl f_X5_31 (xA hA rfl) rfl ?_
            refine xw_iload_n 134 dX5_layChart_133 rfl rfl ?_
            refine xw_ialv (j := _) 135 dX5_layChart_134 rfl (xA hA rfl) (rfl) (by omega) (by omega) (q3') ?_
            refine xw_icmp_ge 169 138 dX5_layChart_135 rfl rfl (fun h135 => absurd h135 (nI_ge (by omega) (by omega))) (fun h135 => ?_)
            refine xw_aload_n 139 dX5_layChart_138 rfl rfl rfl ?_
            refine xw_get 142 dX5_layChart_139 rfl f_X5_19 (xA hA rfl) rfl ?_
            refine xw_bipush 144 (nI 12) dX5_layChart_142 rfl (by decide) ?_
            refine xw_aload_n 145 dX5_layChart_144 rfl rfl rfl ?_
            refine xw_get 148 dX5_layChart_145 rfl f_X5_25 (xA hA rfl) rfl ?_
            refine xw_iload_n 149 dX5_layChart_148 rfl rfl ?_
            refine xw_ialv (j := _) 150 dX5_layChart_149 rfl (xA hA rfl) (rfl) (by omega) (by omega) (q1') ?_
            refine xw_imul 151 dX5_layChart_150 rfl ?_
            refine xw_iload_n 152 dX5_layChart_151 rfl rfl ?_
            refine xw_iadd 153 dX5_layChart_152 rfl ?_
            rw [pk_mul, nI_add]
            refine xw_aload_n 154 dX5_layChart_153 rfl rfl rfl ?_
            refine xw_get 157 dX5_layChart_154 rfl f_X5_28 (xA hA rfl) rfl ?_
            refine xw_iload_n 158 dX5_layChart_157 rfl rfl ?_
            refine xw_ialv (j := _) 159 dX5_layChart_158 rfl (xA hA rfl) (rfl) (by omega) (by omega) (q2') ?_
            refine xw_iastore (j := (zsr tx i) * 12 + ((zwd tx i (zsr tx i)) + k)) 160 dX5_layChart_159 rfl (xA hA rfl) (congrArg nI (by omega)) (by omega) (by omega) (xAs hA rfl) ?_
            refine xw_iinc (ls' := [(2, _), (4, _), (0, _), (1, _), (3, _)]) 163 _ dX5_layChart_160 rfl rfl (xnI_inc _) rfl rfl ?_
            refine xw_iinc (ls' := [(4, _), (2, _), (0, _), (1, _), (3, _)]) 166 _ dX5_layChart_163 rfl rfl (xnI_inc _) rfl rfl ?_
            refine xw_goto 127 dX5_layChart_166 rfl ?_
            exact xW.pick [0, 1, 2, 3, 4] rfl (ihu)
        have h9 := inner (max 1 (znm tx i)) 0 (by omega)
        rw [zlr_0] at h9
        rcases hc with ⟨z1, z2, z3⟩ | ⟨p, ρ, z1, z2, z3, z4, z5⟩
        · rw [z3 (zsr tx i), z1] at h9
          rw [z1, z2]
          have hp' := hp
          rw [z1] at hp'
          refine xw_iload_n 86 dX5_layChart_85 rfl rfl ?_
          refine xw_aload_n 87 dX5_layChart_86 rfl rfl rfl ?_
          refine xw_get 90 dX5_layChart_87 rfl f_X5_134 (xA hA rfl) rfl ?_
          refine xw_icmp_ge 175 93 dX5_layChart_90 rfl rfl (fun h90 => absurd h90 (nI_ge hp' (by omega))) (fun h90 => ?_)
          refine xw_iload_n 94 dX5_layChart_93 rfl rfl ?_
          refine xw_if_eq 175 97 dX5_layChart_94 rfl rfl (fun h94 => absurd h94 (by decide)) (fun h94 => ?_)
          refine xw_iload_n 98 dX5_layChart_97 rfl rfl ?_
          refine xw_if_le 122 101 dX5_layChart_98 rfl rfl (fun h98 => ?_) (fun h98 => absurd (by decide) h98)
          refine xw_iload_n 123 dX5_layChart_122 rfl rfl ?_
          refine xw_istore_n (ls' := [(2, _), (3, _), (0, _), (1, _)]) 124 dX5_layChart_123 rfl rfl rfl ?_
          refine xw_iconst 125 (nI 0) dX5_layChart_124 rfl (xofI 0) ?_
          refine xw_istore (ls' := [(4, _), (2, _), (3, _), (0, _), (1, _)]) 127 dX5_layChart_125 rfl rfl rfl ?_
          exact xW.pick [0, 1, 3, 4, 2] rfl h9
        · rw [z1] at h9 q1' ⊢
          have hp' := hp
          rw [z1] at hp'
          by_cases hρ : ρ = zsr tx i
          · rw [z4, hρ]
            refine xw_iload_n 86 dX5_layChart_85 rfl rfl ?_
            refine xw_aload_n 87 dX5_layChart_86 rfl rfl rfl ?_
            refine xw_get 90 dX5_layChart_87 rfl f_X5_134 (xA hA rfl) rfl ?_
            refine xw_icmp_ge 175 93 dX5_layChart_90 rfl rfl (fun h90 => absurd h90 (nI_ge hp' (by omega))) (fun h90 => ?_)
            refine xw_iload_n 94 dX5_layChart_93 rfl rfl ?_
            refine xw_if_eq 175 97 dX5_layChart_94 rfl rfl (fun h94 => absurd h94 (by decide)) (fun h94 => ?_)
            refine xw_iload_n 98 dX5_layChart_97 rfl rfl ?_
            refine xw_if_le 122 101 dX5_layChart_98 rfl rfl (fun h98 => absurd h98 (nI_nle (by omega) (by omega))) (fun h98 => ?_)
            refine xw_aload_n 102 dX5_layChart_101 rfl rfl rfl ?_
            refine xw_get 105 dX5_layChart_102 rfl f_X5_25 (xA hA rfl) rfl ?_
            refine xw_iload_n 106 dX5_layChart_105 rfl rfl ?_
            refine xw_ialv (j := _) 107 dX5_layChart_106 rfl (xA hA rfl) (rfl) (by omega) (by omega) (q1') ?_
            refine xw_aload_n 108 dX5_layChart_107 rfl rfl rfl ?_
            refine xw_get 111 dX5_layChart_108 rfl f_X5_25 (xA hA rfl) rfl ?_
            refine xw_iload_n 112 dX5_layChart_111 rfl rfl ?_
            refine xw_iconst 113 (nI 1) dX5_layChart_112 rfl (xofI 1) ?_
            refine xw_isub 114 dX5_layChart_113 rfl ?_
            rw [nI_1s (by omega), Nat.add_sub_cancel]
            refine xw_ialv (j := _) 115 dX5_layChart_114 rfl (xA hA rfl) (rfl) (by omega) (by omega) (z2) ?_
            refine xw_icmp_eq 122 118 dX5_layChart_115 rfl rfl (fun h115 => ?_) (fun h115 => absurd (congrArg nI hρ.symm) h115)
            refine xw_iload_n 123 dX5_layChart_122 rfl rfl ?_
            refine xw_istore_n (ls' := [(2, _), (3, _), (0, _), (1, _)]) 124 dX5_layChart_123 rfl rfl rfl ?_
            refine xw_iconst 125 (nI 0) dX5_layChart_124 rfl (xofI 0) ?_
            refine xw_istore (ls' := [(4, _), (2, _), (3, _), (0, _), (1, _)]) 127 dX5_layChart_125 rfl rfl rfl ?_
            exact xW.pick [0, 1, 3, 4, 2] rfl h9
          · rw [z5 (zsr tx i) (by omega)] at h9
            refine xw_iload_n 86 dX5_layChart_85 rfl rfl ?_
            refine xw_aload_n 87 dX5_layChart_86 rfl rfl rfl ?_
            refine xw_get 90 dX5_layChart_87 rfl f_X5_134 (xA hA rfl) rfl ?_
            refine xw_icmp_ge 175 93 dX5_layChart_90 rfl rfl (fun h90 => absurd h90 (nI_ge hp' (by omega))) (fun h90 => ?_)
            refine xw_iload_n 94 dX5_layChart_93 rfl rfl ?_
            refine xw_if_eq 175 97 dX5_layChart_94 rfl rfl (fun h94 => absurd h94 (by decide)) (fun h94 => ?_)
            refine xw_iload_n 98 dX5_layChart_97 rfl rfl ?_
            refine xw_if_le 122 101 dX5_layChart_98 rfl rfl (fun h98 => absurd h98 (nI_nle (by omega) (by omega))) (fun h98 => ?_)
            refine xw_aload_n 102 dX5_layChart_101 rfl rfl rfl ?_
            refine xw_get 105 dX5_layChart_102 rfl f_X5_25 (xA hA rfl) rfl ?_
            refine xw_iload_n 106 dX5_layChart_105 rfl rfl ?_
            refine xw_ialv (j := _) 107 dX5_layChart_106 rfl (xA hA rfl) (rfl) (by omega) (by omega) (q1') ?_
            refine xw_aload_n 108 dX5_layChart_107 rfl rfl rfl ?_
            refine xw_get 111 dX5_layChart_108 rfl f_X5_25 (xA hA rfl) rfl ?_
            refine xw_iload_n 112 dX5_layChart_111 rfl rfl ?_
            refine xw_iconst 113 (nI 1) dX5_layChart_112 rfl (xofI 1) ?_
            refine xw_isub 114 dX5_layChart_113 rfl ?_
            rw [nI_1s (by omega), Nat.add_sub_cancel]
            refine xw_ialv (j := _) 115 dX5_layChart_114 rfl (xA hA rfl) (rfl) (by omega) (by omega) (z2) ?_
            refine xw_icmp_eq 122 118 dX5_layChart_115 rfl rfl (fun h115 => absurd h115 (fun q => by rw [nI_eq (by omega) (by omega)] at q; omega)) (fun h115 => ?_)
            refine xw_iconst 119 (nI 0) dX5_layChart_118 rfl (xofI 0) ?_
            refine xw_goto 123 dX5_layChart_119 rfl ?_
            refine xw_istore_n (ls' := [(2, _), (3, _), (0, _), (1, _)]) 124 dX5_layChart_123 rfl rfl rfl ?_
            refine xw_iconst 125 (nI 0) dX5_layChart_124 rfl (xofI 0) ?_
            refine xw_istore (ls' := [(4, _), (2, _), (3, _), (0, _), (1, _)]) 127 dX5_layChart_125 rfl rfl rfl ?_
            exact xW.pick [0, 1, 3, 4, 2] rfl h9
      · have hwn : ∀ r, zwd tx (i + 1) r = zwd tx i r := fun r => zwd_n (fun q => hl1 q.1)
        have ih := ih (i + 1) col (by omega) (by
          rcases hc with ⟨z1, z2, z3⟩ | ⟨p, ρ, z1, z2, z3, z4, z5⟩
          · exact Or.inl ⟨by rw [zpn_n hl1]; exact z1, z2, fun r => by rw [hwn]; exact z3 r⟩
          · refine Or.inr ⟨p, ρ, by rw [zpn_n hl1]; exact z1, z2, ?_, by rw [hwn]; exact z4, fun r hr => by rw [hwn]; exact z5 r hr⟩
            have := zsr_mono tx i 1
            omega)
        rw [zpn_n hl1, zol_n hl1] at ih
        exact ih
  have tail : xW G M_layChart (xRetV (.int (nI (xb01 (zok tx ln)))) (mH A z (nI s) hi (nI ln) tx th (if zok tx ln = true then zol tx ot ln else ot) (nI (zsr tx ln + 1)) (nI (zwd tx ln 0)) wa pR pC pM (nI (zpn tx ln)) (nI (zsr tx ln)) ha nu fe kc hs T)) 81 [(0, .ref 71), (1, .int (nI (xb01 (zok tx ln))))] [] (mH A z (nI s) hi (nI ln) tx th ot (nI (zsr tx ln + 1)) (nI (zwd tx ln 0)) wa pR pC pM (nI (zpn tx ln)) (nI (zsr tx ln)) ha nu fe kc hs T) x 0 0 := by
    by_cases hk : zok tx ln = true
    · have h9 := fill hk ln 0 0 (by omega) (Or.inl ⟨rfl, rfl, fun r => rfl⟩)
      rw [hk, if_pos rfl]
      refine xw_iconst 82 (nI 0) dX5_layChart_81 rfl (xofI 0) ?_
      refine xw_istore_n (ls' := [(2, _), (0, _), (1, _)]) 83 dX5_layChart_82 rfl rfl rfl ?_
      refine xw_iconst 84 (nI 0) dX5_layChart_83 rfl (xofI 0) ?_
      refine xw_istore_n (ls' := [(3, _), (2, _), (0, _), (1, _)]) 85 dX5_layChart_84 rfl rfl rfl ?_
      exact xW.pick [0, 1, 2, 3] rfl h9
    · have hk2 : zok tx ln = false := by simpa using hk
      rw [hk2, if_neg (by decide)]
      by_cases hp0 : zpn tx ln = 0
      · rw [hp0]
        refine xw_iconst 82 (nI 0) dX5_layChart_81 rfl (xofI 0) ?_
        refine xw_istore_n (ls' := [(2, _), (0, _), (1, _)]) 83 dX5_layChart_82 rfl rfl rfl ?_
        refine xw_iconst 84 (nI 0) dX5_layChart_83 rfl (xofI 0) ?_
        refine xw_istore_n (ls' := [(3, _), (2, _), (0, _), (1, _)]) 85 dX5_layChart_84 rfl rfl rfl ?_
        refine xw_iload_n 86 dX5_layChart_85 rfl rfl ?_
        refine xw_aload_n 87 dX5_layChart_86 rfl rfl rfl ?_
        refine xw_get 90 dX5_layChart_87 rfl f_X5_134 (xA hA rfl) rfl ?_
        refine xw_icmp_ge 175 93 dX5_layChart_90 rfl rfl (fun h90 => ?_) (fun h90 => absurd (by decide) h90)
        refine xw_iload_n 176 dX5_layChart_175 rfl rfl ?_
        exact xw_zreturn dX5_layChart_176 rfl (Or.inl rfl) (⟨rfl, rfl⟩)
      · skip
        refine xw_iconst 82 (nI 0) dX5_layChart_81 rfl (xofI 0) ?_
        refine xw_istore_n (ls' := [(2, _), (0, _), (1, _)]) 83 dX5_layChart_82 rfl rfl rfl ?_
        refine xw_iconst 84 (nI 0) dX5_layChart_83 rfl (xofI 0) ?_
        refine xw_istore_n (ls' := [(3, _), (2, _), (0, _), (1, _)]) 85 dX5_layChart_84 rfl rfl rfl ?_
        refine xw_iload_n 86 dX5_layChart_85 rfl rfl ?_
        refine xw_aload_n 87 dX5_layChart_86 rfl rfl rfl ?_
        refine xw_get 90 dX5_layChart_87 rfl f_X5_134 (xA hA rfl) rfl ?_
        refine xw_icmp_ge 175 93 dX5_layChart_90 rfl rfl (fun h90 => absurd h90 (nI_ge (by omega) (by omega))) (fun h90 => ?_)
        refine xw_iload_n 94 dX5_layChart_93 rfl rfl ?_
        refine xw_if_eq 175 97 dX5_layChart_94 rfl rfl (fun h94 => ?_) (fun h94 => absurd (rfl) h94)
        refine xw_iload_n 176 dX5_layChart_175 rfl rfl ?_
        exact xw_zreturn dX5_layChart_176 rfl (Or.inl rfl) (⟨rfl, rfl⟩)
  have rows : ∀ (t r : Nat) (is : Bool), r + t = zsr tx ln + 1 → (is && zal tx ln (zwd tx ln 0) r t) = zok tx ln → xW G M_layChart (xRetV (.int (nI (xb01 (zok tx ln)))) (mH A z (nI s) hi (nI ln) tx th (if zok tx ln = true then zol tx ot ln else ot) (nI (zsr tx ln + 1)) (nI (zwd tx ln 0)) wa pR pC pM (nI (zpn tx ln)) (nI (zsr tx ln)) ha nu fe kc hs T)) 45 [(1, .int (nI (xb01 is))), (2, .int (nI r)), (0, .ref 71)] [] (mH A z (nI s) hi (nI ln) tx th ot (nI (zsr tx ln + 1)) (nI (zwd tx ln 0)) wa pR pC pM (nI (zpn tx ln)) (nI (zsr tx ln)) ha nu fe kc hs T) x 0 0 := by
    intro t
    induction t with
    | zero =>
      intro r is hr9 hk
      have hk2 : is = zok tx ln := by rw [← hk]; exact (Bool.and_true is).symm
      rw [hk2]
      refine xw_iload_n 46 dX5_layChart_45 rfl rfl ?_
      refine xw_aload_n 47 dX5_layChart_46 rfl rfl rfl ?_
      refine xw_get 50 dX5_layChart_47 rfl f_X5_75 (xA hA rfl) rfl ?_
      refine xw_icmp_ge 81 53 dX5_layChart_50 rfl rfl (fun h50 => ?_) (fun h50 => absurd (nI_le (by omega) (by omega)) h50)
      exact xW.pick [2, 0] rfl (tail)
    | succ t ih =>
      intro r is hr9 hk
      cases is
      · have hk2 : false = zok tx ln := by rw [← hk]; rfl
        rw [← hk2] at tail
        refine xw_iload_n 46 dX5_layChart_45 rfl rfl ?_
        refine xw_aload_n 47 dX5_layChart_46 rfl rfl rfl ?_
        refine xw_get 50 dX5_layChart_47 rfl f_X5_75 (xA hA rfl) rfl ?_
        refine xw_icmp_ge 81 53 dX5_layChart_50 rfl rfl (fun h50 => absurd h50 (nI_ge (by omega) (by omega))) (fun h50 => ?_)
        refine xw_iload_n 54 dX5_layChart_53 rfl rfl ?_
        refine xw_if_eq 81 57 dX5_layChart_54 rfl rfl (fun h54 => ?_) (fun h54 => absurd (rfl) h54)
        rw [← hk2]
        exact xW.pick [2, 0] rfl tail
      · have ih := ih (r + 1) (decide (zwd tx ln r = zwd tx ln 0)) (by omega) hk
        have hwr := zwd_le hz r ln (Nat.le_refl _)
        by_cases he : zwd tx ln r = zwd tx ln 0
        · rw [decide_eq_true he] at ih
          refine xw_iload_n 46 dX5_layChart_45 rfl rfl ?_
          refine xw_aload_n 47 dX5_layChart_46 rfl rfl rfl ?_
          refine xw_get 50 dX5_layChart_47 rfl f_X5_75 (xA hA rfl) rfl ?_
          refine xw_icmp_ge 81 53 dX5_layChart_50 rfl rfl (fun h50 => absurd h50 (nI_ge (by omega) (by omega))) (fun h50 => ?_)
          refine xw_iload_n 54 dX5_layChart_53 rfl rfl ?_
          refine xw_if_eq 81 57 dX5_layChart_54 rfl rfl (fun h54 => absurd h54 (by decide)) (fun h54 => ?_)
          refine xw_aload_n 58 dX5_layChart_57 rfl rfl rfl ?_
          refine xw_iload_n 59 dX5_layChart_58 rfl rfl ?_
          refine xw_pV 62 dX5_layChart_59 rfl ok_M_cellsIn s_X5_169 (S_M_cellsIn hA hP hz hl (by omega)) (mH_len) (xA hA rfl) rfl rfl rfl rfl rfl rfl rfl ?_
          refine xw_aload_n 63 dX5_layChart_62 rfl rfl rfl ?_
          refine xw_get 66 dX5_layChart_63 rfl f_X5_78 (xA hA rfl) rfl ?_
          refine xw_icmp_ne 73 69 dX5_layChart_66 rfl rfl (fun h66 => absurd (congrArg nI he) h66) (fun h66 => ?_)
          refine xw_iconst 70 (nI 1) dX5_layChart_69 rfl (xofI 1) ?_
          refine xw_goto 74 dX5_layChart_70 rfl ?_
          refine xw_istore_n (ls' := [(1, _), (2, _), (0, _)]) 75 dX5_layChart_74 rfl rfl rfl ?_
          refine xw_iinc (ls' := [(2, _), (1, _), (0, _)]) 78 _ dX5_layChart_75 rfl rfl (xnI_inc _) rfl rfl ?_
          refine xw_goto 45 dX5_layChart_78 rfl ?_
          exact xW.pick [1, 0, 2] rfl (ih)
        · rw [decide_eq_false he] at ih
          refine xw_iload_n 46 dX5_layChart_45 rfl rfl ?_
          refine xw_aload_n 47 dX5_layChart_46 rfl rfl rfl ?_
          refine xw_get 50 dX5_layChart_47 rfl f_X5_75 (xA hA rfl) rfl ?_
          refine xw_icmp_ge 81 53 dX5_layChart_50 rfl rfl (fun h50 => absurd h50 (nI_ge (by omega) (by omega))) (fun h50 => ?_)
          refine xw_iload_n 54 dX5_layChart_53 rfl rfl ?_
          refine xw_if_eq 81 57 dX5_layChart_54 rfl rfl (fun h54 => absurd h54 (by decide)) (fun h54 => ?_)
          refine xw_aload_n 58 dX5_layChart_57 rfl rfl rfl ?_
          refine xw_iload_n 59 dX5_layChart_58 rfl rfl ?_
          refine xw_pV 62 dX5_layChart_59 rfl ok_M_cellsIn s_X5_169 (S_M_cellsIn hA hP hz hl (by omega)) (mH_len) (xA hA rfl) rfl rfl rfl rfl rfl rfl rfl ?_
          refine xw_aload_n 63 dX5_layChart_62 rfl rfl rfl ?_
          refine xw_get 66 dX5_layChart_63 rfl f_X5_78 (xA hA rfl) rfl ?_
          refine xw_icmp_ne 73 69 dX5_layChart_66 rfl rfl (fun h66 => ?_) (fun h66 => absurd h66 (fun q => by rw [nI_eq (by omega) (by omega)] at q; exact he q))
          refine xw_iconst 74 (nI 0) dX5_layChart_73 rfl (xofI 0) ?_
          refine xw_istore_n (ls' := [(1, _), (2, _), (0, _)]) 75 dX5_layChart_74 rfl rfl rfl ?_
          refine xw_iinc (ls' := [(2, _), (1, _), (0, _)]) 78 _ dX5_layChart_75 rfl rfl (xnI_inc _) rfl rfl ?_
          refine xw_goto 45 dX5_layChart_78 rfl ?_
          exact xW.pick [1, 0, 2] rfl (ih)
  have h9 := rows (zsr tx ln) 1 (decide (zsr tx ln + 1 ≤ 10 ∧ zwd tx ln 0 ≤ 12)) (by omega) zok_al
  refine xw_aload_n 1 dX5_layChart_0 rfl rfl rfl ?_
  refine xw_aload_n 2 dX5_layChart_1 rfl rfl rfl ?_
  refine xw_get 5 dX5_layChart_2 rfl f_X5_152 (xA hA rfl) rfl ?_
  refine xw_iconst 6 (nI 1) dX5_layChart_5 rfl (xofI 1) ?_
  refine xw_iadd 7 dX5_layChart_6 rfl ?_
  rw [nI_add]
  refine xw_put (hp' := (mH A z (nI s) hi (nI ln) tx th ot (nI (zsr tx ln + 1)) oC wa pR pC pM (nI (zpn tx ln)) (nI (zsr tx ln)) ha nu fe kc hs T)) 10 dX5_layChart_7 rfl f_X5_75 (xA hA rfl) ⟨rfl, rfl⟩ rfl rfl (xAs hA rfl) ?_
  refine xw_aload_n 11 dX5_layChart_10 rfl rfl rfl ?_
  refine xw_aload_n 12 dX5_layChart_11 rfl rfl rfl ?_
  refine xw_iconst 13 (nI 0) dX5_layChart_12 rfl (xofI 0) ?_
  refine xw_pV 16 dX5_layChart_13 rfl ok_M_cellsIn s_X5_169 (S_M_cellsIn hA hP hz hl (by omega)) (mH_len) (xA hA rfl) rfl rfl rfl rfl rfl rfl rfl ?_
  refine xw_put (hp' := (mH A z (nI s) hi (nI ln) tx th ot (nI (zsr tx ln + 1)) (nI (zwd tx ln 0)) wa pR pC pM (nI (zpn tx ln)) (nI (zsr tx ln)) ha nu fe kc hs T)) 19 dX5_layChart_16 rfl f_X5_78 (xA hA rfl) ⟨rfl, rfl⟩ rfl rfl (xAs hA rfl) ?_
  refine xw_aload_n 20 dX5_layChart_19 rfl rfl rfl ?_
  refine xw_get 23 dX5_layChart_20 rfl f_X5_75 (xA hA rfl) rfl ?_
  refine xw_bipush 25 (nI 10) dX5_layChart_23 rfl (by decide) ?_
  refine xw_icmp_gt 41 28 dX5_layChart_25 rfl rfl (fun h25 => ?_) (fun h25 => ?_)
  · refine xw_iconst 42 (nI 0) dX5_layChart_41 rfl (xofI 0) ?_
    refine xw_istore_n (ls' := [(1, _), (0, _)]) 43 dX5_layChart_42 rfl rfl rfl ?_
    refine xw_iconst 44 (nI 1) dX5_layChart_43 rfl (xofI 1) ?_
    refine xw_istore_n (ls' := [(2, _), (1, _), (0, _)]) 45 dX5_layChart_44 rfl rfl rfl ?_
    rw [nI_ltI (by omega) (by omega)] at h25
    rw [decide_eq_false (fun q => by omega)] at h9
    exact xW.pick [1, 0, 2] rfl h9
  · refine xw_aload_n 29 dX5_layChart_28 rfl rfl rfl ?_
    refine xw_get 32 dX5_layChart_29 rfl f_X5_78 (xA hA rfl) rfl ?_
    refine xw_bipush 34 (nI 12) dX5_layChart_32 rfl (by decide) ?_
    refine xw_icmp_gt 41 37 dX5_layChart_34 rfl rfl (fun h34 => ?_) (fun h34 => ?_)
    · refine xw_iconst 42 (nI 0) dX5_layChart_41 rfl (xofI 0) ?_
      refine xw_istore_n (ls' := [(1, _), (0, _)]) 43 dX5_layChart_42 rfl rfl rfl ?_
      refine xw_iconst 44 (nI 1) dX5_layChart_43 rfl (xofI 1) ?_
      refine xw_istore_n (ls' := [(2, _), (1, _), (0, _)]) 45 dX5_layChart_44 rfl rfl rfl ?_
      rw [nI_ltI (by omega) (by omega)] at h34
      rw [decide_eq_false (fun q => by omega)] at h9
      exact xW.pick [1, 0, 2] rfl h9
    · refine xw_iconst 38 (nI 1) dX5_layChart_37 rfl (xofI 1) ?_
      refine xw_goto 42 dX5_layChart_38 rfl ?_
      refine xw_istore_n (ls' := [(1, _), (0, _)]) 43 dX5_layChart_42 rfl rfl rfl ?_
      refine xw_iconst 44 (nI 1) dX5_layChart_43 rfl (xofI 1) ?_
      refine xw_istore_n (ls' := [(2, _), (1, _), (0, _)]) 45 dX5_layChart_44 rfl rfl rfl ?_
      rw [nI_ltI (by omega) (by omega)] at h25 h34
      rw [decide_eq_true ⟨by omega, by omega⟩] at h9
      exact xW.pick [1, 0, 2] rfl h9
def oLoaM (m : xMS) : (Nat × Int32) × xMS := if zwhole true m.2.2.2.2 m.2.2.2.1 = true then (if zok m.2.2.2.2 m.2.2.2.1 = true then ((0, nI (zsr m.2.2.2.2 m.2.2.2.1 + 1)), mSav m (zload m.1 m.2.2.2.2 m.2.2.2.1) 0) else ((2, 0), m)) else ((1, 0), m)
theorem zei_w {ch : Bool} {co : Nat → Int32} {n : Nat} (h : zwhole ch co n = true) : zei ch co 0 n = n ∧ zpb ch co n = (true, 0) := by
  have h2 : zps ch co n = some (true, 0) := of_decide_eq_true h
  have h1 := (zei_full (ch := ch) (co := co) n 0 (by intro q; cases q)).mpr (by rw [Nat.zero_add, h2]; intro q; cases q)
  rw [Nat.zero_add] at h1
  exact ⟨h1, zpb_is h2⟩
theorem zei_nw {ch : Bool} {co : Nat → Int32} {n : Nat} (h : ¬ zwhole ch co n = true) (he : zei ch co 0 n = n) : decide ((zpb ch co n).1 = true ∧ (zpb ch co n).2 = 0) = false := by
  have h1 := (zei_full (ch := ch) (co := co) n 0 (by intro q; cases q)).mp (by rw [Nat.zero_add]; exact he)
  rw [Nat.zero_add] at h1
  refine decide_eq_false (fun q => h (decide_eq_true ?_))
  cases hz : zps ch co n with
  | none => exact absurd hz h1
  | some s =>
    rw [zpb_is hz] at q
    have e : s = (true, 0) := Prod.ext q.1 q.2
    rw [e]
theorem zpb_le {ch : Bool} {co : Nat → Int32} {i : Nat} : (zpb ch co i).2 ≤ 60 := by
  unfold zpb
  cases h : zps ch co i with
  | none => exact Nat.zero_le _
  | some s => exact zps_le h
theorem S_M_load (hA : A.length = 71) (X : xTxt tx ln) (hs6 : s ≤ 6) : xMet G M_load [.ref 71] (mH A z (nI s) hi (nI ln) tx th ot oR oC wa pR pC pM ps rr ha nu fe kc hs T) x 0 0 (xQm A T (oLoaM (z, hi, s, ln, tx)).1 (oLoaM (z, hi, s, ln, tx)).2) := by
  have hln := X.1
  have hru := S_M_rightUpTo (z := z) (hi := hi) (tx := tx) (th := th) (ot := ot) (oR := oR) (oC := oC) (wa := wa) (pR := pR) (pC := pC) (pM := pM) (ps := ps) (rr := rr) (ha := ha) (nu := nu) (fe := fe) (kc := kc) (hs := hs) (s := s) (ln := ln) (A := A) (T := T) (G := G) (x := x) (ch := true) hA X
  unfold oLoaM
  dsimp only
  by_cases g0 : zwhole true tx ln = true
  · rw [if_pos g0]
    obtain ⟨k1, k2⟩ := zei_w g0
    rw [k1, k2] at hru
    have hz := zwhole_ps g0
    have hw := S_M_isWhole (z := z) (hi := hi) (tx := tx) (th := th) (ot := ot) (oR := oR) (oC := oC) (wa := wa) (pR := (zpA tx pR (zvR tx) ln)) (pC := (zpA tx pC (zvC tx) ln)) (pM := (zpA tx pM (zvM tx) ln)) (ps := (nI (zpn tx ln))) (rr := (nI (zsr tx ln))) (fe := fe) (kc := kc) (hs := hs) (s := s) (ln := ln) (A := A) (T := T) (G := G) (x := x) (b := true) (n := 0) hA (by omega)
    have hlc := S_M_layChart (z := z) (hi := hi) (tx := tx) (th := th) (ot := ot) (oR := oR) (oC := oC) (wa := wa) (pR := (zpA tx pR (zvR tx) ln)) (pC := (zpA tx pC (zvC tx) ln)) (pM := (zpA tx pM (zvM tx) ln)) (ha := (nI (xb01 true))) (nu := (nI 0)) (fe := fe) (kc := kc) (hs := hs) (s := s) (ln := ln) (A := A) (T := T) (G := G) (x := x) (ch := true) hA zpt_A hz hln
    by_cases g1 : zok tx ln = true
    · rw [if_pos g1]
      rw [g1, if_pos rfl] at hlc
      obtain ⟨k3, k4⟩ := zok_is g1
      have hkw : ∀ r, r < zsr tx ln + 1 → zwd tx ln r = zwd tx ln 0 := by
        unfold zok at g1
        exact (of_decide_eq_true g1).2.2
      have hto := S_M_takeOther (z := z) (hi := (mhis z hi s)) (tx := tx) (th := (nI 0)) (ot := (zol tx ot ln))  (wa := wa) (pR := (zpA tx pR (zvR tx) ln)) (pC := (zpA tx pC (zvC tx) ln)) (pM := (zpA tx pM (zvM tx) ln)) (ps := (nI (zpn tx ln))) (rr := (nI (zsr tx ln))) (ha := (nI (xb01 true))) (nu := (nI 0)) (fe := fe) (kc := kc) (hs := hs) (s := (zrM s)) (ln := 0) (A := A) (T := T) (G := G) (x := x) (R := zsr tx ln + 1) (C := zwd tx ln 0) hA (by omega) (by omega)
      rw [show zlaid z (zsr tx ln + 1) (zwd tx ln 0) (fun r c => zol tx ot ln (r * 12 + c)) = zload z tx ln from zlaid_congr fun r c hr hc => zol_at (fun r hr => by rw [hkw r hr]; exact k4) ln (Nat.le_refl _) r c (by rw [hkw r hr]; exact hc)] at hto
      refine xw_aload_n 1 dX5_load_0 rfl rfl rfl ?_
      refine xw_iconst 2 (nI 1) dX5_load_1 rfl (xofI 1) ?_
      refine xw_pV 5 dX5_load_2 rfl ok_M_rightUpTo s_X5_81 (hru) (mH_len) (xA hA rfl) rfl rfl rfl rfl rfl rfl rfl ?_
      refine xw_aload_n 6 dX5_load_5 rfl rfl rfl ?_
      refine xw_get 9 dX5_load_6 rfl f_X5_85 (xA hA rfl) rfl ?_
      refine xw_icmp_ne 23 12 dX5_load_9 rfl rfl (fun h9 => absurd (rfl) h9) (fun h9 => ?_)
      refine xw_aload_n 13 dX5_load_12 rfl rfl rfl ?_
      refine xw_pV 16 dX5_load_13 rfl ok_M_isWhole s_X5_88 (hw) (mH_len) (xA hA rfl) rfl rfl rfl rfl rfl rfl rfl ?_
      refine xw_if_eq 23 19 dX5_load_16 rfl rfl (fun h16 => absurd h16 (by decide)) (fun h16 => ?_)
      refine xw_iconst 20 (nI 1) dX5_load_19 rfl (xofI 1) ?_
      refine xw_goto 24 dX5_load_20 rfl ?_
      refine xw_istore_n (ls' := [(1, _), (0, _)]) 25 dX5_load_24 rfl rfl rfl ?_
      refine xw_aload_n 26 dX5_load_25 rfl rfl rfl ?_
      refine xw_iload_n 27 dX5_load_26 rfl rfl ?_
      refine xw_if_ne 34 30 dX5_load_27 rfl rfl (fun h27 => ?_) (fun h27 => absurd h27 (by decide))
      refine xw_aload_n 35 dX5_load_34 rfl rfl rfl ?_
      refine xw_pV 38 dX5_load_35 rfl ok_M_layChart s_X5_92 (hlc) (mH_len) (xA hA rfl) rfl rfl rfl rfl rfl rfl rfl ?_
      refine xw_if_eq 45 41 dX5_load_38 rfl rfl (fun h38 => absurd h38 (by decide)) (fun h38 => ?_)
      refine xw_iconst 42 (nI 0) dX5_load_41 rfl (xofI 0) ?_
      refine xw_goto 46 dX5_load_42 rfl ?_
      refine xw_put (hp' := (mH A z (nI s) hi (nI ln) tx (nI 0) (zol tx ot ln) (nI (zsr tx ln + 1)) (nI (zwd tx ln 0)) wa (zpA tx pR (zvR tx) ln) (zpA tx pC (zvC tx) ln) (zpA tx pM (zvM tx) ln) (nI (zpn tx ln)) (nI (zsr tx ln)) (nI (xb01 true)) (nI 0) fe kc hs T)) 49 dX5_load_46 rfl f_X5_40 (xA hA rfl) ⟨rfl, rfl⟩ rfl rfl (xAs hA rfl) ?_
      refine xw_aload_n 50 dX5_load_49 rfl rfl rfl ?_
      refine xw_get 53 dX5_load_50 rfl f_X5_40 (xA hA rfl) rfl ?_
      refine xw_if_le 58 56 dX5_load_53 rfl rfl (fun h53 => ?_) (fun h53 => absurd (by decide) h53)
      refine xw_aload_n 59 dX5_load_58 rfl rfl rfl ?_
      refine xw_pVv 62 dX5_load_59 rfl ok_M_save s_X5_95 (S_M_save hA hs6) (mH_len) (xA hA rfl) rfl rfl rfl rfl rfl rfl rfl ?_
      refine xw_aload_n 63 dX5_load_62 rfl rfl rfl ?_
      refine xw_iconst 64 (nI 0) dX5_load_63 rfl (xofI 0) ?_
      refine xw_put (hp' := (mH A z (nI (zrM s)) (mhis z hi s) (nI 0) tx (nI 0) (zol tx ot ln) (nI (zsr tx ln + 1)) (nI (zwd tx ln 0)) wa (zpA tx pR (zvR tx) ln) (zpA tx pC (zvC tx) ln) (zpA tx pM (zvM tx) ln) (nI (zpn tx ln)) (nI (zsr tx ln)) (nI (xb01 true)) (nI 0) fe kc hs T)) 67 dX5_load_64 rfl f_X5_85 (xA hA rfl) ⟨rfl, rfl⟩ rfl rfl (xAs hA rfl) ?_
      refine xw_aload_n 68 dX5_load_67 rfl rfl rfl ?_
      refine xw_pVv 71 dX5_load_68 rfl ok_M_takeOther s_X5_98 (hto) (mH_len) (xA hA rfl) rfl rfl rfl rfl rfl rfl rfl ?_
      refine xw_aload_n 72 dX5_load_71 rfl rfl rfl ?_
      refine xw_get 75 dX5_load_72 rfl f_X5_7 (xA hA rfl) rfl ?_
      refine xw_iconst 76 (nI 4) dX5_load_75 rfl (xofI 4) ?_
      refine xw_ialv (j := 4) 77 dX5_load_76 rfl (xA hA rfl) (rfl) (by decide) (by decide) ((zlaid_4 : zload z tx ln 4 = nI (zsr tx ln + 1))) ?_
      exact xw_ireturn dX5_load_77 rfl (⟨rfl, ((zol tx ot ln), (nI (zsr tx ln + 1)), (nI (zwd tx ln 0)), wa, (zpA tx pR (zvR tx) ln), (zpA tx pC (zvC tx) ln), (zpA tx pM (zvM tx) ln), (nI (zpn tx ln)), (nI (zsr tx ln)), (nI (xb01 true)), (nI 0), fe, kc, hs), rfl⟩)
    · rw [if_neg g1]
      have g2 : zok tx ln = false := by simpa using g1
      rw [g2, if_neg (by decide)] at hlc
      refine xw_aload_n 1 dX5_load_0 rfl rfl rfl ?_
      refine xw_iconst 2 (nI 1) dX5_load_1 rfl (xofI 1) ?_
      refine xw_pV 5 dX5_load_2 rfl ok_M_rightUpTo s_X5_81 (hru) (mH_len) (xA hA rfl) rfl rfl rfl rfl rfl rfl rfl ?_
      refine xw_aload_n 6 dX5_load_5 rfl rfl rfl ?_
      refine xw_get 9 dX5_load_6 rfl f_X5_85 (xA hA rfl) rfl ?_
      refine xw_icmp_ne 23 12 dX5_load_9 rfl rfl (fun h9 => absurd (rfl) h9) (fun h9 => ?_)
      refine xw_aload_n 13 dX5_load_12 rfl rfl rfl ?_
      refine xw_pV 16 dX5_load_13 rfl ok_M_isWhole s_X5_88 (hw) (mH_len) (xA hA rfl) rfl rfl rfl rfl rfl rfl rfl ?_
      refine xw_if_eq 23 19 dX5_load_16 rfl rfl (fun h16 => absurd h16 (by decide)) (fun h16 => ?_)
      refine xw_iconst 20 (nI 1) dX5_load_19 rfl (xofI 1) ?_
      refine xw_goto 24 dX5_load_20 rfl ?_
      refine xw_istore_n (ls' := [(1, _), (0, _)]) 25 dX5_load_24 rfl rfl rfl ?_
      refine xw_aload_n 26 dX5_load_25 rfl rfl rfl ?_
      refine xw_iload_n 27 dX5_load_26 rfl rfl ?_
      refine xw_if_ne 34 30 dX5_load_27 rfl rfl (fun h27 => ?_) (fun h27 => absurd h27 (by decide))
      refine xw_aload_n 35 dX5_load_34 rfl rfl rfl ?_
      refine xw_pV 38 dX5_load_35 rfl ok_M_layChart s_X5_92 (hlc) (mH_len) (xA hA rfl) rfl rfl rfl rfl rfl rfl rfl ?_
      refine xw_if_eq 45 41 dX5_load_38 rfl rfl (fun h38 => ?_) (fun h38 => absurd (rfl) h38)
      refine xw_iconst 46 (nI 2) dX5_load_45 rfl (xofI 2) ?_
      refine xw_put (hp' := (mH A z (nI s) hi (nI ln) tx (nI 2) ot (nI (zsr tx ln + 1)) (nI (zwd tx ln 0)) wa (zpA tx pR (zvR tx) ln) (zpA tx pC (zvC tx) ln) (zpA tx pM (zvM tx) ln) (nI (zpn tx ln)) (nI (zsr tx ln)) (nI (xb01 true)) (nI 0) fe kc hs T)) 49 dX5_load_46 rfl f_X5_40 (xA hA rfl) ⟨rfl, rfl⟩ rfl rfl (xAs hA rfl) ?_
      refine xw_aload_n 50 dX5_load_49 rfl rfl rfl ?_
      refine xw_get 53 dX5_load_50 rfl f_X5_40 (xA hA rfl) rfl ?_
      refine xw_if_le 58 56 dX5_load_53 rfl rfl (fun h53 => absurd h53 (by decide)) (fun h53 => ?_)
      refine xw_iconst 57 (nI 0) dX5_load_56 rfl (xofI 0) ?_
      exact xw_ireturn dX5_load_57 rfl (⟨rfl, (ot, (nI (zsr tx ln + 1)), (nI (zwd tx ln 0)), wa, (zpA tx pR (zvR tx) ln), (zpA tx pC (zvC tx) ln), (zpA tx pM (zvM tx) ln), (nI (zpn tx ln)), (nI (zsr tx ln)), (nI (xb01 true)), (nI 0), fe, kc, hs), rfl⟩)
  · rw [if_neg g0]
    by_cases g1 : zei true tx 0 ln = ln
    · have hf := zei_nw g0 g1
      rw [g1] at hru
      have hw := S_M_isWhole (z := z) (hi := hi) (tx := tx) (th := th) (ot := ot) (oR := oR) (oC := oC) (wa := wa) (pR := (zpA tx pR (zvR tx) ln)) (pC := (zpA tx pC (zvC tx) ln)) (pM := (zpA tx pM (zvM tx) ln)) (ps := (nI (zpn tx ln))) (rr := (nI (zsr tx ln))) (fe := fe) (kc := kc) (hs := hs) (s := s) (ln := ln) (A := A) (T := T) (G := G) (x := x) (b := (zpb true tx ln).1) (n := (zpb true tx ln).2) hA zpb_le
      rw [hf] at hw
      refine xw_aload_n 1 dX5_load_0 rfl rfl rfl ?_
      refine xw_iconst 2 (nI 1) dX5_load_1 rfl (xofI 1) ?_
      refine xw_pV 5 dX5_load_2 rfl ok_M_rightUpTo s_X5_81 (hru) (mH_len) (xA hA rfl) rfl rfl rfl rfl rfl rfl rfl ?_
      refine xw_aload_n 6 dX5_load_5 rfl rfl rfl ?_
      refine xw_get 9 dX5_load_6 rfl f_X5_85 (xA hA rfl) rfl ?_
      refine xw_icmp_ne 23 12 dX5_load_9 rfl rfl (fun h9 => absurd (rfl) h9) (fun h9 => ?_)
      refine xw_aload_n 13 dX5_load_12 rfl rfl rfl ?_
      refine xw_pV 16 dX5_load_13 rfl ok_M_isWhole s_X5_88 (hw) (mH_len) (xA hA rfl) rfl rfl rfl rfl rfl rfl rfl ?_
      refine xw_if_eq 23 19 dX5_load_16 rfl rfl (fun h16 => ?_) (fun h16 => absurd (rfl) h16)
      refine xw_iconst 24 (nI 0) dX5_load_23 rfl (xofI 0) ?_
      refine xw_istore_n (ls' := [(1, _), (0, _)]) 25 dX5_load_24 rfl rfl rfl ?_
      refine xw_aload_n 26 dX5_load_25 rfl rfl rfl ?_
      refine xw_iload_n 27 dX5_load_26 rfl rfl ?_
      refine xw_if_ne 34 30 dX5_load_27 rfl rfl (fun h27 => absurd (rfl) h27) (fun h27 => ?_)
      refine xw_iconst 31 (nI 1) dX5_load_30 rfl (xofI 1) ?_
      refine xw_goto 46 dX5_load_31 rfl ?_
      refine xw_put (hp' := (mH A z (nI s) hi (nI ln) tx (nI 1) ot oR oC wa (zpA tx pR (zvR tx) ln) (zpA tx pC (zvC tx) ln) (zpA tx pM (zvM tx) ln) (nI (zpn tx ln)) (nI (zsr tx ln)) (nI (xb01 (zpb true tx ln).1)) (nI (zpb true tx ln).2) fe kc hs T)) 49 dX5_load_46 rfl f_X5_40 (xA hA rfl) ⟨rfl, rfl⟩ rfl rfl (xAs hA rfl) ?_
      refine xw_aload_n 50 dX5_load_49 rfl rfl rfl ?_
      refine xw_get 53 dX5_load_50 rfl f_X5_40 (xA hA rfl) rfl ?_
      refine xw_if_le 58 56 dX5_load_53 rfl rfl (fun h53 => absurd h53 (by decide)) (fun h53 => ?_)
      refine xw_iconst 57 (nI 0) dX5_load_56 rfl (xofI 0) ?_
      exact xw_ireturn dX5_load_57 rfl (⟨rfl, (ot, oR, oC, wa, (zpA tx pR (zvR tx) ln), (zpA tx pC (zvC tx) ln), (zpA tx pM (zvM tx) ln), (nI (zpn tx ln)), (nI (zsr tx ln)), (nI (xb01 (zpb true tx ln).1)), (nI (zpb true tx ln).2), fe, kc, hs), rfl⟩)
    · have hle := zei_le true tx ln 0
      refine xw_aload_n 1 dX5_load_0 rfl rfl rfl ?_
      refine xw_iconst 2 (nI 1) dX5_load_1 rfl (xofI 1) ?_
      refine xw_pV 5 dX5_load_2 rfl ok_M_rightUpTo s_X5_81 (hru) (mH_len) (xA hA rfl) rfl rfl rfl rfl rfl rfl rfl ?_
      refine xw_aload_n 6 dX5_load_5 rfl rfl rfl ?_
      refine xw_get 9 dX5_load_6 rfl f_X5_85 (xA hA rfl) rfl ?_
      refine xw_icmp_ne 23 12 dX5_load_9 rfl rfl (fun h9 => ?_) (fun h9 => absurd h9 (fun q => by rw [nI_eq (by omega) (by omega)] at q; exact g1 q))
      refine xw_iconst 24 (nI 0) dX5_load_23 rfl (xofI 0) ?_
      refine xw_istore_n (ls' := [(1, _), (0, _)]) 25 dX5_load_24 rfl rfl rfl ?_
      refine xw_aload_n 26 dX5_load_25 rfl rfl rfl ?_
      refine xw_iload_n 27 dX5_load_26 rfl rfl ?_
      refine xw_if_ne 34 30 dX5_load_27 rfl rfl (fun h27 => absurd (rfl) h27) (fun h27 => ?_)
      refine xw_iconst 31 (nI 1) dX5_load_30 rfl (xofI 1) ?_
      refine xw_goto 46 dX5_load_31 rfl ?_
      refine xw_put (hp' := (mH A z (nI s) hi (nI ln) tx (nI 1) ot oR oC wa (zpA tx pR (zvR tx) (zei true tx 0 ln)) (zpA tx pC (zvC tx) (zei true tx 0 ln)) (zpA tx pM (zvM tx) (zei true tx 0 ln)) (nI (zpn tx (zei true tx 0 ln))) (nI (zsr tx (zei true tx 0 ln))) (nI (xb01 (zpb true tx (zei true tx 0 ln)).1)) (nI (zpb true tx (zei true tx 0 ln)).2) fe kc hs T)) 49 dX5_load_46 rfl f_X5_40 (xA hA rfl) ⟨rfl, rfl⟩ rfl rfl (xAs hA rfl) ?_
      refine xw_aload_n 50 dX5_load_49 rfl rfl rfl ?_
      refine xw_get 53 dX5_load_50 rfl f_X5_40 (xA hA rfl) rfl ?_
      refine xw_if_le 58 56 dX5_load_53 rfl rfl (fun h53 => absurd h53 (by decide)) (fun h53 => ?_)
      refine xw_iconst 57 (nI 0) dX5_load_56 rfl (xofI 0) ?_
      exact xw_ireturn dX5_load_57 rfl (⟨rfl, (ot, oR, oC, wa, (zpA tx pR (zvR tx) (zei true tx 0 ln)), (zpA tx pC (zvC tx) (zei true tx 0 ln)), (zpA tx pM (zvM tx) (zei true tx 0 ln)), (nI (zpn tx (zei true tx 0 ln))), (nI (zsr tx (zei true tx 0 ln))), (nI (xb01 (zpb true tx (zei true tx 0 ln)).1)), (nI (zpb true tx (zei true tx 0 ln)).2), fe, kc, hs), rfl⟩)
end P50

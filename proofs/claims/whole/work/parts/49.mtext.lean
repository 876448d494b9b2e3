/-! ===== the model: texts read ===== -/
/-- a letter stands there -/
def zlet (co : Nat → Int32) (i : Nat) : Prop := zI co i ≠ 47 ∧ zdg (zI co i) = false
/-- how many parts are read behind i characters -/
def zpn (co : Nat → Int32) : Nat → Nat
  | 0 => 0
  | i + 1 => if zI co i ≠ 47 ∧ zdg (zI co i) = false then zpn co i + 1 else zpn co i
theorem zpn_y {co : Nat → Int32} {i : Nat} (h : zlet co i) : zpn co (i + 1) = zpn co i + 1 := if_pos h
theorem zpn_n {co : Nat → Int32} {i : Nat} (h : ¬ zlet co i) : zpn co (i + 1) = zpn co i := if_neg h
theorem zpn_le (co : Nat → Int32) : ∀ i, zpn co i ≤ i
  | 0 => Nat.le_refl _
  | i + 1 => by
    have := zpn_le co i
    unfold zpn
    split <;> omega
/-- a row with a number for each part -/
def zpA (co f v : Nat → Int32) : Nat → Nat → Int32
  | 0 => f
  | i + 1 => if zI co i ≠ 47 ∧ zdg (zI co i) = false then upd (zpA co f v i) (zpn co i) (v i) else zpA co f v i
theorem zpA_y {co f v : Nat → Int32} {i : Nat} (h : zlet co i) : zpA co f v (i + 1) = upd (zpA co f v i) (zpn co i) (v i) := if_pos h
theorem zpA_n {co f v : Nat → Int32} {i : Nat} (h : ¬ zlet co i) : zpA co f v (i + 1) = zpA co f v i := if_neg h
/-- the part that a letter makes stays -/
theorem zpA_at {co f v : Nat → Int32} {i : Nat} (h : zlet co i) : ∀ d, zpA co f v (i + 1 + d) (zpn co i) = v i
  | 0 => by rw [Nat.add_zero, zpA_y h, upd_at]
  | d + 1 => by
    have h2 : zpn co i < zpn co (i + 1 + d) := by
      have h3 : ∀ d, zpn co i < zpn co (i + 1 + d) := by
        intro d
        induction d with
        | zero => rw [Nat.add_zero, zpn_y h]; omega
        | succ d ih =>
          rw [← Nat.add_assoc]
          by_cases q : zlet co (i + 1 + d)
          · rw [zpn_y q]; omega
          · rw [zpn_n q]; exact ih
      exact h3 d
    rw [← Nat.add_assoc]
    by_cases q : zlet co (i + 1 + d)
    · rw [zpA_y q, upd_ne (by omega)]
      exact zpA_at h d
    · rw [zpA_n q]
      exact zpA_at h d
def zvR (co : Nat → Int32) : Nat → Int32 := fun i => nI (zsr co i)
def zvC (co : Nat → Int32) : Nat → Int32 := fun i => nI (zI co i - 97)
def zvM (co : Nat → Int32) : Nat → Int32 := fun i => nI (max 1 (znm co i))
/-- the reading behind i characters -/
def zpb (ch : Bool) (co : Nat → Int32) (i : Nat) : Bool × Nat := (zps ch co i).getD (false, 0)
theorem zpb_is {ch : Bool} {co : Nat → Int32} {i : Nat} {s : Bool × Nat} (h : zps ch co i = some s) : zpb ch co i = s := by unfold zpb; rw [h]; rfl
theorem zps_s {ch : Bool} {co : Nat → Int32} {i : Nat} {s : Bool × Nat} (h : zps ch co i = some s) : zps ch co (i + 1) = zst ch s (zI co i) := by
  conv => lhs; unfold zps
  rw [h]
theorem zsr_n {co : Nat → Int32} {i : Nat} (h : zI co i ≠ 47) : zsr co (i + 1) = zsr co i := if_neg h
theorem zsr_y {co : Nat → Int32} {i : Nat} (h : zI co i = 47) : zsr co (i + 1) = zsr co i + 1 := if_pos h
section P49
variable {G : xG} {x : Nat} {A T : List xE} {z hi tx ot wa pR pC pM fe kc : Nat → Int32} {s ln : Nat} {th oR oC ps rr ha nu : Int32} {hs : Int64}
theorem S_M_takesDigit_y {d n : Nat} (hA : A.length = 71) (hv1 : 1 ≤ 10 * n + d) (hv2 : 10 * n + d ≤ 60) : xMet G M_takesDigit [.ref 71, .int (nI d)] (mH A z (nI s) hi (nI ln) tx th ot oR oC wa pR pC pM ps rr ha (nI n) fe kc hs T) x 0 0 (xRetV (.int (nI 1)) (mH A z (nI s) hi (nI ln) tx th ot oR oC wa pR pC pM ps rr ha (nI (10 * n + d)) fe kc hs T)) := by
  have w0 : nI (if xbt (nI (10 * n + d)) (nI 1) (nI 60) then 1 else 0) = nI 1 := bIf ⟨nI_nlt hv1 (by omega), nI_nlt hv2 (by omega)⟩
  refine xw_bipush 2 (nI 10) dX5_takesDigit_0 rfl (by decide) ?_
  refine xw_aload_n 3 dX5_takesDigit_2 rfl rfl rfl ?_
  refine xw_get 6 dX5_takesDigit_3 rfl f_X5_149 (xA hA rfl) rfl ?_
  refine xw_imul 7 dX5_takesDigit_6 rfl ?_
  refine xw_iload_n 8 dX5_takesDigit_7 rfl rfl ?_
  refine xw_iadd 9 dX5_takesDigit_8 rfl ?_
  rw [pk_mul, nI_add]
  refine xw_istore_n (ls' := [(2, _), (0, _), (1, _)]) 10 dX5_takesDigit_9 rfl rfl rfl ?_
  refine xw_iload_n 11 dX5_takesDigit_10 rfl rfl ?_
  refine xw_iconst 12 (nI 1) dX5_takesDigit_11 rfl (xofI 1) ?_
  refine xw_bipush 14 (nI 60) dX5_takesDigit_12 rfl (by decide) ?_
  refine xw_pS 17 dX5_takesDigit_14 rfl ok_M_within s_X5_47 (S_M_within) (mH_len) rfl rfl rfl rfl rfl rfl ?_
  rw [w0]
  refine xw_istore_n (ls' := [(3, _), (2, _), (0, _), (1, _)]) 18 dX5_takesDigit_17 rfl rfl rfl ?_
  refine xw_aload_n 19 dX5_takesDigit_18 rfl rfl rfl ?_
  refine xw_iload_n 20 dX5_takesDigit_19 rfl rfl ?_
  refine xw_if_eq 27 23 dX5_takesDigit_20 rfl rfl (fun h20 => absurd h20 (by decide)) (fun h20 => ?_)
  refine xw_iload_n 24 dX5_takesDigit_23 rfl rfl ?_
  refine xw_goto 31 dX5_takesDigit_24 rfl ?_
  refine xw_put (hp' := (mH A z (nI s) hi (nI ln) tx th ot oR oC wa pR pC pM ps rr ha (nI (10 * n + d)) fe kc hs T)) 34 dX5_takesDigit_31 rfl f_X5_149 (xA hA rfl) ⟨rfl, rfl⟩ rfl rfl (xAs hA rfl) ?_
  refine xw_iload_n 35 dX5_takesDigit_34 rfl rfl ?_
  exact xw_zreturn dX5_takesDigit_35 rfl (Or.inr rfl) (⟨rfl, rfl⟩)
theorem S_M_takesDigit_n {d n : Nat} (hA : A.length = 71) (hn : n ≤ 60) (hd : d ≤ 9) (hv : ¬ (1 ≤ 10 * n + d ∧ 10 * n + d ≤ 60)) : xMet G M_takesDigit [.ref 71, .int (nI d)] (mH A z (nI s) hi (nI ln) tx th ot oR oC wa pR pC pM ps rr ha (nI n) fe kc hs T) x 0 0 (xRetV (.int (nI 0)) (mH A z (nI s) hi (nI ln) tx th ot oR oC wa pR pC pM ps rr ha (nI n) fe kc hs T)) := by
  have w0 : nI (if xbt (nI (10 * n + d)) (nI 1) (nI 60) then 1 else 0) = nI 0 := bIfn (fun q => hv (by
    have q1 := q.1
    have q2 := q.2
    rw [nI_ltI (by omega) (by omega)] at q1 q2
    omega))
  refine xw_bipush 2 (nI 10) dX5_takesDigit_0 rfl (by decide) ?_
  refine xw_aload_n 3 dX5_takesDigit_2 rfl rfl rfl ?_
  refine xw_get 6 dX5_takesDigit_3 rfl f_X5_149 (xA hA rfl) rfl ?_
  refine xw_imul 7 dX5_takesDigit_6 rfl ?_
  refine xw_iload_n 8 dX5_takesDigit_7 rfl rfl ?_
  refine xw_iadd 9 dX5_takesDigit_8 rfl ?_
  rw [pk_mul, nI_add]
  refine xw_istore_n (ls' := [(2, _), (0, _), (1, _)]) 10 dX5_takesDigit_9 rfl rfl rfl ?_
  refine xw_iload_n 11 dX5_takesDigit_10 rfl rfl ?_
  refine xw_iconst 12 (nI 1) dX5_takesDigit_11 rfl (xofI 1) ?_
  refine xw_bipush 14 (nI 60) dX5_takesDigit_12 rfl (by decide) ?_
  refine xw_pS 17 dX5_takesDigit_14 rfl ok_M_within s_X5_47 (S_M_within) (mH_len) rfl rfl rfl rfl rfl rfl ?_
  rw [w0]
  refine xw_istore_n (ls' := [(3, _), (2, _), (0, _), (1, _)]) 18 dX5_takesDigit_17 rfl rfl rfl ?_
  refine xw_aload_n 19 dX5_takesDigit_18 rfl rfl rfl ?_
  refine xw_iload_n 20 dX5_takesDigit_19 rfl rfl ?_
  refine xw_if_eq 27 23 dX5_takesDigit_20 rfl rfl (fun h20 => ?_) (fun h20 => absurd (rfl) h20)
  refine xw_aload_n 28 dX5_takesDigit_27 rfl rfl rfl ?_
  refine xw_get 31 dX5_takesDigit_28 rfl f_X5_149 (xA hA rfl) rfl ?_
  refine xw_put (hp' := (mH A z (nI s) hi (nI ln) tx th ot oR oC wa pR pC pM ps rr ha (nI n) fe kc hs T)) 34 dX5_takesDigit_31 rfl f_X5_149 (xA hA rfl) ⟨rfl, rfl⟩ rfl rfl (xAs hA rfl) ?_
  refine xw_iload_n 35 dX5_takesDigit_34 rfl rfl ?_
  exact xw_zreturn dX5_takesDigit_35 rfl (Or.inl rfl) (⟨rfl, rfl⟩)
theorem S_M_takesColour_y {c n np r : Nat} (hA : A.length = 71) (hc : c < 6) (hn : n ≤ 60) (hn1 : n ≠ 1) (hp6 : np < 60) : xMet G M_takesColour [.ref 71, .int (nI c)] (mH A z (nI s) hi (nI ln) tx th ot oR oC wa pR pC pM (nI np) (nI r) ha (nI n) fe kc hs T) x 0 0 (xRetV (.int (nI 1)) (mH A z (nI s) hi (nI ln) tx th ot oR oC wa (upd pR np (nI r)) (upd pC np (nI c)) (upd pM np (nI (max 1 n))) (nI (np + 1)) (nI r) (nI 1) (nI 0) fe kc hs T)) := by
  have w0 : nI (if xlt (nI c) 6 then 1 else 0) = nI 1 := bIf (xlt_k (by decide) hc)
  by_cases h0 : n = 0
  · subst h0
    have e1 : max 1 0 = 1 := rfl
    refine xw_iload_n 1 dX5_takesColour_0 rfl rfl ?_
    refine xw_pS 4 dX5_takesColour_1 rfl ok_M_isColour s_X5_108 (S_M_isColour) (mH_len) rfl rfl rfl rfl rfl rfl ?_
    rw [w0]
    refine xw_if_eq 19 7 dX5_takesColour_4 rfl rfl (fun h4 => absurd h4 (by decide)) (fun h4 => ?_)
    refine xw_aload_n 8 dX5_takesColour_7 rfl rfl rfl ?_
    refine xw_get 11 dX5_takesColour_8 rfl f_X5_149 (xA hA rfl) rfl ?_
    refine xw_iconst 12 (nI 1) dX5_takesColour_11 rfl (xofI 1) ?_
    refine xw_icmp_eq 19 15 dX5_takesColour_12 rfl rfl (fun h12 => absurd h12 (fun q => by rw [nI_eq (by omega) (by decide)] at q; omega)) (fun h12 => ?_)
    refine xw_iconst 16 (nI 1) dX5_takesColour_15 rfl (xofI 1) ?_
    refine xw_goto 20 dX5_takesColour_16 rfl ?_
    refine xw_istore_n (ls' := [(2, _), (0, _), (1, _)]) 21 dX5_takesColour_20 rfl rfl rfl ?_
    refine xw_iload_n 22 dX5_takesColour_21 rfl rfl ?_
    refine xw_if_eq 92 25 dX5_takesColour_22 rfl rfl (fun h22 => absurd h22 (by decide)) (fun h22 => ?_)
    refine xw_aload_n 26 dX5_takesColour_25 rfl rfl rfl ?_
    refine xw_get 29 dX5_takesColour_26 rfl f_X5_25 (xA hA rfl) rfl ?_
    refine xw_aload_n 30 dX5_takesColour_29 rfl rfl rfl ?_
    refine xw_get 33 dX5_takesColour_30 rfl f_X5_134 (xA hA rfl) rfl ?_
    refine xw_aload_n 34 dX5_takesColour_33 rfl rfl rfl ?_
    refine xw_get 37 dX5_takesColour_34 rfl f_X5_152 (xA hA rfl) rfl ?_
    refine xw_iastore (j := np) (hp' := (mH A z (nI s) hi (nI ln) tx th ot oR oC wa (upd pR np (nI r)) pC pM (nI np) (nI r) ha (nI 0) fe kc hs T)) 38 dX5_takesColour_37 rfl (xA hA rfl) (rfl) (by omega) (by omega) (xAs hA rfl) ?_
    refine xw_aload_n 39 dX5_takesColour_38 rfl rfl rfl ?_
    refine xw_get 42 dX5_takesColour_39 rfl f_X5_28 (xA hA rfl) rfl ?_
    refine xw_aload_n 43 dX5_takesColour_42 rfl rfl rfl ?_
    refine xw_get 46 dX5_takesColour_43 rfl f_X5_134 (xA hA rfl) rfl ?_
    refine xw_iload_n 47 dX5_takesColour_46 rfl rfl ?_
    refine xw_iastore (j := np) (hp' := (mH A z (nI s) hi (nI ln) tx th ot oR oC wa (upd pR np (nI r)) (upd pC np (nI c)) pM (nI np) (nI r) ha (nI 0) fe kc hs T)) 48 dX5_takesColour_47 rfl (xA hA rfl) (rfl) (by omega) (by omega) (xAs hA rfl) ?_
    refine xw_aload_n 49 dX5_takesColour_48 rfl rfl rfl ?_
    refine xw_get 52 dX5_takesColour_49 rfl f_X5_31 (xA hA rfl) rfl ?_
    refine xw_aload_n 53 dX5_takesColour_52 rfl rfl rfl ?_
    refine xw_get 56 dX5_takesColour_53 rfl f_X5_134 (xA hA rfl) rfl ?_
    refine xw_aload_n 57 dX5_takesColour_56 rfl rfl rfl ?_
    refine xw_get 60 dX5_takesColour_57 rfl f_X5_149 (xA hA rfl) rfl ?_
    refine xw_if_ne 67 63 dX5_takesColour_60 rfl rfl (fun h60 => absurd (rfl) h60) (fun h60 => ?_)
    refine xw_iconst 64 (nI 1) dX5_takesColour_63 rfl (xofI 1) ?_
    refine xw_goto 71 dX5_takesColour_64 rfl ?_
    refine xw_iastore (j := np) (hp' := (mH A z (nI s) hi (nI ln) tx th ot oR oC wa (upd pR np (nI r)) (upd pC np (nI c)) (upd pM np (nI (max 1 0))) (nI np) (nI r) ha (nI 0) fe kc hs T)) 72 dX5_takesColour_71 rfl (xA hA rfl) (rfl) (by omega) (by omega) (xAs hA rfl) ?_
    refine xw_aload_n 73 dX5_takesColour_72 rfl rfl rfl ?_
    refine xw_dup 74 dX5_takesColour_73 rfl rfl ?_
    refine xw_get 77 dX5_takesColour_74 rfl f_X5_134 (xA hA rfl) rfl ?_
    refine xw_iconst 78 (nI 1) dX5_takesColour_77 rfl (xofI 1) ?_
    refine xw_iadd 79 dX5_takesColour_78 rfl ?_
    rw [nI_add]
    refine xw_put (hp' := (mH A z (nI s) hi (nI ln) tx th ot oR oC wa (upd pR np (nI r)) (upd pC np (nI c)) (upd pM np (nI (max 1 0))) (nI (np + 1)) (nI r) ha (nI 0) fe kc hs T)) 82 dX5_takesColour_79 rfl f_X5_134 (xA hA rfl) ⟨rfl, rfl⟩ rfl rfl (xAs hA rfl) ?_
    refine xw_aload_n 83 dX5_takesColour_82 rfl rfl rfl ?_
    refine xw_iconst 84 (nI 0) dX5_takesColour_83 rfl (xofI 0) ?_
    refine xw_put (hp' := (mH A z (nI s) hi (nI ln) tx th ot oR oC wa (upd pR np (nI r)) (upd pC np (nI c)) (upd pM np (nI (max 1 0))) (nI (np + 1)) (nI r) ha (nI 0) fe kc hs T)) 87 dX5_takesColour_84 rfl f_X5_149 (xA hA rfl) ⟨rfl, rfl⟩ rfl rfl (xAs hA rfl) ?_
    refine xw_aload_n 88 dX5_takesColour_87 rfl rfl rfl ?_
    refine xw_iconst 89 (nI 1) dX5_takesColour_88 rfl (xofI 1) ?_
    refine xw_put (hp' := (mH A z (nI s) hi (nI ln) tx th ot oR oC wa (upd pR np (nI r)) (upd pC np (nI c)) (upd pM np (nI (max 1 0))) (nI (np + 1)) (nI r) (nI 1) (nI 0) fe kc hs T)) 92 dX5_takesColour_89 rfl f_X5_155 (xA hA rfl) ⟨rfl, rfl⟩ rfl rfl (xAs hA rfl) ?_
    refine xw_iload_n 93 dX5_takesColour_92 rfl rfl ?_
    exact xw_zreturn dX5_takesColour_93 rfl (Or.inr rfl) (⟨rfl, rfl⟩)
  · have e1 : max 1 n = n := Nat.max_eq_right (by omega)
    rw [e1]
    refine xw_iload_n 1 dX5_takesColour_0 rfl rfl ?_
    refine xw_pS 4 dX5_takesColour_1 rfl ok_M_isColour s_X5_108 (S_M_isColour) (mH_len) rfl rfl rfl rfl rfl rfl ?_
    rw [w0]
    refine xw_if_eq 19 7 dX5_takesColour_4 rfl rfl (fun h4 => absurd h4 (by decide)) (fun h4 => ?_)
    refine xw_aload_n 8 dX5_takesColour_7 rfl rfl rfl ?_
    refine xw_get 11 dX5_takesColour_8 rfl f_X5_149 (xA hA rfl) rfl ?_
    refine xw_iconst 12 (nI 1) dX5_takesColour_11 rfl (xofI 1) ?_
    refine xw_icmp_eq 19 15 dX5_takesColour_12 rfl rfl (fun h12 => absurd h12 (fun q => by rw [nI_eq (by omega) (by decide)] at q; omega)) (fun h12 => ?_)
    refine xw_iconst 16 (nI 1) dX5_takesColour_15 rfl (xofI 1) ?_
    refine xw_goto 20 dX5_takesColour_16 rfl ?_
    refine xw_istore_n (ls' := [(2, _), (0, _), (1, _)]) 21 dX5_takesColour_20 rfl rfl rfl ?_
    refine xw_iload_n 22 dX5_takesColour_21 rfl rfl ?_
    refine xw_if_eq 92 25 dX5_takesColour_22 rfl rfl (fun h22 => absurd h22 (by decide)) (fun h22 => ?_)
    refine xw_aload_n 26 dX5_takesColour_25 rfl rfl rfl ?_
    refine xw_get 29 dX5_takesColour_26 rfl f_X5_25 (xA hA rfl) rfl ?_
    refine xw_aload_n 30 dX5_takesColour_29 rfl rfl rfl ?_
    refine xw_get 33 dX5_takesColour_30 rfl f_X5_134 (xA hA rfl) rfl ?_
    refine xw_aload_n 34 dX5_takesColour_33 rfl rfl rfl ?_
    refine xw_get 37 dX5_takesColour_34 rfl f_X5_152 (xA hA rfl) rfl ?_
    refine xw_iastore (j := np) (hp' := (mH A z (nI s) hi (nI ln) tx th ot oR oC wa (upd pR np (nI r)) pC pM (nI np) (nI r) ha (nI n) fe kc hs T)) 38 dX5_takesColour_37 rfl (xA hA rfl) (rfl) (by omega) (by omega) (xAs hA rfl) ?_
    refine xw_aload_n 39 dX5_takesColour_38 rfl rfl rfl ?_
    refine xw_get 42 dX5_takesColour_39 rfl f_X5_28 (xA hA rfl) rfl ?_
    refine xw_aload_n 43 dX5_takesColour_42 rfl rfl rfl ?_
    refine xw_get 46 dX5_takesColour_43 rfl f_X5_134 (xA hA rfl) rfl ?_
    refine xw_iload_n 47 dX5_takesColour_46 rfl rfl ?_
    refine xw_iastore (j := np) (hp' := (mH A z (nI s) hi (nI ln) tx th ot oR oC wa (upd pR np (nI r)) (upd pC np (nI c)) pM (nI np) (nI r) ha (nI n) fe kc hs T)) 48 dX5_takesColour_47 rfl (xA hA rfl) (rfl) (by omega) (by omega) (xAs hA rfl) ?_
    refine xw_aload_n 49 dX5_takesColour_48 rfl rfl rfl ?_
    refine xw_get 52 dX5_takesColour_49 rfl f_X5_31 (xA hA rfl) rfl ?_
    refine xw_aload_n 53 dX5_takesColour_52 rfl rfl rfl ?_
    refine xw_get 56 dX5_takesColour_53 rfl f_X5_134 (xA hA rfl) rfl ?_
    refine xw_aload_n 57 dX5_takesColour_56 rfl rfl rfl ?_
    refine xw_get 60 dX5_takesColour_57 rfl f_X5_149 (xA hA rfl) rfl ?_
    refine xw_if_ne 67 63 dX5_takesColour_60 rfl rfl (fun h60 => ?_) (fun h60 => absurd h60 (nI_ne0 (by omega) (by omega)))
    refine xw_aload_n 68 dX5_takesColour_67 rfl rfl rfl ?_
    refine xw_get 71 dX5_takesColour_68 rfl f_X5_149 (xA hA rfl) rfl ?_
    refine xw_iastore (j := np) (hp' := (mH A z (nI s) hi (nI ln) tx th ot oR oC wa (upd pR np (nI r)) (upd pC np (nI c)) (upd pM np (nI n)) (nI np) (nI r) ha (nI n) fe kc hs T)) 72 dX5_takesColour_71 rfl (xA hA rfl) (rfl) (by omega) (by omega) (xAs hA rfl) ?_
    refine xw_aload_n 73 dX5_takesColour_72 rfl rfl rfl ?_
    refine xw_dup 74 dX5_takesColour_73 rfl rfl ?_
    refine xw_get 77 dX5_takesColour_74 rfl f_X5_134 (xA hA rfl) rfl ?_
    refine xw_iconst 78 (nI 1) dX5_takesColour_77 rfl (xofI 1) ?_
    refine xw_iadd 79 dX5_takesColour_78 rfl ?_
    rw [nI_add]
    refine xw_put (hp' := (mH A z (nI s) hi (nI ln) tx th ot oR oC wa (upd pR np (nI r)) (upd pC np (nI c)) (upd pM np (nI n)) (nI (np + 1)) (nI r) ha (nI n) fe kc hs T)) 82 dX5_takesColour_79 rfl f_X5_134 (xA hA rfl) ⟨rfl, rfl⟩ rfl rfl (xAs hA rfl) ?_
    refine xw_aload_n 83 dX5_takesColour_82 rfl rfl rfl ?_
    refine xw_iconst 84 (nI 0) dX5_takesColour_83 rfl (xofI 0) ?_
    refine xw_put (hp' := (mH A z (nI s) hi (nI ln) tx th ot oR oC wa (upd pR np (nI r)) (upd pC np (nI c)) (upd pM np (nI n)) (nI (np + 1)) (nI r) ha (nI 0) fe kc hs T)) 87 dX5_takesColour_84 rfl f_X5_149 (xA hA rfl) ⟨rfl, rfl⟩ rfl rfl (xAs hA rfl) ?_
    refine xw_aload_n 88 dX5_takesColour_87 rfl rfl rfl ?_
    refine xw_iconst 89 (nI 1) dX5_takesColour_88 rfl (xofI 1) ?_
    refine xw_put (hp' := (mH A z (nI s) hi (nI ln) tx th ot oR oC wa (upd pR np (nI r)) (upd pC np (nI c)) (upd pM np (nI n)) (nI (np + 1)) (nI r) (nI 1) (nI 0) fe kc hs T)) 92 dX5_takesColour_89 rfl f_X5_155 (xA hA rfl) ⟨rfl, rfl⟩ rfl rfl (xAs hA rfl) ?_
    refine xw_iload_n 93 dX5_takesColour_92 rfl rfl ?_
    exact xw_zreturn dX5_takesColour_93 rfl (Or.inr rfl) (⟨rfl, rfl⟩)
theorem S_M_takesColour_n {v : Int32} {n np r : Nat} (hA : A.length = 71) (hn : n ≤ 60) (h : ¬ xlt v 6 ∨ n = 1) : xMet G M_takesColour [.ref 71, .int v] (mH A z (nI s) hi (nI ln) tx th ot oR oC wa pR pC pM (nI np) (nI r) ha (nI n) fe kc hs T) x 0 0 (xRetV (.int (nI 0)) (mH A z (nI s) hi (nI ln) tx th ot oR oC wa pR pC pM (nI np) (nI r) ha (nI n) fe kc hs T)) := by
  by_cases g : xlt v 6
  · have w0 : nI (if xlt v 6 then 1 else 0) = nI 1 := bIf g
    have h1 : n = 1 := h.resolve_left (fun q => q g)
    subst h1
    refine xw_iload_n 1 dX5_takesColour_0 rfl rfl ?_
    refine xw_pS 4 dX5_takesColour_1 rfl ok_M_isColour s_X5_108 (S_M_isColour) (mH_len) rfl rfl rfl rfl rfl rfl ?_
    rw [w0]
    refine xw_if_eq 19 7 dX5_takesColour_4 rfl rfl (fun h4 => absurd h4 (by decide)) (fun h4 => ?_)
    refine xw_aload_n 8 dX5_takesColour_7 rfl rfl rfl ?_
    refine xw_get 11 dX5_takesColour_8 rfl f_X5_149 (xA hA rfl) rfl ?_
    refine xw_iconst 12 (nI 1) dX5_takesColour_11 rfl (xofI 1) ?_
    refine xw_icmp_eq 19 15 dX5_takesColour_12 rfl rfl (fun h12 => ?_) (fun h12 => absurd (rfl) h12)
    refine xw_iconst 20 (nI 0) dX5_takesColour_19 rfl (xofI 0) ?_
    refine xw_istore_n (ls' := [(2, _), (0, _), (1, _)]) 21 dX5_takesColour_20 rfl rfl rfl ?_
    refine xw_iload_n 22 dX5_takesColour_21 rfl rfl ?_
    refine xw_if_eq 92 25 dX5_takesColour_22 rfl rfl (fun h22 => ?_) (fun h22 => absurd (rfl) h22)
    refine xw_iload_n 93 dX5_takesColour_92 rfl rfl ?_
    exact xw_zreturn dX5_takesColour_93 rfl (Or.inl rfl) (⟨rfl, rfl⟩)
  · have w0 : nI (if xlt v 6 then 1 else 0) = nI 0 := bIfn g
    refine xw_iload_n 1 dX5_takesColour_0 rfl rfl ?_
    refine xw_pS 4 dX5_takesColour_1 rfl ok_M_isColour s_X5_108 (S_M_isColour) (mH_len) rfl rfl rfl rfl rfl rfl ?_
    rw [w0]
    refine xw_if_eq 19 7 dX5_takesColour_4 rfl rfl (fun h4 => ?_) (fun h4 => absurd (rfl) h4)
    refine xw_iconst 20 (nI 0) dX5_takesColour_19 rfl (xofI 0) ?_
    refine xw_istore_n (ls' := [(2, _), (0, _), (1, _)]) 21 dX5_takesColour_20 rfl rfl rfl ?_
    refine xw_iload_n 22 dX5_takesColour_21 rfl rfl ?_
    refine xw_if_eq 92 25 dX5_takesColour_22 rfl rfl (fun h22 => ?_) (fun h22 => absurd (rfl) h22)
    refine xw_iload_n 93 dX5_takesColour_92 rfl rfl ?_
    exact xw_zreturn dX5_takesColour_93 rfl (Or.inl rfl) (⟨rfl, rfl⟩)
theorem S_M_isWhole {b : Bool} {n : Nat} (hA : A.length = 71) (hn : n ≤ 60) : xMet G M_isWhole [.ref 71] (mH A z (nI s) hi (nI ln) tx th ot oR oC wa pR pC pM ps rr (nI (xb01 b)) (nI n) fe kc hs T) x 0 0 (xRetV (.int (nI (xb01 (decide (b = true ∧ n = 0))))) (mH A z (nI s) hi (nI ln) tx th ot oR oC wa pR pC pM ps rr (nI (xb01 b)) (nI n) fe kc hs T)) := by
  cases b
  · have e : decide (false = true ∧ n = 0) = false := by simp
    rw [e]
    refine xw_aload_n 1 dX5_isWhole_0 rfl rfl rfl ?_
    refine xw_get 4 dX5_isWhole_1 rfl f_X5_155 (xA hA rfl) rfl ?_
    refine xw_if_eq 18 7 dX5_isWhole_4 rfl rfl (fun h4 => ?_) (fun h4 => absurd (rfl) h4)
    refine xw_iconst 19 (nI 0) dX5_isWhole_18 rfl (xofI 0) ?_
    exact xw_zreturn dX5_isWhole_19 rfl (Or.inl rfl) (⟨rfl, rfl⟩)
  · by_cases h : n = 0
    · subst h
      refine xw_aload_n 1 dX5_isWhole_0 rfl rfl rfl ?_
      refine xw_get 4 dX5_isWhole_1 rfl f_X5_155 (xA hA rfl) rfl ?_
      refine xw_if_eq 18 7 dX5_isWhole_4 rfl rfl (fun h4 => absurd h4 (by decide)) (fun h4 => ?_)
      refine xw_aload_n 8 dX5_isWhole_7 rfl rfl rfl ?_
      refine xw_get 11 dX5_isWhole_8 rfl f_X5_149 (xA hA rfl) rfl ?_
      refine xw_if_ne 18 14 dX5_isWhole_11 rfl rfl (fun h11 => absurd (rfl) h11) (fun h11 => ?_)
      refine xw_iconst 15 (nI 1) dX5_isWhole_14 rfl (xofI 1) ?_
      refine xw_goto 19 dX5_isWhole_15 rfl ?_
      exact xw_zreturn dX5_isWhole_19 rfl (Or.inr rfl) (⟨rfl, rfl⟩)
    · have e : decide (true = true ∧ n = 0) = false := by simp [h]
      rw [e]
      refine xw_aload_n 1 dX5_isWhole_0 rfl rfl rfl ?_
      refine xw_get 4 dX5_isWhole_1 rfl f_X5_155 (xA hA rfl) rfl ?_
      refine xw_if_eq 18 7 dX5_isWhole_4 rfl rfl (fun h4 => absurd h4 (by decide)) (fun h4 => ?_)
      refine xw_aload_n 8 dX5_isWhole_7 rfl rfl rfl ?_
      refine xw_get 11 dX5_isWhole_8 rfl f_X5_149 (xA hA rfl) rfl ?_
      refine xw_if_ne 18 14 dX5_isWhole_11 rfl rfl (fun h11 => ?_) (fun h11 => absurd h11 (nI_ne0 (by omega) (by omega)))
      refine xw_iconst 19 (nI 0) dX5_isWhole_18 rfl (xofI 0) ?_
      exact xw_zreturn dX5_isWhole_19 rfl (Or.inl rfl) (⟨rfl, rfl⟩)
theorem S_M_takes_slash {b : Bool} {n np r : Nat} (hA : A.length = 71) (hb : b = true) (hn0 : n = 0) : xMet G M_takes [.ref 71, .int (nI 47), .int (nI (xb01 true))] (mH A z (nI s) hi (nI ln) tx th ot oR oC wa pR pC pM (nI np) (nI r) (nI (xb01 b)) (nI n) fe kc hs T) x 0 0 (xRetV (.int (nI 1)) (mH A z (nI s) hi (nI ln) tx th ot oR oC wa pR pC pM (nI np) (nI (r + 1)) (nI (xb01 false)) (nI 0) fe kc hs T)) := by
  subst hb
  subst hn0
  have hw := S_M_isWhole (G := G) (x := x) (A := A) (T := T) (z := z) (hi := hi) (s := s) (ln := ln) (tx := tx) (th := th) (ot := ot) (oR := oR) (oC := oC) (wa := wa) (pR := pR) (pC := pC) (pM := pM) (ps := nI np) (rr := nI r) (fe := fe) (kc := kc) (hs := hs) (b := true) (n := 0) hA (by omega)
  refine xw_iload_n 1 dX5_takes_0 rfl rfl ?_
  refine xw_bipush 3 (nI 47) dX5_takes_1 rfl (by decide) ?_
  refine xw_icmp_ne 63 6 dX5_takes_3 rfl rfl (fun h3 => absurd (rfl) h3) (fun h3 => ?_)
  refine xw_iload_n 7 dX5_takes_6 rfl rfl ?_
  refine xw_if_eq 21 10 dX5_takes_7 rfl rfl (fun h7 => absurd h7 (by decide)) (fun h7 => ?_)
  refine xw_aload_n 11 dX5_takes_10 rfl rfl rfl ?_
  refine xw_pV 14 dX5_takes_11 rfl ok_M_isWhole s_X5_88 (hw) (mH_len) (xA hA rfl) rfl rfl rfl rfl rfl rfl rfl ?_
  refine xw_if_eq 21 17 dX5_takes_14 rfl rfl (fun h14 => absurd h14 (by decide)) (fun h14 => ?_)
  refine xw_iconst 18 (nI 1) dX5_takes_17 rfl (xofI 1) ?_
  refine xw_goto 22 dX5_takes_18 rfl ?_
  refine xw_istore_n (ls' := [(3, _), (0, _), (1, _), (2, _)]) 23 dX5_takes_22 rfl rfl rfl ?_
  refine xw_aload_n 24 dX5_takes_23 rfl rfl rfl ?_
  refine xw_dup 25 dX5_takes_24 rfl rfl ?_
  refine xw_get 28 dX5_takes_25 rfl f_X5_152 (xA hA rfl) rfl ?_
  refine xw_iload_n 29 dX5_takes_28 rfl rfl ?_
  refine xw_if_eq 36 32 dX5_takes_29 rfl rfl (fun h29 => absurd h29 (by decide)) (fun h29 => ?_)
  refine xw_iconst 33 (nI 1) dX5_takes_32 rfl (xofI 1) ?_
  refine xw_goto 37 dX5_takes_33 rfl ?_
  refine xw_iadd 38 dX5_takes_37 rfl ?_
  rw [nI_add]
  refine xw_put (hp' := (mH A z (nI s) hi (nI ln) tx th ot oR oC wa pR pC pM (nI np) (nI (r + 1)) (nI (xb01 true)) (nI 0) fe kc hs T)) 41 dX5_takes_38 rfl f_X5_152 (xA hA rfl) ⟨rfl, rfl⟩ rfl rfl (xAs hA rfl) ?_
  refine xw_aload_n 42 dX5_takes_41 rfl rfl rfl ?_
  refine xw_aload_n 43 dX5_takes_42 rfl rfl rfl ?_
  refine xw_get 46 dX5_takes_43 rfl f_X5_155 (xA hA rfl) rfl ?_
  refine xw_if_eq 57 49 dX5_takes_46 rfl rfl (fun h46 => absurd h46 (by decide)) (fun h46 => ?_)
  refine xw_iload_n 50 dX5_takes_49 rfl rfl ?_
  refine xw_if_ne 57 53 dX5_takes_50 rfl rfl (fun h50 => ?_) (fun h50 => absurd h50 (by decide))
  refine xw_iconst 58 (nI 0) dX5_takes_57 rfl (xofI 0) ?_
  refine xw_put (hp' := (mH A z (nI s) hi (nI ln) tx th ot oR oC wa pR pC pM (nI np) (nI (r + 1)) (nI (xb01 false)) (nI 0) fe kc hs T)) 61 dX5_takes_58 rfl f_X5_155 (xA hA rfl) ⟨rfl, rfl⟩ rfl rfl (xAs hA rfl) ?_
  refine xw_iload_n 62 dX5_takes_61 rfl rfl ?_
  exact xw_zreturn dX5_takes_62 rfl (Or.inr rfl) (⟨rfl, rfl⟩)
theorem S_M_takes_noslash {ch b : Bool} {n np r : Nat} (hA : A.length = 71) (hn : n ≤ 60) (h : ¬ (ch = true ∧ b = true ∧ n = 0)) : xMet G M_takes [.ref 71, .int (nI 47), .int (nI (xb01 ch))] (mH A z (nI s) hi (nI ln) tx th ot oR oC wa pR pC pM (nI np) (nI r) (nI (xb01 b)) (nI n) fe kc hs T) x 0 0 (xRetV (.int (nI 0)) (mH A z (nI s) hi (nI ln) tx th ot oR oC wa pR pC pM (nI np) (nI r) (nI (xb01 b)) (nI n) fe kc hs T)) := by
  have tail : xW G M_takes (xRetV (.int (nI 0)) (mH A z (nI s) hi (nI ln) tx th ot oR oC wa pR pC pM (nI np) (nI r) (nI (xb01 b)) (nI n) fe kc hs T)) 21 [(0, .ref 71), (1, .int (nI 47)), (2, .int (nI (xb01 ch)))] [] (mH A z (nI s) hi (nI ln) tx th ot oR oC wa pR pC pM (nI np) (nI r) (nI (xb01 b)) (nI n) fe kc hs T) x 0 0 := by
    cases b
    · skip
      refine xw_iconst 22 (nI 0) dX5_takes_21 rfl (xofI 0) ?_
      refine xw_istore_n (ls' := [(3, _), (0, _), (1, _), (2, _)]) 23 dX5_takes_22 rfl rfl rfl ?_
      refine xw_aload_n 24 dX5_takes_23 rfl rfl rfl ?_
      refine xw_dup 25 dX5_takes_24 rfl rfl ?_
      refine xw_get 28 dX5_takes_25 rfl f_X5_152 (xA hA rfl) rfl ?_
      refine xw_iload_n 29 dX5_takes_28 rfl rfl ?_
      refine xw_if_eq 36 32 dX5_takes_29 rfl rfl (fun h29 => ?_) (fun h29 => absurd (rfl) h29)
      refine xw_iconst 37 (nI 0) dX5_takes_36 rfl (xofI 0) ?_
      refine xw_iadd 38 dX5_takes_37 rfl ?_
      rw [nI_add, Nat.add_zero]
      refine xw_put (hp' := (mH A z (nI s) hi (nI ln) tx th ot oR oC wa pR pC pM (nI np) (nI r) (nI (xb01 false)) (nI n) fe kc hs T)) 41 dX5_takes_38 rfl f_X5_152 (xA hA rfl) ⟨rfl, rfl⟩ rfl rfl (xAs hA rfl) ?_
      refine xw_aload_n 42 dX5_takes_41 rfl rfl rfl ?_
      refine xw_aload_n 43 dX5_takes_42 rfl rfl rfl ?_
      refine xw_get 46 dX5_takes_43 rfl f_X5_155 (xA hA rfl) rfl ?_
      refine xw_if_eq 57 49 dX5_takes_46 rfl rfl (fun h46 => ?_) (fun h46 => absurd (rfl) h46)
      refine xw_iconst 58 (nI 0) dX5_takes_57 rfl (xofI 0) ?_
      refine xw_put (hp' := (mH A z (nI s) hi (nI ln) tx th ot oR oC wa pR pC pM (nI np) (nI r) (nI (xb01 false)) (nI n) fe kc hs T)) 61 dX5_takes_58 rfl f_X5_155 (xA hA rfl) ⟨rfl, rfl⟩ rfl rfl (xAs hA rfl) ?_
      refine xw_iload_n 62 dX5_takes_61 rfl rfl ?_
      exact xw_zreturn dX5_takes_62 rfl (Or.inl rfl) (⟨rfl, rfl⟩)
    · skip
      refine xw_iconst 22 (nI 0) dX5_takes_21 rfl (xofI 0) ?_
      refine xw_istore_n (ls' := [(3, _), (0, _), (1, _), (2, _)]) 23 dX5_takes_22 rfl rfl rfl ?_
      refine xw_aload_n 24 dX5_takes_23 rfl rfl rfl ?_
      refine xw_dup 25 dX5_takes_24 rfl rfl ?_
      refine xw_get 28 dX5_takes_25 rfl f_X5_152 (xA hA rfl) rfl ?_
      refine xw_iload_n 29 dX5_takes_28 rfl rfl ?_
      refine xw_if_eq 36 32 dX5_takes_29 rfl rfl (fun h29 => ?_) (fun h29 => absurd (rfl) h29)
      refine xw_iconst 37 (nI 0) dX5_takes_36 rfl (xofI 0) ?_
      refine xw_iadd 38 dX5_takes_37 rfl ?_
      rw [nI_add, Nat.add_zero]
      refine xw_put (hp' := (mH A z (nI s) hi (nI ln) tx th ot oR oC wa pR pC pM (nI np) (nI r) (nI (xb01 true)) (nI n) fe kc hs T)) 41 dX5_takes_38 rfl f_X5_152 (xA hA rfl) ⟨rfl, rfl⟩ rfl rfl (xAs hA rfl) ?_
      refine xw_aload_n 42 dX5_takes_41 rfl rfl rfl ?_
      refine xw_aload_n 43 dX5_takes_42 rfl rfl rfl ?_
      refine xw_get 46 dX5_takes_43 rfl f_X5_155 (xA hA rfl) rfl ?_
      refine xw_if_eq 57 49 dX5_takes_46 rfl rfl (fun h46 => absurd h46 (by decide)) (fun h46 => ?_)
      refine xw_iload_n 50 dX5_takes_49 rfl rfl ?_
      refine xw_if_ne 57 53 dX5_takes_50 rfl rfl (fun h50 => absurd (rfl) h50) (fun h50 => ?_)
      refine xw_iconst 54 (nI 1) dX5_takes_53 rfl (xofI 1) ?_
      refine xw_goto 58 dX5_takes_54 rfl ?_
      refine xw_put (hp' := (mH A z (nI s) hi (nI ln) tx th ot oR oC wa pR pC pM (nI np) (nI r) (nI (xb01 true)) (nI n) fe kc hs T)) 61 dX5_takes_58 rfl f_X5_155 (xA hA rfl) ⟨rfl, rfl⟩ rfl rfl (xAs hA rfl) ?_
      refine xw_iload_n 62 dX5_takes_61 rfl rfl ?_
      exact xw_zreturn dX5_takes_62 rfl (Or.inl rfl) (⟨rfl, rfl⟩)
  have hw := S_M_isWhole (G := G) (x := x) (A := A) (T := T) (z := z) (hi := hi) (s := s) (ln := ln) (tx := tx) (th := th) (ot := ot) (oR := oR) (oC := oC) (wa := wa) (pR := pR) (pC := pC) (pM := pM) (ps := nI np) (rr := nI r) (fe := fe) (kc := kc) (hs := hs) (b := b) (n := n) hA hn
  cases ch
  · skip
    refine xw_iload_n 1 dX5_takes_0 rfl rfl ?_
    refine xw_bipush 3 (nI 47) dX5_takes_1 rfl (by decide) ?_
    refine xw_icmp_ne 63 6 dX5_takes_3 rfl rfl (fun h3 => absurd (rfl) h3) (fun h3 => ?_)
    refine xw_iload_n 7 dX5_takes_6 rfl rfl ?_
    refine xw_if_eq 21 10 dX5_takes_7 rfl rfl (fun h7 => ?_) (fun h7 => absurd (rfl) h7)
    exact xW.pick [0, 1, 2] rfl (tail)
  · have e : decide (b = true ∧ n = 0) = false := decide_eq_false (fun q => h ⟨rfl, q⟩)
    rw [e] at hw
    refine xw_iload_n 1 dX5_takes_0 rfl rfl ?_
    refine xw_bipush 3 (nI 47) dX5_takes_1 rfl (by decide) ?_
    refine xw_icmp_ne 63 6 dX5_takes_3 rfl rfl (fun h3 => absurd (rfl) h3) (fun h3 => ?_)
    refine xw_iload_n 7 dX5_takes_6 rfl rfl ?_
    refine xw_if_eq 21 10 dX5_takes_7 rfl rfl (fun h7 => absurd h7 (by decide)) (fun h7 => ?_)
    refine xw_aload_n 11 dX5_takes_10 rfl rfl rfl ?_
    refine xw_pV 14 dX5_takes_11 rfl ok_M_isWhole s_X5_88 (hw) (mH_len) (xA hA rfl) rfl rfl rfl rfl rfl rfl rfl ?_
    refine xw_if_eq 21 17 dX5_takes_14 rfl rfl (fun h14 => ?_) (fun h14 => absurd (rfl) h14)
    exact xW.pick [0, 1, 2] rfl (tail)
theorem S_M_takes_digit {ch b : Bool} {c n np r : Nat} (hA : A.length = 71) (h1 : 48 ≤ c) (h2 : c ≤ 57) (hv1 : 1 ≤ 10 * n + (c - 48)) (hv2 : 10 * n + (c - 48) ≤ 60) : xMet G M_takes [.ref 71, .int (nI c), .int (nI (xb01 ch))] (mH A z (nI s) hi (nI ln) tx th ot oR oC wa pR pC pM (nI np) (nI r) (nI (xb01 b)) (nI n) fe kc hs T) x 0 0 (xRetV (.int (nI 1)) (mH A z (nI s) hi (nI ln) tx th ot oR oC wa pR pC pM (nI np) (nI r) (nI (xb01 b)) (nI (10 * n + (c - 48))) fe kc hs T)) := by
  have w0 : nI (if xbt (nI c) (nI 48) (nI 57) then 1 else 0) = nI 1 := bIf ⟨nI_nlt h1 (by omega), nI_nlt h2 (by omega)⟩
  refine xw_iload_n 1 dX5_takes_0 rfl rfl ?_
  refine xw_bipush 3 (nI 47) dX5_takes_1 rfl (by decide) ?_
  refine xw_icmp_ne 63 6 dX5_takes_3 rfl rfl (fun h3 => ?_) (fun h3 => absurd h3 (fun q => by rw [nI_eq (by omega) (by decide)] at q; omega))
  refine xw_iload_n 64 dX5_takes_63 rfl rfl ?_
  refine xw_bipush 66 (nI 48) dX5_takes_64 rfl (by decide) ?_
  refine xw_bipush 68 (nI 57) dX5_takes_66 rfl (by decide) ?_
  refine xw_pS 71 dX5_takes_68 rfl ok_M_within s_X5_47 (S_M_within) (mH_len) rfl rfl rfl rfl rfl rfl ?_
  rw [w0]
  refine xw_if_eq 85 74 dX5_takes_71 rfl rfl (fun h71 => absurd h71 (by decide)) (fun h71 => ?_)
  refine xw_aload_n 75 dX5_takes_74 rfl rfl rfl ?_
  refine xw_iload_n 76 dX5_takes_75 rfl rfl ?_
  refine xw_bipush 78 (nI 48) dX5_takes_76 rfl (by decide) ?_
  refine xw_isub 79 dX5_takes_78 rfl ?_
  rw [pk_sub h1]
  refine xw_pV 82 dX5_takes_79 rfl ok_M_takesDigit s_X5_159 (S_M_takesDigit_y hA hv1 hv2) (mH_len) (xA hA rfl) rfl rfl rfl rfl rfl rfl rfl ?_
  refine xw_goto 93 dX5_takes_82 rfl ?_
  exact xw_zreturn dX5_takes_93 rfl (Or.inr rfl) (⟨rfl, rfl⟩)
theorem S_M_takes_nodigit {ch b : Bool} {c n np r : Nat} (hA : A.length = 71) (hn : n ≤ 60) (h1 : 48 ≤ c) (h2 : c ≤ 57) (hv : ¬ (1 ≤ 10 * n + (c - 48) ∧ 10 * n + (c - 48) ≤ 60)) : xMet G M_takes [.ref 71, .int (nI c), .int (nI (xb01 ch))] (mH A z (nI s) hi (nI ln) tx th ot oR oC wa pR pC pM (nI np) (nI r) (nI (xb01 b)) (nI n) fe kc hs T) x 0 0 (xRetV (.int (nI 0)) (mH A z (nI s) hi (nI ln) tx th ot oR oC wa pR pC pM (nI np) (nI r) (nI (xb01 b)) (nI n) fe kc hs T)) := by
  have w0 : nI (if xbt (nI c) (nI 48) (nI 57) then 1 else 0) = nI 1 := bIf ⟨nI_nlt h1 (by omega), nI_nlt h2 (by omega)⟩
  refine xw_iload_n 1 dX5_takes_0 rfl rfl ?_
  refine xw_bipush 3 (nI 47) dX5_takes_1 rfl (by decide) ?_
  refine xw_icmp_ne 63 6 dX5_takes_3 rfl rfl (fun h3 => ?_) (fun h3 => absurd h3 (fun q => by rw [nI_eq (by omega) (by decide)] at q; omega))
  refine xw_iload_n 64 dX5_takes_63 rfl rfl ?_
  refine xw_bipush 66 (nI 48) dX5_takes_64 rfl (by decide) ?_
  refine xw_bipush 68 (nI 57) dX5_takes_66 rfl (by decide) ?_
  refine xw_pS 71 dX5_takes_68 rfl ok_M_within s_X5_47 (S_M_within) (mH_len) rfl rfl rfl rfl rfl rfl ?_
  rw [w0]
  refine xw_if_eq 85 74 dX5_takes_71 rfl rfl (fun h71 => absurd h71 (by decide)) (fun h71 => ?_)
  refine xw_aload_n 75 dX5_takes_74 rfl rfl rfl ?_
  refine xw_iload_n 76 dX5_takes_75 rfl rfl ?_
  refine xw_bipush 78 (nI 48) dX5_takes_76 rfl (by decide) ?_
  refine xw_isub 79 dX5_takes_78 rfl ?_
  rw [pk_sub h1]
  refine xw_pV 82 dX5_takes_79 rfl ok_M_takesDigit s_X5_159 (S_M_takesDigit_n hA hn (by omega) hv) (mH_len) (xA hA rfl) rfl rfl rfl rfl rfl rfl rfl ?_
  refine xw_goto 93 dX5_takes_82 rfl ?_
  exact xw_zreturn dX5_takes_93 rfl (Or.inl rfl) (⟨rfl, rfl⟩)
theorem S_M_takes_letter {ch b : Bool} {c n np r : Nat} (hA : A.length = 71) (hn : n ≤ 60) (hn1 : n ≠ 1) (hp6 : np < 60) (h1 : 97 ≤ c) (h2 : c ≤ 102) : xMet G M_takes [.ref 71, .int (nI c), .int (nI (xb01 ch))] (mH A z (nI s) hi (nI ln) tx th ot oR oC wa pR pC pM (nI np) (nI r) (nI (xb01 b)) (nI n) fe kc hs T) x 0 0 (xRetV (.int (nI 1)) (mH A z (nI s) hi (nI ln) tx th ot oR oC wa (upd pR np (nI r)) (upd pC np (nI (c - 97))) (upd pM np (nI (max 1 n))) (nI (np + 1)) (nI r) (nI 1) (nI 0) fe kc hs T)) := by
  have hd : ¬ (48 ≤ c ∧ c ≤ 57) := by omega
  have w0 : nI (if xbt (nI c) (nI 48) (nI 57) then 1 else 0) = nI 0 := bIfn (fun q => hd (by
    have q1 := q.1
    have q2 := q.2
    rw [nI_ltI (by omega) (by omega)] at q1 q2
    omega))
  refine xw_iload_n 1 dX5_takes_0 rfl rfl ?_
  refine xw_bipush 3 (nI 47) dX5_takes_1 rfl (by decide) ?_
  refine xw_icmp_ne 63 6 dX5_takes_3 rfl rfl (fun h3 => ?_) (fun h3 => absurd h3 (fun q => by rw [nI_eq (by omega) (by decide)] at q; omega))
  refine xw_iload_n 64 dX5_takes_63 rfl rfl ?_
  refine xw_bipush 66 (nI 48) dX5_takes_64 rfl (by decide) ?_
  refine xw_bipush 68 (nI 57) dX5_takes_66 rfl (by decide) ?_
  refine xw_pS 71 dX5_takes_68 rfl ok_M_within s_X5_47 (S_M_within) (mH_len) rfl rfl rfl rfl rfl rfl ?_
  rw [w0]
  refine xw_if_eq 85 74 dX5_takes_71 rfl rfl (fun h71 => ?_) (fun h71 => absurd (rfl) h71)
  refine xw_aload_n 86 dX5_takes_85 rfl rfl rfl ?_
  refine xw_iload_n 87 dX5_takes_86 rfl rfl ?_
  refine xw_bipush 89 (nI 97) dX5_takes_87 rfl (by decide) ?_
  refine xw_isub 90 dX5_takes_89 rfl ?_
  rw [pk_sub h1]
  refine xw_pV 93 dX5_takes_90 rfl ok_M_takesColour s_X5_162 (S_M_takesColour_y hA (by omega) hn hn1 hp6) (mH_len) (xA hA rfl) rfl rfl rfl rfl rfl rfl rfl ?_
  exact xw_zreturn dX5_takes_93 rfl (Or.inr rfl) (⟨rfl, rfl⟩)
theorem S_M_takes_noletter {ch b : Bool} {c n np r : Nat} (hA : A.length = 71) (hn : n ≤ 60) (hc1 : 33 ≤ c) (hc2 : c ≤ 126) (h47 : c ≠ 47) (hd : ¬ (48 ≤ c ∧ c ≤ 57)) (h : ¬ (97 ≤ c ∧ c ≤ 102 ∧ n ≠ 1)) : xMet G M_takes [.ref 71, .int (nI c), .int (nI (xb01 ch))] (mH A z (nI s) hi (nI ln) tx th ot oR oC wa pR pC pM (nI np) (nI r) (nI (xb01 b)) (nI n) fe kc hs T) x 0 0 (xRetV (.int (nI 0)) (mH A z (nI s) hi (nI ln) tx th ot oR oC wa pR pC pM (nI np) (nI r) (nI (xb01 b)) (nI n) fe kc hs T)) := by
  have w0 : nI (if xbt (nI c) (nI 48) (nI 57) then 1 else 0) = nI 0 := bIfn (fun q => hd (by
    have q1 := q.1
    have q2 := q.2
    rw [nI_ltI (by omega) (by omega)] at q1 q2
    omega))
  have hx : ¬ xlt (nI c - nI 97) 6 ∨ n = 1 := by
    by_cases q : n = 1
    · exact Or.inr q
    · refine Or.inl (fun e => ?_)
      by_cases h97 : 97 ≤ c
      · rw [pk_sub h97, xlt_iff (by omega) (by omega)] at e
        omega
      · refine e.1 ?_
        have e2 : (nI c - nI 97).toInt = (c : Int) - 97 := by
          rw [Int32.toInt_sub, nI_toInt (by omega), nI_toInt (by omega)]
          simp only [Int.bmod]
          split <;> omega
        have e3 : (0 : Int32).toInt = 0 := by decide
        exact Int32.lt_iff_toInt_lt.mpr (by rw [e2, e3]; omega)
  refine xw_iload_n 1 dX5_takes_0 rfl rfl ?_
  refine xw_bipush 3 (nI 47) dX5_takes_1 rfl (by decide) ?_
  refine xw_icmp_ne 63 6 dX5_takes_3 rfl rfl (fun h3 => ?_) (fun h3 => absurd h3 (fun q => by rw [nI_eq (by omega) (by decide)] at q; omega))
  refine xw_iload_n 64 dX5_takes_63 rfl rfl ?_
  refine xw_bipush 66 (nI 48) dX5_takes_64 rfl (by decide) ?_
  refine xw_bipush 68 (nI 57) dX5_takes_66 rfl (by decide) ?_
  refine xw_pS 71 dX5_takes_68 rfl ok_M_within s_X5_47 (S_M_within) (mH_len) rfl rfl rfl rfl rfl rfl ?_
  rw [w0]
  refine xw_if_eq 85 74 dX5_takes_71 rfl rfl (fun h71 => ?_) (fun h71 => absurd (rfl) h71)
  refine xw_aload_n 86 dX5_takes_85 rfl rfl rfl ?_
  refine xw_iload_n 87 dX5_takes_86 rfl rfl ?_
  refine xw_bipush 89 (nI 97) dX5_takes_87 rfl (by decide) ?_
  refine xw_isub 90 dX5_takes_89 rfl ?_
  refine xw_pV 93 dX5_takes_90 rfl ok_M_takesColour s_X5_162 (S_M_takesColour_n hA hn hx) (mH_len) (xA hA rfl) rfl rfl rfl rfl rfl rfl rfl ?_
  exact xw_zreturn dX5_takes_93 rfl (Or.inl rfl) (⟨rfl, rfl⟩)
theorem S_M_rightUpTo {ch : Bool} (hA : A.length = 71) (X : xTxt tx ln) : xMet G M_rightUpTo [.ref 71, .int (nI (xb01 ch))] (mH A z (nI s) hi (nI ln) tx th ot oR oC wa pR pC pM ps rr ha nu fe kc hs T) x 0 0 (xRetV (.int (nI (zei ch tx 0 ln))) (mH A z (nI s) hi (nI ln) tx th ot oR oC wa (zpA tx pR (zvR tx) (zei ch tx 0 ln)) (zpA tx pC (zvC tx) (zei ch tx 0 ln)) (zpA tx pM (zvM tx) (zei ch tx 0 ln)) (nI (zpn tx (zei ch tx 0 ln))) (nI (zsr tx (zei ch tx 0 ln))) (nI (xb01 (zpb ch tx (zei ch tx 0 ln)).1)) (nI (zpb ch tx (zei ch tx 0 ln)).2) fe kc hs T)) := by
  have hln := X.1
  have loop : ∀ (t i : Nat) (b : Bool) (n : Nat), i + t = ln → zps ch tx i = some (b, n) → xW G M_rightUpTo (xRetV (.int (nI (zei ch tx i t))) (mH A z (nI s) hi (nI ln) tx th ot oR oC wa (zpA tx pR (zvR tx) (zei ch tx i t)) (zpA tx pC (zvC tx) (zei ch tx i t)) (zpA tx pM (zvM tx) (zei ch tx i t)) (nI (zpn tx (zei ch tx i t))) (nI (zsr tx (zei ch tx i t))) (nI (xb01 (zpb ch tx (zei ch tx i t)).1)) (nI (zpb ch tx (zei ch tx i t)).2) fe kc hs T)) 22 [(2, .int (nI i)), (0, .ref 71), (1, .int (nI (xb01 ch)))] [] (mH A z (nI s) hi (nI ln) tx th ot oR oC wa (zpA tx pR (zvR tx) i) (zpA tx pC (zvC tx) i) (zpA tx pM (zvM tx) i) (nI (zpn tx i)) (nI (zsr tx i)) (nI (xb01 b)) (nI n) fe kc hs T) x 0 0 := by
    intro t
    induction t with
    | zero =>
      intro i b n hi9 hz
      have ez : zei ch tx i 0 = i := rfl
      rw [ez, zpb_is hz]
      refine xw_iload_n 23 dX5_rightUpTo_22 rfl rfl ?_
      refine xw_aload_n 24 dX5_rightUpTo_23 rfl rfl rfl ?_
      refine xw_get 27 dX5_rightUpTo_24 rfl f_X5_85 (xA hA rfl) rfl ?_
      refine xw_icmp_ge 50 30 dX5_rightUpTo_27 rfl rfl (fun h27 => ?_) (fun h27 => absurd (nI_le (by omega) (by omega)) h27)
      refine xw_iload_n 51 dX5_rightUpTo_50 rfl rfl ?_
      exact xw_ireturn dX5_rightUpTo_51 rfl (⟨rfl, rfl⟩)
    | succ t ih =>
      intro i b n hi9 hz
      have hX := X.2 i (by omega)
      have hX1 : tx i = nI (zI tx i) := hX.1
      have hX2 := hX.2.1
      have hX3 := hX.2.2
      have hn := zps_le hz
      dsimp only at hn
      have hnm := znm_ps hz
      dsimp only at hnm
      have hs := zps_s hz
      have hpn := zpn_le tx i
      have ez : ∀ s', zps ch tx (i + 1) = some s' → zei ch tx i (t + 1) = zei ch tx (i + 1) t := fun s' h => by
        conv => lhs; unfold zei
        rw [h]
      have en : zps ch tx (i + 1) = none → zei ch tx i (t + 1) = i := fun h => by
        unfold zei
        rw [h]
      by_cases h47 : zI tx i = 47
      · have hl : ¬ zlet tx i := fun q => q.1 h47
        by_cases hok : ch = true ∧ b = true ∧ n = 0
        · obtain ⟨rfl, rfl, rfl⟩ := hok
          have e1 : zps true tx (i + 1) = some (false, 0) := by
            rw [hs, h47]
            rfl
          have ih := ih (i + 1) false 0 (by omega) e1
          rw [ez _ e1]
          rw [zpn_n hl, zsr_y h47, zpA_n hl, zpA_n hl, zpA_n hl] at ih
          rw [h47] at hX1
          refine xw_iload_n 23 dX5_rightUpTo_22 rfl rfl ?_
          refine xw_aload_n 24 dX5_rightUpTo_23 rfl rfl rfl ?_
          refine xw_get 27 dX5_rightUpTo_24 rfl f_X5_85 (xA hA rfl) rfl ?_
          refine xw_icmp_ge 50 30 dX5_rightUpTo_27 rfl rfl (fun h27 => absurd h27 (nI_ge (by omega) (by omega))) (fun h27 => ?_)
          refine xw_aload_n 31 dX5_rightUpTo_30 rfl rfl rfl ?_
          refine xw_aload_n 32 dX5_rightUpTo_31 rfl rfl rfl ?_
          refine xw_get 35 dX5_rightUpTo_32 rfl f_X5_16 (xA hA rfl) rfl ?_
          refine xw_iload_n 36 dX5_rightUpTo_35 rfl rfl ?_
          refine xw_ialv (j := _) 37 dX5_rightUpTo_36 rfl (xA hA rfl) (rfl) (by omega) (by omega) (hX1) ?_
          refine xw_iload_n 38 dX5_rightUpTo_37 rfl rfl ?_
          refine xw_pV 41 dX5_rightUpTo_38 rfl ok_M_takes s_X5_165 (S_M_takes_slash hA rfl rfl) (mH_len) (xA hA rfl) rfl rfl rfl rfl rfl rfl rfl ?_
          refine xw_if_eq 50 44 dX5_rightUpTo_41 rfl rfl (fun h41 => absurd h41 (by decide)) (fun h41 => ?_)
          refine xw_iinc (ls' := [(2, _), (0, _), (1, _)]) 47 _ dX5_rightUpTo_44 rfl rfl (xnI_inc _) rfl rfl ?_
          refine xw_goto 22 dX5_rightUpTo_47 rfl ?_
          exact xW.pick [0, 1, 2] rfl (ih)
        · have e1 : zps ch tx (i + 1) = none := by
            rw [hs]
            unfold zst
            rw [if_pos h47, if_neg hok]
          rw [en e1, zpb_is hz]
          rw [h47] at hX1
          refine xw_iload_n 23 dX5_rightUpTo_22 rfl rfl ?_
          refine xw_aload_n 24 dX5_rightUpTo_23 rfl rfl rfl ?_
          refine xw_get 27 dX5_rightUpTo_24 rfl f_X5_85 (xA hA rfl) rfl ?_
          refine xw_icmp_ge 50 30 dX5_rightUpTo_27 rfl rfl (fun h27 => absurd h27 (nI_ge (by omega) (by omega))) (fun h27 => ?_)
          refine xw_aload_n 31 dX5_rightUpTo_30 rfl rfl rfl ?_
          refine xw_aload_n 32 dX5_rightUpTo_31 rfl rfl rfl ?_
          refine xw_get 35 dX5_rightUpTo_32 rfl f_X5_16 (xA hA rfl) rfl ?_
          refine xw_iload_n 36 dX5_rightUpTo_35 rfl rfl ?_
          refine xw_ialv (j := _) 37 dX5_rightUpTo_36 rfl (xA hA rfl) (rfl) (by omega) (by omega) (hX1) ?_
          refine xw_iload_n 38 dX5_rightUpTo_37 rfl rfl ?_
          refine xw_pV 41 dX5_rightUpTo_38 rfl ok_M_takes s_X5_165 (S_M_takes_noslash hA hn hok) (mH_len) (xA hA rfl) rfl rfl rfl rfl rfl rfl rfl ?_
          refine xw_if_eq 50 44 dX5_rightUpTo_41 rfl rfl (fun h41 => ?_) (fun h41 => absurd (rfl) h41)
          refine xw_iload_n 51 dX5_rightUpTo_50 rfl rfl ?_
          exact xw_ireturn dX5_rightUpTo_51 rfl (⟨rfl, rfl⟩)
      · by_cases hd : 48 ≤ zI tx i ∧ zI tx i ≤ 57
        · have hl : ¬ zlet tx i := fun q => by
            have q2 := of_decide_eq_false q.2
            exact q2 hd
          by_cases hv : 1 ≤ 10 * n + (zI tx i - 48) ∧ 10 * n + (zI tx i - 48) ≤ 60
          · have e1 : zps ch tx (i + 1) = some (b, 10 * n + (zI tx i - 48)) := by
              rw [hs]
              unfold zst
              rw [if_neg h47, if_pos hd, if_pos hv]
            have ih := ih (i + 1) b (10 * n + (zI tx i - 48)) (by omega) e1
            rw [ez _ e1]
            rw [zpn_n hl, zsr_n h47, zpA_n hl, zpA_n hl, zpA_n hl] at ih
            refine xw_iload_n 23 dX5_rightUpTo_22 rfl rfl ?_
            refine xw_aload_n 24 dX5_rightUpTo_23 rfl rfl rfl ?_
            refine xw_get 27 dX5_rightUpTo_24 rfl f_X5_85 (xA hA rfl) rfl ?_
            refine xw_icmp_ge 50 30 dX5_rightUpTo_27 rfl rfl (fun h27 => absurd h27 (nI_ge (by omega) (by omega))) (fun h27 => ?_)
            refine xw_aload_n 31 dX5_rightUpTo_30 rfl rfl rfl ?_
            refine xw_aload_n 32 dX5_rightUpTo_31 rfl rfl rfl ?_
            refine xw_get 35 dX5_rightUpTo_32 rfl f_X5_16 (xA hA rfl) rfl ?_
            refine xw_iload_n 36 dX5_rightUpTo_35 rfl rfl ?_
            refine xw_ialv (j := _) 37 dX5_rightUpTo_36 rfl (xA hA rfl) (rfl) (by omega) (by omega) (hX1) ?_
            refine xw_iload_n 38 dX5_rightUpTo_37 rfl rfl ?_
            refine xw_pV 41 dX5_rightUpTo_38 rfl ok_M_takes s_X5_165 (S_M_takes_digit hA hd.1 hd.2 hv.1 hv.2) (mH_len) (xA hA rfl) rfl rfl rfl rfl rfl rfl rfl ?_
            refine xw_if_eq 50 44 dX5_rightUpTo_41 rfl rfl (fun h41 => absurd h41 (by decide)) (fun h41 => ?_)
            refine xw_iinc (ls' := [(2, _), (0, _), (1, _)]) 47 _ dX5_rightUpTo_44 rfl rfl (xnI_inc _) rfl rfl ?_
            refine xw_goto 22 dX5_rightUpTo_47 rfl ?_
            exact xW.pick [0, 1, 2] rfl (ih)
          · have e1 : zps ch tx (i + 1) = none := by
              rw [hs]
              unfold zst
              rw [if_neg h47, if_pos hd, if_neg hv]
            rw [en e1, zpb_is hz]
            refine xw_iload_n 23 dX5_rightUpTo_22 rfl rfl ?_
            refine xw_aload_n 24 dX5_rightUpTo_23 rfl rfl rfl ?_
            refine xw_get 27 dX5_rightUpTo_24 rfl f_X5_85 (xA hA rfl) rfl ?_
            refine xw_icmp_ge 50 30 dX5_rightUpTo_27 rfl rfl (fun h27 => absurd h27 (nI_ge (by omega) (by omega))) (fun h27 => ?_)
            refine xw_aload_n 31 dX5_rightUpTo_30 rfl rfl rfl ?_
            refine xw_aload_n 32 dX5_rightUpTo_31 rfl rfl rfl ?_
            refine xw_get 35 dX5_rightUpTo_32 rfl f_X5_16 (xA hA rfl) rfl ?_
            refine xw_iload_n 36 dX5_rightUpTo_35 rfl rfl ?_
            refine xw_ialv (j := _) 37 dX5_rightUpTo_36 rfl (xA hA rfl) (rfl) (by omega) (by omega) (hX1) ?_
            refine xw_iload_n 38 dX5_rightUpTo_37 rfl rfl ?_
            refine xw_pV 41 dX5_rightUpTo_38 rfl ok_M_takes s_X5_165 (S_M_takes_nodigit hA hn hd.1 hd.2 hv) (mH_len) (xA hA rfl) rfl rfl rfl rfl rfl rfl rfl ?_
            refine xw_if_eq 50 44 dX5_rightUpTo_41 rfl rfl (fun h41 => ?_) (fun h41 => absurd (rfl) h41)
            refine xw_iload_n 51 dX5_rightUpTo_50 rfl rfl ?_
            exact xw_ireturn dX5_rightUpTo_51 rfl (⟨rfl, rfl⟩)
        · by_cases hv : 97 ≤ zI tx i ∧ zI tx i ≤ 102 ∧ n ≠ 1
          · have hl : zlet tx i := ⟨h47, decide_eq_false hd⟩
            have e1 : zps ch tx (i + 1) = some (true, 0) := by
              rw [hs]
              unfold zst
              rw [if_neg h47, if_neg hd, if_pos hv]
            have ih := ih (i + 1) true 0 (by omega) e1
            rw [ez _ e1]
            rw [zpn_y hl, zsr_n h47, zpA_y hl, zpA_y hl, zpA_y hl] at ih
            unfold zvM at ih
            rw [← hnm] at ih
            refine xw_iload_n 23 dX5_rightUpTo_22 rfl rfl ?_
            refine xw_aload_n 24 dX5_rightUpTo_23 rfl rfl rfl ?_
            refine xw_get 27 dX5_rightUpTo_24 rfl f_X5_85 (xA hA rfl) rfl ?_
            refine xw_icmp_ge 50 30 dX5_rightUpTo_27 rfl rfl (fun h27 => absurd h27 (nI_ge (by omega) (by omega))) (fun h27 => ?_)
            refine xw_aload_n 31 dX5_rightUpTo_30 rfl rfl rfl ?_
            refine xw_aload_n 32 dX5_rightUpTo_31 rfl rfl rfl ?_
            refine xw_get 35 dX5_rightUpTo_32 rfl f_X5_16 (xA hA rfl) rfl ?_
            refine xw_iload_n 36 dX5_rightUpTo_35 rfl rfl ?_
            refine xw_ialv (j := _) 37 dX5_rightUpTo_36 rfl (xA hA rfl) (rfl) (by omega) (by omega) (hX1) ?_
            refine xw_iload_n 38 dX5_rightUpTo_37 rfl rfl ?_
            refine xw_pV 41 dX5_rightUpTo_38 rfl ok_M_takes s_X5_165 (S_M_takes_letter hA hn hv.2.2 (by omega) hv.1 hv.2.1) (mH_len) (xA hA rfl) rfl rfl rfl rfl rfl rfl rfl ?_
            refine xw_if_eq 50 44 dX5_rightUpTo_41 rfl rfl (fun h41 => absurd h41 (by decide)) (fun h41 => ?_)
            refine xw_iinc (ls' := [(2, _), (0, _), (1, _)]) 47 _ dX5_rightUpTo_44 rfl rfl (xnI_inc _) rfl rfl ?_
            refine xw_goto 22 dX5_rightUpTo_47 rfl ?_
            exact xW.pick [0, 1, 2] rfl (ih)
          · have e1 : zps ch tx (i + 1) = none := by
              rw [hs]
              unfold zst
              rw [if_neg h47, if_neg hd, if_neg hv]
            rw [en e1, zpb_is hz]
            refine xw_iload_n 23 dX5_rightUpTo_22 rfl rfl ?_
            refine xw_aload_n 24 dX5_rightUpTo_23 rfl rfl rfl ?_
            refine xw_get 27 dX5_rightUpTo_24 rfl f_X5_85 (xA hA rfl) rfl ?_
            refine xw_icmp_ge 50 30 dX5_rightUpTo_27 rfl rfl (fun h27 => absurd h27 (nI_ge (by omega) (by omega))) (fun h27 => ?_)
            refine xw_aload_n 31 dX5_rightUpTo_30 rfl rfl rfl ?_
            refine xw_aload_n 32 dX5_rightUpTo_31 rfl rfl rfl ?_
            refine xw_get 35 dX5_rightUpTo_32 rfl f_X5_16 (xA hA rfl) rfl ?_
            refine xw_iload_n 36 dX5_rightUpTo_35 rfl rfl ?_
            refine xw_ialv (j := _) 37 dX5_rightUpTo_36 rfl (xA hA rfl) (rfl) (by omega) (by omega) (hX1) ?_
            refine xw_iload_n 38 dX5_rightUpTo_37 rfl rfl ?_
            refine xw_pV 41 dX5_rightUpTo_38 rfl ok_M_takes s_X5_165 (S_M_takes_noletter hA hn hX2 hX3 h47 hd hv) (mH_len) (xA hA rfl) rfl rfl rfl rfl rfl rfl rfl ?_
            refine xw_if_eq 50 44 dX5_rightUpTo_41 rfl rfl (fun h41 => ?_) (fun h41 => absurd (rfl) h41)
            refine xw_iload_n 51 dX5_rightUpTo_50 rfl rfl ?_
            exact xw_ireturn dX5_rightUpTo_51 rfl (⟨rfl, rfl⟩)
  refine xw_aload_n 1 dX5_rightUpTo_0 rfl rfl rfl ?_
  refine xw_iconst 2 (nI 0) dX5_rightUpTo_1 rfl (xofI 0) ?_
  refine xw_put (hp' := (mH A z (nI s) hi (nI ln) tx th ot oR oC wa pR pC pM (nI 0) rr ha nu fe kc hs T)) 5 dX5_rightUpTo_2 rfl f_X5_134 (xA hA rfl) ⟨rfl, rfl⟩ rfl rfl (xAs hA rfl) ?_
  refine xw_aload_n 6 dX5_rightUpTo_5 rfl rfl rfl ?_
  refine xw_iconst 7 (nI 0) dX5_rightUpTo_6 rfl (xofI 0) ?_
  refine xw_put (hp' := (mH A z (nI s) hi (nI ln) tx th ot oR oC wa pR pC pM (nI 0) (nI 0) ha nu fe kc hs T)) 10 dX5_rightUpTo_7 rfl f_X5_152 (xA hA rfl) ⟨rfl, rfl⟩ rfl rfl (xAs hA rfl) ?_
  refine xw_aload_n 11 dX5_rightUpTo_10 rfl rfl rfl ?_
  refine xw_iconst 12 (nI 0) dX5_rightUpTo_11 rfl (xofI 0) ?_
  refine xw_put (hp' := (mH A z (nI s) hi (nI ln) tx th ot oR oC wa pR pC pM (nI 0) (nI 0) (nI 0) nu fe kc hs T)) 15 dX5_rightUpTo_12 rfl f_X5_155 (xA hA rfl) ⟨rfl, rfl⟩ rfl rfl (xAs hA rfl) ?_
  refine xw_aload_n 16 dX5_rightUpTo_15 rfl rfl rfl ?_
  refine xw_iconst 17 (nI 0) dX5_rightUpTo_16 rfl (xofI 0) ?_
  refine xw_put (hp' := (mH A z (nI s) hi (nI ln) tx th ot oR oC wa pR pC pM (nI 0) (nI 0) (nI 0) (nI 0) fe kc hs T)) 20 dX5_rightUpTo_17 rfl f_X5_149 (xA hA rfl) ⟨rfl, rfl⟩ rfl rfl (xAs hA rfl) ?_
  refine xw_iconst 21 (nI 0) dX5_rightUpTo_20 rfl (xofI 0) ?_
  refine xw_istore_n (ls' := [(2, _), (0, _), (1, _)]) 22 dX5_rightUpTo_21 rfl rfl rfl ?_
  exact xW.pick [0, 1, 2] rfl (loop ln 0 false 0 (by omega) rfl)
theorem S_M_firstError {ch : Bool} (hA : A.length = 71) (X : xTxt tx ln) : xMet G M_firstError [.ref 71, .int (nI (xb01 ch))] (mH A z (nI s) hi (nI ln) tx th ot oR oC wa pR pC pM ps rr ha nu fe kc hs T) x 0 0 (xQm A T (0, nI (zei ch tx 0 ln)) (z, hi, s, ln, tx)) := by
  refine xw_aload_n 1 dX5_firstError_0 rfl rfl rfl ?_
  refine xw_iconst 2 (nI 0) dX5_firstError_1 rfl (xofI 0) ?_
  refine xw_put (hp' := (mH A z (nI s) hi (nI ln) tx (nI 0) ot oR oC wa pR pC pM ps rr ha nu fe kc hs T)) 5 dX5_firstError_2 rfl f_X5_40 (xA hA rfl) ⟨rfl, rfl⟩ rfl rfl (xAs hA rfl) ?_
  refine xw_aload_n 6 dX5_firstError_5 rfl rfl rfl ?_
  refine xw_iload_n 7 dX5_firstError_6 rfl rfl ?_
  refine xw_pV 10 dX5_firstError_7 rfl ok_M_rightUpTo s_X5_81 (S_M_rightUpTo hA X) (mH_len) (xA hA rfl) rfl rfl rfl rfl rfl rfl rfl ?_
  exact xw_ireturn dX5_firstError_10 rfl (⟨rfl, (ot, oR, oC, wa, (zpA tx pR (zvR tx) (zei ch tx 0 ln)), (zpA tx pC (zvC tx) (zei ch tx 0 ln)), (zpA tx pM (zvM tx) (zei ch tx 0 ln)), (nI (zpn tx (zei ch tx 0 ln))), (nI (zsr tx (zei ch tx 0 ln))), (nI (xb01 (zpb ch tx (zei ch tx 0 ln)).1)), (nI (zpb ch tx (zei ch tx 0 ln)).2), fe, kc, hs), rfl⟩)
end P49

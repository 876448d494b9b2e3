/-! ===== the model: a row of beads strung ===== -/
theorem zsr_0 {co : Nat → Int32} {n : Nat} (h : zps false co n ≠ none) : ∀ i, i ≤ n → zsr co i = 0
  | 0, _ => rfl
  | i + 1, hi => by
    rw [zsr_n (zps_ns h (by omega))]
    exact zsr_0 h i (by omega)
theorem zocc_add {fc : Nat → Nat} {v c : Nat} {n : Nat} : ∀ {m : Nat}, (∀ k, k < m → fc (n + k) = v) → zocc fc (n + m) c = zocc fc n c + if v = c then m else 0
  | 0, _ => by rw [ite_self]; rfl
  | m + 1, h => by
    have ih := zocc_add (c := c) (m := m) (fun k hk => h k (by omega))
    rw [← Nat.add_assoc, zocc_s, ih, h m (by omega)]
    by_cases e : v = c
    · rw [if_pos e, if_pos e, if_pos e, Nat.add_assoc]
    · rw [if_neg e, if_neg e, if_neg e]
def oRowM (m : xMS) : (Nat × Int32) × xMS := if zwhole false m.2.2.2.2 m.2.2.2.1 = true then oFreM m (zcl m.2.2.2.2 m.2.2.2.1 0) (zwd m.2.2.2.2 m.2.2.2.1 0) 0 else ((1, 0), m)
section P51
variable {G : xG} {x : Nat} {A T : List xE} {z hi tx ot wa pR pC pM fe kc : Nat → Int32} {s ln : Nat} {th oR oC ps rr ha nu : Int32} {hs : Int64}
theorem S_M_stringRow_count {Qx : xO → List xE → Prop} (hA : A.length = 71) (hP : zpt tx ln pR pC pM) (hz : zps false tx ln ≠ none) (hl : ln ≤ 60) (kk : xW G M_stringRow Qx 96 [(2, .int (nI (zwd tx ln 0))), (0, .ref 71)] [] (mH A z (nI s) hi (nI ln) tx (nI 0) ot oR oC (fun c => if c < 6 then nI (zocc (zcl tx ln 0) (zwd tx ln 0) c) else (xmix (fun _ => nI 0) wa 6) c) pR pC pM (nI (zpn tx ln)) rr ha nu fe kc hs T) x 0 0) : xW G M_stringRow Qx 53 [(3, .int (nI 0)), (2, .int (nI 0)), (0, .ref 71)] [] (mH A z (nI s) hi (nI ln) tx (nI 0) ot oR oC (xmix (fun _ => nI 0) wa 6) pR pC pM (nI (zpn tx ln)) rr ha nu fe kc hs T) x 0 0 := by
  have hpl := zpn_le tx ln
  have hs0 := zsr_0 hz
  have hwl := zwd_le hz 0 ln (Nat.le_refl _)
  have hfc6 : ∀ j, (zcl tx ln 0) j < 6 := zcl_lt hz 0 ln (Nat.le_refl _)
  have part : ∀ i, i < ln → zlet tx i → zpn tx i < zpn tx ln ∧ pC (zpn tx i) = nI (zI tx i - 97) ∧ pM (zpn tx i) = nI (max 1 (znm tx i)) ∧ (zI tx i - 97) < 6 ∧ (max 1 (znm tx i)) ≤ 60 ∧ zwd tx (i + 1) 0 = zwd tx i 0 + (max 1 (znm tx i)) ∧ zwd tx (i + 1) 0 ≤ (zwd tx ln 0) ∧ ∀ k, k < (max 1 (znm tx i)) → (zcl tx ln 0) (zwd tx i 0 + k) = (zI tx i - 97) := by
    intro i hi hl1
    obtain ⟨q1, q2, q3⟩ := hP i hi hl1
    have hd : ¬ (48 ≤ zI tx i ∧ zI tx i ≤ 57) := of_decide_eq_false hl1.2
    have hlt := zps_let hz hi hl1.1 hd
    have hy := zwd_y hl1
    rw [hs0 i (by omega)] at hy
    have hmo := zwd_mono tx 0 (i + 1) (ln - (i + 1))
    rw [show i + 1 + (ln - (i + 1)) = ln by omega] at hmo
    refine ⟨zpn_lt hl1 hi, q2, q3, by omega, Nat.max_le.mpr ⟨by omega, znm_le hz (by omega)⟩, hy, hmo, fun k hk => ?_⟩
    have hk2 := zcl_keep (co := tx) (i := i + 1) (r := 0) (c := zwd tx i 0 + k) (by omega) (ln - (i + 1))
    rw [show i + 1 + (ln - (i + 1)) = ln by omega] at hk2
    have hz0 := hs0 i (by omega)
    have e := zcl_y hl1 (c := zwd tx i 0 + k) (by rw [hz0]; omega)
    rw [hz0] at e
    rw [hk2, e]
  have loop : ∀ (t i : Nat), i + t = ln → xW G M_stringRow Qx 53 [(3, .int (nI (zpn tx i))), (2, .int (nI (zwd tx i 0))), (0, .ref 71)] [] (mH A z (nI s) hi (nI ln) tx (nI 0) ot oR oC (fun c => if c < 6 then nI (zocc (zcl tx ln 0) (zwd tx i 0) c) else (xmix (fun _ => nI 0) wa 6) c) pR pC pM (nI (zpn tx ln)) rr ha nu fe kc hs T) x 0 0 := by
    intro t
    induction t with
    | zero =>
      intro i hi9
      have e : i = ln := by omega
      rw [e]
      refine xw_iload_n 54 dX5_stringRow_53 rfl rfl ?_
      refine xw_aload_n 55 dX5_stringRow_54 rfl rfl rfl ?_
      refine xw_get 58 dX5_stringRow_55 rfl f_X5_134 (xA hA rfl) rfl ?_
      refine xw_icmp_ge 96 61 dX5_stringRow_58 rfl rfl (fun h58 => ?_) (fun h58 => absurd (nI_le (Nat.le_refl _) (by omega)) h58)
      exact xW.pick [1, 2] rfl (kk)
    | succ t ih =>
      intro i hi9
      have ih := ih (i + 1) (by omega)
      by_cases hl1 : zlet tx i
      · obtain ⟨hp, q2, q3, c6, m60, wy, wl, hf⟩ := part i (by omega) hl1
        rw [zpn_y hl1, wy] at ih
        have e9 : upd (fun c => if c < 6 then nI (zocc (zcl tx ln 0) (zwd tx i 0) c) else (xmix (fun _ => nI 0) wa 6) c) (zI tx i - 97) (nI (zocc (zcl tx ln 0) (zwd tx i 0) (zI tx i - 97) + (max 1 (znm tx i)))) = (fun c => if c < 6 then nI (zocc (zcl tx ln 0) (zwd tx i 0 + (max 1 (znm tx i))) c) else (xmix (fun _ => nI 0) wa 6) c) := by
          funext c
          by_cases h : c = (zI tx i - 97)
          · subst h
            rw [upd_at, if_pos c6, zocc_add hf, if_pos rfl]
          · rw [upd_ne h, zocc_add hf, if_neg (show ¬ (zI tx i - 97) = c from fun q => h q.symm)]
            rfl
        refine xw_iload_n 54 dX5_stringRow_53 rfl rfl ?_
        refine xw_aload_n 55 dX5_stringRow_54 rfl rfl rfl ?_
        refine xw_get 58 dX5_stringRow_55 rfl f_X5_134 (xA hA rfl) rfl ?_
        refine xw_icmp_ge 96 61 dX5_stringRow_58 rfl rfl (fun h58 => absurd h58 (nI_ge hp (by omega))) (fun h58 => ?_)
        refine xw_aload_n 62 dX5_stringRow_61 rfl rfl rfl ?_
        refine xw_get 65 dX5_stringRow_62 rfl f_X5_22 (xA hA rfl) rfl ?_
        refine xw_aload_n 66 dX5_stringRow_65 rfl rfl rfl ?_
        refine xw_get 69 dX5_stringRow_66 rfl f_X5_28 (xA hA rfl) rfl ?_
        refine xw_iload_n 70 dX5_stringRow_69 rfl rfl ?_
        refine xw_ialv (j := _) 71 dX5_stringRow_70 rfl (xA hA rfl) (rfl) (by omega) (by omega) (q2) ?_
        refine xw_dup2 72 dX5_stringRow_71 rfl rfl rfl ?_
        refine xw_ialv (j := (zI tx i - 97)) 73 dX5_stringRow_72 rfl (xA hA rfl) (rfl) (by omega) (by omega) (if_pos c6) ?_
        refine xw_aload_n 74 dX5_stringRow_73 rfl rfl rfl ?_
        refine xw_get 77 dX5_stringRow_74 rfl f_X5_31 (xA hA rfl) rfl ?_
        refine xw_iload_n 78 dX5_stringRow_77 rfl rfl ?_
        refine xw_ialv (j := _) 79 dX5_stringRow_78 rfl (xA hA rfl) (rfl) (by omega) (by omega) (q3) ?_
        refine xw_iadd 80 dX5_stringRow_79 rfl ?_
        rw [nI_add]
        refine xw_iastore (j := (zI tx i - 97)) (hp' := (mH A z (nI s) hi (nI ln) tx (nI 0) ot oR oC (fun c => if c < 6 then nI (zocc (zcl tx ln 0) (zwd tx i 0 + (max 1 (znm tx i))) c) else (xmix (fun _ => nI 0) wa 6) c) pR pC pM (nI (zpn tx ln)) rr ha nu fe kc hs T)) 81 dX5_stringRow_80 rfl (xA hA rfl) (rfl) (by omega) (by omega) (by rw [← e9]; exact xAs hA rfl) ?_
        refine xw_iload_n 82 dX5_stringRow_81 rfl rfl ?_
        refine xw_aload_n 83 dX5_stringRow_82 rfl rfl rfl ?_
        refine xw_get 86 dX5_stringRow_83 rfl f_X5_31 (xA hA rfl) rfl ?_
        refine xw_iload_n 87 dX5_stringRow_86 rfl rfl ?_
        refine xw_ialv (j := _) 88 dX5_stringRow_87 rfl (xA hA rfl) (rfl) (by omega) (by omega) (q3) ?_
        refine xw_iadd 89 dX5_stringRow_88 rfl ?_
        rw [nI_add]
        refine xw_istore_n (ls' := [(2, _), (3, _), (0, _)]) 90 dX5_stringRow_89 rfl rfl rfl ?_
        refine xw_iinc (ls' := [(3, _), (2, _), (0, _)]) 93 _ dX5_stringRow_90 rfl rfl (xnI_inc _) rfl rfl ?_
        refine xw_goto 53 dX5_stringRow_93 rfl ?_
        exact xW.pick [0, 1, 2] rfl (ih)
      · rw [zpn_n hl1, zwd_n (fun q => hl1 q.1)] at ih
        exact ih
  have e0 : (fun c => if c < 6 then nI (zocc (zcl tx ln 0) 0 c) else (xmix (fun _ => nI 0) wa 6) c) = (xmix (fun _ => nI 0) wa 6) := by
    funext c
    by_cases h : c < 6
    · rw [if_pos h, xmix_at h]; rfl
    · rw [if_neg h]
  have h9 := loop ln 0 (by omega)
  rw [show zwd tx 0 0 = 0 from rfl, e0] at h9
  exact h9
theorem S_M_stringRow_lay {Qx : xO → List xE → Prop} (hA : A.length = 71) (I : xInv z) (hP : zpt tx ln pR pC pM) (hz : zps false tx ln ≠ none) (hl : ln ≤ 60) (hM : zI z 6 + (zwd tx ln 0) ≤ 240) (kk : ∀ l2, xW G M_stringRow Qx 175 [(2, .int l2), (0, .ref 71)] [] (mH A (ztake z (zcl tx ln 0) (zwd tx ln 0)) (nI (zrM s)) (mhis z hi s) (nI 0) tx (nI 0) ot oR oC wa pR pC pM (nI (zpn tx ln)) rr ha nu fe kc hs T) x 0 0) : xW G M_stringRow Qx 133 [(2, .int (nI 0)), (0, .ref 71)] [] (mH A z (nI (zrM s)) (mhis z hi s) (nI 0) tx (nI 0) ot oR oC wa pR pC pM (nI (zpn tx ln)) rr ha nu fe kc hs T) x 0 0 := by
  have hpl := zpn_le tx ln
  have hs0 := zsr_0 hz
  have hwl := zwd_le hz 0 ln (Nat.le_refl _)
  have hfc6 : ∀ j, (zcl tx ln 0) j < 6 := zcl_lt hz 0 ln (Nat.le_refl _)
  have part : ∀ i, i < ln → zlet tx i → zpn tx i < zpn tx ln ∧ pC (zpn tx i) = nI (zI tx i - 97) ∧ pM (zpn tx i) = nI (max 1 (znm tx i)) ∧ (zI tx i - 97) < 6 ∧ (max 1 (znm tx i)) ≤ 60 ∧ zwd tx (i + 1) 0 = zwd tx i 0 + (max 1 (znm tx i)) ∧ zwd tx (i + 1) 0 ≤ (zwd tx ln 0) ∧ ∀ k, k < (max 1 (znm tx i)) → (zcl tx ln 0) (zwd tx i 0 + k) = (zI tx i - 97) := by
    intro i hi hl1
    obtain ⟨q1, q2, q3⟩ := hP i hi hl1
    have hd : ¬ (48 ≤ zI tx i ∧ zI tx i ≤ 57) := of_decide_eq_false hl1.2
    have hlt := zps_let hz hi hl1.1 hd
    have hy := zwd_y hl1
    rw [hs0 i (by omega)] at hy
    have hmo := zwd_mono tx 0 (i + 1) (ln - (i + 1))
    rw [show i + 1 + (ln - (i + 1)) = ln by omega] at hmo
    refine ⟨zpn_lt hl1 hi, q2, q3, by omega, Nat.max_le.mpr ⟨by omega, znm_le hz (by omega)⟩, hy, hmo, fun k hk => ?_⟩
    have hk2 := zcl_keep (co := tx) (i := i + 1) (r := 0) (c := zwd tx i 0 + k) (by omega) (ln - (i + 1))
    rw [show i + 1 + (ln - (i + 1)) = ln by omega] at hk2
    have hz0 := hs0 i (by omega)
    have e := zcl_y hl1 (c := zwd tx i 0 + k) (by rw [hz0]; omega)
    rw [hz0] at e
    rw [hk2, e]
  have loop : ∀ (t i : Nat), i + t = ln → xW G M_stringRow Qx 133 [(2, .int (nI (zpn tx i))), (0, .ref 71)] [] (mH A (ztake z (zcl tx ln 0) (zwd tx i 0)) (nI (zrM s)) (mhis z hi s) (nI 0) tx (nI 0) ot oR oC wa pR pC pM (nI (zpn tx ln)) rr ha nu fe kc hs T) x 0 0 := by
    intro t
    induction t with
    | zero =>
      intro i hi9
      have e : i = ln := by omega
      rw [e]
      refine xw_iload_n 134 dX5_stringRow_133 rfl rfl ?_
      refine xw_aload_n 135 dX5_stringRow_134 rfl rfl rfl ?_
      refine xw_get 138 dX5_stringRow_135 rfl f_X5_134 (xA hA rfl) rfl ?_
      refine xw_icmp_ge 175 141 dX5_stringRow_138 rfl rfl (fun h138 => ?_) (fun h138 => absurd (nI_le (Nat.le_refl _) (by omega)) h138)
      exact xW.pick [0, 1] rfl (kk _)
    | succ t ih =>
      intro i hi9
      have ih := ih (i + 1) (by omega)
      by_cases hl1 : zlet tx i
      · obtain ⟨hp, q2, q3, c6, m60, wy, wl, hf⟩ := part i (by omega) hl1
        rw [zpn_y hl1, wy] at ih
        have inner : ∀ (u k : Nat), k + u = (max 1 (znm tx i)) → xW G M_stringRow Qx 143 [(3, .int (nI k)), (0, .ref 71), (2, .int (nI (zpn tx i)))] [] (mH A (ztake z (zcl tx ln 0) (zwd tx i 0 + k)) (nI (zrM s)) (mhis z hi s) (nI 0) tx (nI 0) ot oR oC wa pR pC pM (nI (zpn tx ln)) rr ha nu fe kc hs T) x 0 0 := by
          intro u
          induction u with
          | zero =>
            intro k hk9
            have e : k = (max 1 (znm tx i)) := by omega
            rw [e]
            refine xw_iload_n 144 dX5_stringRow_143 rfl rfl ?_
            refine xw_aload_n 145 dX5_stringRow_144 rfl rfl rfl ?_
            refine xw_get 148 dX5_stringRow_145 rfl f_X5_31 (xA hA rfl) rfl ?_
            refine xw_iload_n 149 dX5_stringRow_148 rfl rfl ?_
            refine xw_ialv (j := _) 150 dX5_stringRow_149 rfl (xA hA rfl) (rfl) (by omega) (by omega) (q3) ?_
            refine xw_icmp_ge 169 153 dX5_stringRow_150 rfl rfl (fun h150 => ?_) (fun h150 => absurd (nI_le (Nat.le_refl _) (by omega)) h150)
            refine xw_iinc (ls' := [(2, _), (3, _), (0, _)]) 172 _ dX5_stringRow_169 rfl rfl (xnI_inc _) rfl rfl ?_
            refine xw_goto 133 dX5_stringRow_172 rfl ?_
            exact xW.pick [0, 2] rfl (ih)
          | succ u ihu =>
            intro k hk9
            have ihu := ihu (k + 1) (by omega)
            have hfk := hf k (by omega)
            have hms := mst_take (w := z) (fc := (zcl tx ln 0)) (i := zwd tx i 0 + k) (hfc6 _) (by omega)
            rw [hfk] at hms
            rw [← Nat.add_assoc, ← hms] at ihu
            refine xw_iload_n 144 dX5_stringRow_143 rfl rfl ?_
            refine xw_aload_n 145 dX5_stringRow_144 rfl rfl rfl ?_
            refine xw_get 148 dX5_stringRow_145 rfl f_X5_31 (xA hA rfl) rfl ?_
            refine xw_iload_n 149 dX5_stringRow_148 rfl rfl ?_
            refine xw_ialv (j := _) 150 dX5_stringRow_149 rfl (xA hA rfl) (rfl) (by omega) (by omega) (q3) ?_
            refine xw_icmp_ge 169 153 dX5_stringRow_150 rfl rfl (fun h150 => absurd h150 (nI_ge (by omega) (by omega))) (fun h150 => ?_)
            refine xw_aload_n 154 dX5_stringRow_153 rfl rfl rfl ?_
            refine xw_aload_n 155 dX5_stringRow_154 rfl rfl rfl ?_
            refine xw_get 158 dX5_stringRow_155 rfl f_X5_28 (xA hA rfl) rfl ?_
            refine xw_iload_n 159 dX5_stringRow_158 rfl rfl ?_
            refine xw_ialv (j := _) 160 dX5_stringRow_159 rfl (xA hA rfl) (rfl) (by omega) (by omega) (q2) ?_
            refine xw_pVv 163 dX5_stringRow_160 rfl ok_M_strings s_X5_131 (S_M_strings hA ztake_6 (by omega) c6) (mH_len) (xA hA rfl) rfl rfl rfl rfl rfl rfl rfl ?_
            refine xw_iinc (ls' := [(3, _), (0, _), (2, _)]) 166 _ dX5_stringRow_163 rfl rfl (xnI_inc _) rfl rfl ?_
            refine xw_goto 143 dX5_stringRow_166 rfl ?_
            exact xW.pick [0, 1, 2] rfl (ihu)
        have h9 := inner (max 1 (znm tx i)) 0 (by omega)
        refine xw_iload_n 134 dX5_stringRow_133 rfl rfl ?_
        refine xw_aload_n 135 dX5_stringRow_134 rfl rfl rfl ?_
        refine xw_get 138 dX5_stringRow_135 rfl f_X5_134 (xA hA rfl) rfl ?_
        refine xw_icmp_ge 175 141 dX5_stringRow_138 rfl rfl (fun h138 => absurd h138 (nI_ge hp (by omega))) (fun h138 => ?_)
        refine xw_iconst 142 (nI 0) dX5_stringRow_141 rfl (xofI 0) ?_
        refine xw_istore_n (ls' := [(3, _), (2, _), (0, _)]) 143 dX5_stringRow_142 rfl rfl rfl ?_
        exact xW.pick [0, 2, 1] rfl (h9)
      · rw [zpn_n hl1, zwd_n (fun q => hl1 q.1)] at ih
        exact ih
  have h9 := loop ln 0 (by omega)
  rw [show zwd tx 0 0 = 0 from rfl, ztake_0 I] at h9
  exact h9
theorem S_M_stringRow (hA : A.length = 71) (I : xInv z) (X : xTxt tx ln) (hs6 : s ≤ 6) : xMet G M_stringRow [.ref 71] (mH A z (nI s) hi (nI ln) tx th ot oR oC wa pR pC pM ps rr ha nu fe kc hs T) x 0 0 (xQm A T (oRowM (z, hi, s, ln, tx)).1 (oRowM (z, hi, s, ln, tx)).2) := by
  have hA1 := I.iA.2.1
  have hA2 := I.iA.2.2
  have hS2 := I.iS.2.2
  have hR1 := I.iR.2.1
  have hR2 := I.iR.2.2
  have hC1 := I.iC.2.1
  have hC2 := I.iC.2.2
  have hM2 := I.iM.2.2
  have hK1 := I.iK.2.1
  have hK2 := I.iK.2.2
  have hln := X.1
  have hru := S_M_rightUpTo (z := z) (hi := hi) (tx := tx) (th := th) (ot := ot) (oR := oR) (oC := oC) (wa := wa) (pR := pR) (pC := pC) (pM := pM) (ps := ps) (rr := rr) (ha := ha) (nu := nu) (fe := fe) (kc := kc) (hs := hs) (s := s) (ln := ln) (A := A) (T := T) (G := G) (x := x) (ch := false) hA X
  unfold oRowM
  dsimp only
  by_cases g0 : zwhole false tx ln = true
  · rw [if_pos g0]
    obtain ⟨k1, k2⟩ := zei_w g0
    rw [k1, k2] at hru
    have hz := zwhole_ps g0
    have hwl := zwd_le hz 0 ln (Nat.le_refl _)
    have hfc6 : ∀ j, (zcl tx ln 0) j < 6 := zcl_lt hz 0 ln (Nat.le_refl _)
    have hw := S_M_isWhole (z := z) (hi := hi) (tx := tx) (th := th) (ot := ot) (oR := oR) (oC := oC) (wa := wa) (pR := (zpA tx pR (zvR tx) ln)) (pC := (zpA tx pC (zvC tx) ln)) (pM := (zpA tx pM (zvM tx) ln)) (ps := (nI (zpn tx ln))) (rr := (nI (zsr tx ln))) (fe := fe) (kc := kc) (hs := hs) (s := s) (ln := ln) (A := A) (T := T) (G := G) (x := x) (b := true) (n := 0) hA (by omega)
    have hwa : ∀ c, c < 6 → (fun c => if c < 6 then nI (zocc (zcl tx ln 0) (zwd tx ln 0) c) else (xmix (fun _ => nI 0) wa 6) c) c = nI (zocc (zcl tx ln 0) (zwd tx ln 0) c) := fun c hc => if_pos hc
    unfold oFreM
    dsimp only
    by_cases g2 : zcan z (zocc (zcl tx ln 0) (zwd tx ln 0)) (zwd tx ln 0) = true
    · rw [if_pos g2]
      have hle := zcan_le g2
      refine xw_aload_n 1 dX5_stringRow_0 rfl rfl rfl ?_
      refine xw_iconst 2 (nI 0) dX5_stringRow_1 rfl (xofI 0) ?_
      refine xw_pV 5 dX5_stringRow_2 rfl ok_M_rightUpTo s_X5_81 (hru) (mH_len) (xA hA rfl) rfl rfl rfl rfl rfl rfl rfl ?_
      refine xw_aload_n 6 dX5_stringRow_5 rfl rfl rfl ?_
      refine xw_get 9 dX5_stringRow_6 rfl f_X5_85 (xA hA rfl) rfl ?_
      refine xw_icmp_ne 23 12 dX5_stringRow_9 rfl rfl (fun h9 => absurd (rfl) h9) (fun h9 => ?_)
      refine xw_aload_n 13 dX5_stringRow_12 rfl rfl rfl ?_
      refine xw_pV 16 dX5_stringRow_13 rfl ok_M_isWhole s_X5_88 (hw) (mH_len) (xA hA rfl) rfl rfl rfl rfl rfl rfl rfl ?_
      refine xw_if_eq 23 19 dX5_stringRow_16 rfl rfl (fun h16 => absurd h16 (by decide)) (fun h16 => ?_)
      refine xw_iconst 20 (nI 1) dX5_stringRow_19 rfl (xofI 1) ?_
      refine xw_goto 24 dX5_stringRow_20 rfl ?_
      refine xw_istore_n (ls' := [(1, _), (0, _)]) 25 dX5_stringRow_24 rfl rfl rfl ?_
      refine xw_aload_n 26 dX5_stringRow_25 rfl rfl rfl ?_
      refine xw_iload_n 27 dX5_stringRow_26 rfl rfl ?_
      refine xw_if_eq 34 30 dX5_stringRow_27 rfl rfl (fun h27 => absurd h27 (by decide)) (fun h27 => ?_)
      refine xw_iconst 31 (nI 0) dX5_stringRow_30 rfl (xofI 0) ?_
      refine xw_goto 35 dX5_stringRow_31 rfl ?_
      refine xw_put (hp' := (mH A z (nI s) hi (nI ln) tx (nI 0) ot oR oC wa (zpA tx pR (zvR tx) ln) (zpA tx pC (zvC tx) ln) (zpA tx pM (zvM tx) ln) (nI (zpn tx ln)) (nI (zsr tx ln)) (nI (xb01 true)) (nI 0) fe kc hs T)) 38 dX5_stringRow_35 rfl f_X5_40 (xA hA rfl) ⟨rfl, rfl⟩ rfl rfl (xAs hA rfl) ?_
      refine xw_aload_n 39 dX5_stringRow_38 rfl rfl rfl ?_
      refine xw_get 42 dX5_stringRow_39 rfl f_X5_40 (xA hA rfl) rfl ?_
      refine xw_if_ne 113 45 dX5_stringRow_42 rfl rfl (fun h42 => absurd (rfl) h42) (fun h42 => ?_)
      refine xw_aload_n 46 dX5_stringRow_45 rfl rfl rfl ?_
      refine xw_pVv 49 dX5_stringRow_46 rfl ok_M_wantNothing s_X5_125 (S_M_wantNothing hA) (mH_len) (xA hA rfl) rfl rfl rfl rfl rfl rfl rfl ?_
      refine xw_iconst 50 (nI 0) dX5_stringRow_49 rfl (xofI 0) ?_
      refine xw_istore_n (ls' := [(2, _), (1, _), (0, _)]) 51 dX5_stringRow_50 rfl rfl rfl ?_
      refine xw_iconst 52 (nI 0) dX5_stringRow_51 rfl (xofI 0) ?_
      refine xw_istore_n (ls' := [(3, _), (2, _), (1, _), (0, _)]) 53 dX5_stringRow_52 rfl rfl rfl ?_
      refine xW.pick [0, 1, 3] rfl (S_M_stringRow_count hA zpt_A hz hln ?_)
      refine xw_aload_n 97 dX5_stringRow_96 rfl rfl rfl ?_
      refine xw_aload_n 98 dX5_stringRow_97 rfl rfl rfl ?_
      refine xw_iload_n 99 dX5_stringRow_98 rfl rfl ?_
      refine xw_pV 102 dX5_stringRow_99 rfl ok_M_canString s_X5_128 (S_M_canString (occ := zocc (zcl tx ln 0) (zwd tx ln 0)) hA I (by omega) hwa) (mH_len) (xA hA rfl) rfl rfl rfl rfl rfl rfl rfl ?_
      refine xw_if_eq 109 105 dX5_stringRow_102 rfl rfl (fun h102 => absurd h102 (by rw [g2]; decide)) (fun h102 => ?_)
      refine xw_iconst 106 (nI 0) dX5_stringRow_105 rfl (xofI 0) ?_
      refine xw_goto 110 dX5_stringRow_106 rfl ?_
      refine xw_put (hp' := (mH A z (nI s) hi (nI ln) tx (nI 0) ot oR oC (fun c => if c < 6 then nI (zocc (zcl tx ln 0) (zwd tx ln 0) c) else (xmix (fun _ => nI 0) wa 6) c) (zpA tx pR (zvR tx) ln) (zpA tx pC (zvC tx) ln) (zpA tx pM (zvM tx) ln) (nI (zpn tx ln)) (nI (zsr tx ln)) (nI (xb01 true)) (nI 0) fe kc hs T)) 113 dX5_stringRow_110 rfl f_X5_40 (xA hA rfl) ⟨rfl, rfl⟩ rfl rfl (xAs hA rfl) ?_
      refine xw_aload_n 114 dX5_stringRow_113 rfl rfl rfl ?_
      refine xw_get 117 dX5_stringRow_114 rfl f_X5_40 (xA hA rfl) rfl ?_
      refine xw_if_le 122 120 dX5_stringRow_117 rfl rfl (fun h117 => ?_) (fun h117 => absurd (by decide) h117)
      refine xw_aload_n 123 dX5_stringRow_122 rfl rfl rfl ?_
      refine xw_pVv 126 dX5_stringRow_123 rfl ok_M_save s_X5_95 (S_M_save hA hs6) (mH_len) (xA hA rfl) rfl rfl rfl rfl rfl rfl rfl ?_
      refine xw_aload_n 127 dX5_stringRow_126 rfl rfl rfl ?_
      refine xw_iconst 128 (nI 0) dX5_stringRow_127 rfl (xofI 0) ?_
      refine xw_put (hp' := (mH A z (nI (zrM s)) (mhis z hi s) (nI 0) tx (nI 0) ot oR oC (fun c => if c < 6 then nI (zocc (zcl tx ln 0) (zwd tx ln 0) c) else (xmix (fun _ => nI 0) wa 6) c) (zpA tx pR (zvR tx) ln) (zpA tx pC (zvC tx) ln) (zpA tx pM (zvM tx) ln) (nI (zpn tx ln)) (nI (zsr tx ln)) (nI (xb01 true)) (nI 0) fe kc hs T)) 131 dX5_stringRow_128 rfl f_X5_85 (xA hA rfl) ⟨rfl, rfl⟩ rfl rfl (xAs hA rfl) ?_
      refine xw_iconst 132 (nI 0) dX5_stringRow_131 rfl (xofI 0) ?_
      refine xw_istore_n (ls' := [(2, _), (0, _)]) 133 dX5_stringRow_132 rfl rfl rfl ?_
      refine xW.pick [0, 1] rfl (S_M_stringRow_lay hA I zpt_A hz hln hle (fun l2 => ?_))
      refine xw_aload_n 176 dX5_stringRow_175 rfl rfl rfl ?_
      refine xw_get 179 dX5_stringRow_176 rfl f_X5_7 (xA hA rfl) rfl ?_
      refine xw_bipush 181 (nI 6) dX5_stringRow_179 rfl (by decide) ?_
      refine xw_ialv (j := 6) 182 dX5_stringRow_181 rfl (xA hA rfl) (rfl) (by decide) (by decide) (ztake_6) ?_
      exact xw_ireturn dX5_stringRow_182 rfl (⟨rfl, (ot, oR, oC, (fun c => if c < 6 then nI (zocc (zcl tx ln 0) (zwd tx ln 0) c) else (xmix (fun _ => nI 0) wa 6) c), (zpA tx pR (zvR tx) ln), (zpA tx pC (zvC tx) ln), (zpA tx pM (zvM tx) ln), (nI (zpn tx ln)), (nI (zsr tx ln)), (nI (xb01 true)), (nI 0), fe, kc, hs), rfl⟩)
    · rw [if_neg g2]
      refine xw_aload_n 1 dX5_stringRow_0 rfl rfl rfl ?_
      refine xw_iconst 2 (nI 0) dX5_stringRow_1 rfl (xofI 0) ?_
      refine xw_pV 5 dX5_stringRow_2 rfl ok_M_rightUpTo s_X5_81 (hru) (mH_len) (xA hA rfl) rfl rfl rfl rfl rfl rfl rfl ?_
      refine xw_aload_n 6 dX5_stringRow_5 rfl rfl rfl ?_
      refine xw_get 9 dX5_stringRow_6 rfl f_X5_85 (xA hA rfl) rfl ?_
      refine xw_icmp_ne 23 12 dX5_stringRow_9 rfl rfl (fun h9 => absurd (rfl) h9) (fun h9 => ?_)
      refine xw_aload_n 13 dX5_stringRow_12 rfl rfl rfl ?_
      refine xw_pV 16 dX5_stringRow_13 rfl ok_M_isWhole s_X5_88 (hw) (mH_len) (xA hA rfl) rfl rfl rfl rfl rfl rfl rfl ?_
      refine xw_if_eq 23 19 dX5_stringRow_16 rfl rfl (fun h16 => absurd h16 (by decide)) (fun h16 => ?_)
      refine xw_iconst 20 (nI 1) dX5_stringRow_19 rfl (xofI 1) ?_
      refine xw_goto 24 dX5_stringRow_20 rfl ?_
      refine xw_istore_n (ls' := [(1, _), (0, _)]) 25 dX5_stringRow_24 rfl rfl rfl ?_
      refine xw_aload_n 26 dX5_stringRow_25 rfl rfl rfl ?_
      refine xw_iload_n 27 dX5_stringRow_26 rfl rfl ?_
      refine xw_if_eq 34 30 dX5_stringRow_27 rfl rfl (fun h27 => absurd h27 (by decide)) (fun h27 => ?_)
      refine xw_iconst 31 (nI 0) dX5_stringRow_30 rfl (xofI 0) ?_
      refine xw_goto 35 dX5_stringRow_31 rfl ?_
      refine xw_put (hp' := (mH A z (nI s) hi (nI ln) tx (nI 0) ot oR oC wa (zpA tx pR (zvR tx) ln) (zpA tx pC (zvC tx) ln) (zpA tx pM (zvM tx) ln) (nI (zpn tx ln)) (nI (zsr tx ln)) (nI (xb01 true)) (nI 0) fe kc hs T)) 38 dX5_stringRow_35 rfl f_X5_40 (xA hA rfl) ⟨rfl, rfl⟩ rfl rfl (xAs hA rfl) ?_
      refine xw_aload_n 39 dX5_stringRow_38 rfl rfl rfl ?_
      refine xw_get 42 dX5_stringRow_39 rfl f_X5_40 (xA hA rfl) rfl ?_
      refine xw_if_ne 113 45 dX5_stringRow_42 rfl rfl (fun h42 => absurd (rfl) h42) (fun h42 => ?_)
      refine xw_aload_n 46 dX5_stringRow_45 rfl rfl rfl ?_
      refine xw_pVv 49 dX5_stringRow_46 rfl ok_M_wantNothing s_X5_125 (S_M_wantNothing hA) (mH_len) (xA hA rfl) rfl rfl rfl rfl rfl rfl rfl ?_
      refine xw_iconst 50 (nI 0) dX5_stringRow_49 rfl (xofI 0) ?_
      refine xw_istore_n (ls' := [(2, _), (1, _), (0, _)]) 51 dX5_stringRow_50 rfl rfl rfl ?_
      refine xw_iconst 52 (nI 0) dX5_stringRow_51 rfl (xofI 0) ?_
      refine xw_istore_n (ls' := [(3, _), (2, _), (1, _), (0, _)]) 53 dX5_stringRow_52 rfl rfl rfl ?_
      refine xW.pick [0, 1, 3] rfl (S_M_stringRow_count hA zpt_A hz hln ?_)
      refine xw_aload_n 97 dX5_stringRow_96 rfl rfl rfl ?_
      refine xw_aload_n 98 dX5_stringRow_97 rfl rfl rfl ?_
      refine xw_iload_n 99 dX5_stringRow_98 rfl rfl ?_
      refine xw_pV 102 dX5_stringRow_99 rfl ok_M_canString s_X5_128 (S_M_canString (occ := zocc (zcl tx ln 0) (zwd tx ln 0)) hA I (by omega) hwa) (mH_len) (xA hA rfl) rfl rfl rfl rfl rfl rfl rfl ?_
      refine xw_if_eq 109 105 dX5_stringRow_102 rfl rfl (fun h102 => ?_) (fun h102 => absurd (by rw [Bool.not_eq_true] at g2; rw [g2]; rfl) h102)
      refine xw_iconst 110 (nI 2) dX5_stringRow_109 rfl (xofI 2) ?_
      refine xw_put (hp' := (mH A z (nI s) hi (nI ln) tx (nI 2) ot oR oC (fun c => if c < 6 then nI (zocc (zcl tx ln 0) (zwd tx ln 0) c) else (xmix (fun _ => nI 0) wa 6) c) (zpA tx pR (zvR tx) ln) (zpA tx pC (zvC tx) ln) (zpA tx pM (zvM tx) ln) (nI (zpn tx ln)) (nI (zsr tx ln)) (nI (xb01 true)) (nI 0) fe kc hs T)) 113 dX5_stringRow_110 rfl f_X5_40 (xA hA rfl) ⟨rfl, rfl⟩ rfl rfl (xAs hA rfl) ?_
      refine xw_aload_n 114 dX5_stringRow_113 rfl rfl rfl ?_
      refine xw_get 117 dX5_stringRow_114 rfl f_X5_40 (xA hA rfl) rfl ?_
      refine xw_if_le 122 120 dX5_stringRow_117 rfl rfl (fun h117 => absurd h117 (by decide)) (fun h117 => ?_)
      refine xw_iconst 121 (nI 0) dX5_stringRow_120 rfl (xofI 0) ?_
      exact xw_ireturn dX5_stringRow_121 rfl (⟨rfl, (ot, oR, oC, (fun c => if c < 6 then nI (zocc (zcl tx ln 0) (zwd tx ln 0) c) else (xmix (fun _ => nI 0) wa 6) c), (zpA tx pR (zvR tx) ln), (zpA tx pC (zvC tx) ln), (zpA tx pM (zvM tx) ln), (nI (zpn tx ln)), (nI (zsr tx ln)), (nI (xb01 true)), (nI 0), fe, kc, hs), rfl⟩)
  · rw [if_neg g0]
    by_cases g1 : zei false tx 0 ln = ln
    · have hf := zei_nw g0 g1
      rw [g1] at hru
      have hw := S_M_isWhole (z := z) (hi := hi) (tx := tx) (th := th) (ot := ot) (oR := oR) (oC := oC) (wa := wa) (pR := (zpA tx pR (zvR tx) ln)) (pC := (zpA tx pC (zvC tx) ln)) (pM := (zpA tx pM (zvM tx) ln)) (ps := (nI (zpn tx ln))) (rr := (nI (zsr tx ln))) (fe := fe) (kc := kc) (hs := hs) (s := s) (ln := ln) (A := A) (T := T) (G := G) (x := x) (b := (zpb false tx ln).1) (n := (zpb false tx ln).2) hA zpb_le
      rw [hf] at hw
      refine xw_aload_n 1 dX5_stringRow_0 rfl rfl rfl ?_
      refine xw_iconst 2 (nI 0) dX5_stringRow_1 rfl (xofI 0) ?_
      refine xw_pV 5 dX5_stringRow_2 rfl ok_M_rightUpTo s_X5_81 (hru) (mH_len) (xA hA rfl) rfl rfl rfl rfl rfl rfl rfl ?_
      refine xw_aload_n 6 dX5_stringRow_5 rfl rfl rfl ?_
      refine xw_get 9 dX5_stringRow_6 rfl f_X5_85 (xA hA rfl) rfl ?_
      refine xw_icmp_ne 23 12 dX5_stringRow_9 rfl rfl (fun h9 => absurd (rfl) h9) (fun h9 => ?_)
      refine xw_aload_n 13 dX5_stringRow_12 rfl rfl rfl ?_
      refine xw_pV 16 dX5_stringRow_13 rfl ok_M_isWhole s_X5_88 (hw) (mH_len) (xA hA rfl) rfl rfl rfl rfl rfl rfl rfl ?_
      refine xw_if_eq 23 19 dX5_stringRow_16 rfl rfl (fun h16 => ?_) (fun h16 => absurd (rfl) h16)
      refine xw_iconst 24 (nI 0) dX5_stringRow_23 rfl (xofI 0) ?_
      refine xw_istore_n (ls' := [(1, _), (0, _)]) 25 dX5_stringRow_24 rfl rfl rfl ?_
      refine xw_aload_n 26 dX5_stringRow_25 rfl rfl rfl ?_
      refine xw_iload_n 27 dX5_stringRow_26 rfl rfl ?_
      refine xw_if_eq 34 30 dX5_stringRow_27 rfl rfl (fun h27 => ?_) (fun h27 => absurd (rfl) h27)
      refine xw_iconst 35 (nI 1) dX5_stringRow_34 rfl (xofI 1) ?_
      refine xw_put (hp' := (mH A z (nI s) hi (nI ln) tx (nI 1) ot oR oC wa (zpA tx pR (zvR tx) ln) (zpA tx pC (zvC tx) ln) (zpA tx pM (zvM tx) ln) (nI (zpn tx ln)) (nI (zsr tx ln)) (nI (xb01 (zpb false tx ln).1)) (nI (zpb false tx ln).2) fe kc hs T)) 38 dX5_stringRow_35 rfl f_X5_40 (xA hA rfl) ⟨rfl, rfl⟩ rfl rfl (xAs hA rfl) ?_
      refine xw_aload_n 39 dX5_stringRow_38 rfl rfl rfl ?_
      refine xw_get 42 dX5_stringRow_39 rfl f_X5_40 (xA hA rfl) rfl ?_
      refine xw_if_ne 113 45 dX5_stringRow_42 rfl rfl (fun h42 => ?_) (fun h42 => absurd h42 (by decide))
      refine xw_aload_n 114 dX5_stringRow_113 rfl rfl rfl ?_
      refine xw_get 117 dX5_stringRow_114 rfl f_X5_40 (xA hA rfl) rfl ?_
      refine xw_if_le 122 120 dX5_stringRow_117 rfl rfl (fun h117 => absurd h117 (by decide)) (fun h117 => ?_)
      refine xw_iconst 121 (nI 0) dX5_stringRow_120 rfl (xofI 0) ?_
      exact xw_ireturn dX5_stringRow_121 rfl (⟨rfl, (ot, oR, oC, wa, (zpA tx pR (zvR tx) ln), (zpA tx pC (zvC tx) ln), (zpA tx pM (zvM tx) ln), (nI (zpn tx ln)), (nI (zsr tx ln)), (nI (xb01 (zpb false tx ln).1)), (nI (zpb false tx ln).2), fe, kc, hs), rfl⟩)
    · have hle := zei_le false tx ln 0
      refine xw_aload_n 1 dX5_stringRow_0 rfl rfl rfl ?_
      refine xw_iconst 2 (nI 0) dX5_stringRow_1 rfl (xofI 0) ?_
      refine xw_pV 5 dX5_stringRow_2 rfl ok_M_rightUpTo s_X5_81 (hru) (mH_len) (xA hA rfl) rfl rfl rfl rfl rfl rfl rfl ?_
      refine xw_aload_n 6 dX5_stringRow_5 rfl rfl rfl ?_
      refine xw_get 9 dX5_stringRow_6 rfl f_X5_85 (xA hA rfl) rfl ?_
      refine xw_icmp_ne 23 12 dX5_stringRow_9 rfl rfl (fun h9 => ?_) (fun h9 => absurd h9 (fun q => by rw [nI_eq (by omega) (by omega)] at q; exact g1 q))
      refine xw_iconst 24 (nI 0) dX5_stringRow_23 rfl (xofI 0) ?_
      refine xw_istore_n (ls' := [(1, _), (0, _)]) 25 dX5_stringRow_24 rfl rfl rfl ?_
      refine xw_aload_n 26 dX5_stringRow_25 rfl rfl rfl ?_
      refine xw_iload_n 27 dX5_stringRow_26 rfl rfl ?_
      refine xw_if_eq 34 30 dX5_stringRow_27 rfl rfl (fun h27 => ?_) (fun h27 => absurd (rfl) h27)
      refine xw_iconst 35 (nI 1) dX5_stringRow_34 rfl (xofI 1) ?_
      refine xw_put (hp' := (mH A z (nI s) hi (nI ln) tx (nI 1) ot oR oC wa (zpA tx pR (zvR tx) (zei false tx 0 ln)) (zpA tx pC (zvC tx) (zei false tx 0 ln)) (zpA tx pM (zvM tx) (zei false tx 0 ln)) (nI (zpn tx (zei false tx 0 ln))) (nI (zsr tx (zei false tx 0 ln))) (nI (xb01 (zpb false tx (zei false tx 0 ln)).1)) (nI (zpb false tx (zei false tx 0 ln)).2) fe kc hs T)) 38 dX5_stringRow_35 rfl f_X5_40 (xA hA rfl) ⟨rfl, rfl⟩ rfl rfl (xAs hA rfl) ?_
      refine xw_aload_n 39 dX5_stringRow_38 rfl rfl rfl ?_
      refine xw_get 42 dX5_stringRow_39 rfl f_X5_40 (xA hA rfl) rfl ?_
      refine xw_if_ne 113 45 dX5_stringRow_42 rfl rfl (fun h42 => ?_) (fun h42 => absurd h42 (by decide))
      refine xw_aload_n 114 dX5_stringRow_113 rfl rfl rfl ?_
      refine xw_get 117 dX5_stringRow_114 rfl f_X5_40 (xA hA rfl) rfl ?_
      refine xw_if_le 122 120 dX5_stringRow_117 rfl rfl (fun h117 => absurd h117 (by decide)) (fun h117 => ?_)
      refine xw_iconst 121 (nI 0) dX5_stringRow_120 rfl (xofI 0) ?_
      exact xw_ireturn dX5_stringRow_121 rfl (⟨rfl, (ot, oR, oC, wa, (zpA tx pR (zvR tx) (zei false tx 0 ln)), (zpA tx pC (zvC tx) (zei false tx 0 ln)), (zpA tx pM (zvM tx) (zei false tx 0 ln)), (nI (zpn tx (zei false tx 0 ln))), (nI (zsr tx (zei false tx 0 ln))), (nI (xb01 (zpb false tx (zei false tx 0 ln)).1)), (nI (zpb false tx (zei false tx 0 ln)).2), fe, kc, hs), rfl⟩)
end P51

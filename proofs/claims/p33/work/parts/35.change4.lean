/-! ===== the workshop's calls that change: strings ===== -/
/-- how many of the first m beads have the colour c -/
def zocc (fc : Nat → Nat) (m c : Nat) : Nat := xct (fun i => decide (fc i = c)) m
/-- the beads fc, m of them, are strung; ln: the buffer's length then -/
def oFre (s : xCS) (fc : Nat → Nat) (m ln : Nat) : (Nat × Int32) × xCS := if zcan s.1 (zocc fc m) m = true then ((0, nI (zI s.1 6 + m)), cSav s (ztake s.1 fc m) ln) else ((2, 0), s)
theorem xocc_zocc {f : Nat → Int32} {fc : Nat → Nat} {c : Nat} (hc : c < 2 ^ 31) : ∀ {m : Nat}, (∀ i, i < m → f i = nI (fc i) ∧ fc i < 6) → xocc f (nI c) m = zocc fc m c
  | 0, _ => rfl
  | m + 1, h => by
    have ih := xocc_zocc (f := f) (fc := fc) hc (m := m) (fun i hi => h i (by omega))
    obtain ⟨h1, h2⟩ := h m (by omega)
    unfold zocc at ih ⊢
    unfold xocc xct
    rw [ih, h1]
    by_cases e : fc m = c
    · rw [if_pos (congrArg nI e), if_pos (decide_eq_true e)]
    · rw [if_neg (fun q => e ((nI_eq (by omega) hc).mp q)), if_neg (by simpa using e)]
theorem zcan_zocc {w f : Nat → Int32} {fc : Nat → Nat} {m : Nat} (h : m ≤ 240 → ∀ i, i < m → f i = nI (fc i) ∧ fc i < 6) : zcan w (fun c => xocc f (nI c) m) m = zcan w (zocc fc m) m := by
  unfold zcan
  by_cases h1 : zI w 6 + m ≤ 240
  · rw [xall_congr (q := fun c => decide (nI (zocc fc m c) ≤ w (9 + c))) (fun c hc => by show decide (nI (xocc f (nI c) m) ≤ _) = _; rw [xocc_zocc (by omega) (h (by omega))])]
  · rw [decide_eq_false h1, Bool.false_and, Bool.false_and]
theorem zcan_le {w : Nat → Int32} {occ : Nat → Nat} {m : Nat} (h : zcan w occ m = true) : zI w 6 + m ≤ 240 := by
  unfold zcan at h
  rw [Bool.and_eq_true] at h
  exact of_decide_eq_true h.1
theorem xo3_inl {ov : Option Value} {r : Nat × Int32} {E1 E2 : String} (h : (.inl ov : xO) = xo3 r E1 E2) : ov = some (.int r.2) := by
  unfold xo3 at h
  split at h
  · cases h; rfl
  · split at h <;> cases h
section P35
variable {G : xG} {x : Nat} {w : Nat → Int32} {sv : Nat → Nat → Int32} {q m ln : Nat} {co : Nat → Int32} {sx : xSx} {T : List xE}
theorem S_B_stringFresh {fc : Nat → Nat} {n : Nat} (I : xInv w) (hq : q < 6) (hm : m ≤ 6) (hn : n ≤ 100000) (hf : n ≤ 240 → ∀ i, i < n → sx.2.2.2 i = nI (fc i) ∧ fc i < 6) : xMet G B_stringFresh [.ref 0, .int (nI n)] (bHp w sv (nI q) (nI m) (nI ln) co sx T) x 1 6 (xQc3 T (oFre (w, sv, q, m, ln, co) fc n ln).1 (oFre (w, sv, q, m, ln, co) fc n ln).2 xIA xIS) := by
  have hct := S_W_canTake (G := G) (x := x) (hp := (bHp w sv (nI q) (nI m) (nI ln) co sx T)) (p := 1) (kf := 70) (m := n) (fr := sx.2.2.2) bHp_wk I rfl hn
  rw [zcan_zocc hf] at hct
  unfold oFre
  dsimp only
  by_cases g0 : zcan w (zocc fc n) n = true
  · rw [if_pos g0] at hct ⊢
    have hle := zcan_le g0
    have e6 : ztake w fc n 6 = nI (zI w 6 + n) := upd_at
    refine xw_aload_n 1 dX4_stringFresh_0 rfl rfl rfl ?_
    refine xw_get 4 dX4_stringFresh_1 rfl f_X4_10 (rfl) rfl ?_
    refine xw_aload_n 5 dX4_stringFresh_4 rfl rfl rfl ?_
    refine xw_get 8 dX4_stringFresh_5 rfl f_X4_37 (rfl) rfl ?_
    refine xw_iload_n 9 dX4_stringFresh_8 rfl rfl ?_
    refine xw_pVN 12 dX4_stringFresh_9 rfl ok_W_canTake s_X4_316 (hct) (bHp_len) (rfl) rfl rfl rfl rfl rfl rfl rfl ?_
    refine xw_if_ne 26 15 dX4_stringFresh_12 rfl rfl (fun h12 => ?_) (fun h12 => absurd h12 (by decide))
    refine xw_aload_n 27 dX4_stringFresh_26 rfl rfl rfl ?_
    refine xw_get 30 dX4_stringFresh_27 rfl f_X4_19 (rfl) rfl ?_
    refine xw_aload_n 31 dX4_stringFresh_30 rfl rfl rfl ?_
    refine xw_get 34 dX4_stringFresh_31 rfl f_X4_10 (rfl) rfl ?_
    refine xw_pVNv 37 dX4_stringFresh_34 rfl ok_H_save s_X4_61 (S_H_save hq hm) (bHp_len) (rfl) rfl rfl rfl rfl rfl rfl rfl ?_
    refine xw_aload_n 38 dX4_stringFresh_37 rfl rfl rfl ?_
    refine xw_get 41 dX4_stringFresh_38 rfl f_X4_10 (rfl) rfl ?_
    refine xw_aload_n 42 dX4_stringFresh_41 rfl rfl rfl ?_
    refine xw_get 45 dX4_stringFresh_42 rfl f_X4_37 (rfl) rfl ?_
    refine xw_iload_n 46 dX4_stringFresh_45 rfl rfl ?_
    refine xw_pVNv 49 dX4_stringFresh_46 rfl ok_W_takeOn s_X4_322 (S_W_takeOn I hle (hf (by omega))) (bHp_len) (rfl) rfl rfl rfl rfl rfl rfl rfl ?_
    refine xw_aload_n 50 dX4_stringFresh_49 rfl rfl rfl ?_
    refine xw_get 53 dX4_stringFresh_50 rfl f_X4_10 (rfl) rfl ?_
    refine xw_get 56 dX4_stringFresh_53 rfl f_X4_149 (rfl) rfl ?_
    rw [e6]
    exact xw_ireturn dX4_stringFresh_56 rfl (⟨rfl, _, sx, xag_refl _, rfl⟩)
  · rw [if_neg g0] at hct ⊢
    refine xw_aload_n 1 dX4_stringFresh_0 rfl rfl rfl ?_
    refine xw_get 4 dX4_stringFresh_1 rfl f_X4_10 (rfl) rfl ?_
    refine xw_aload_n 5 dX4_stringFresh_4 rfl rfl rfl ?_
    refine xw_get 8 dX4_stringFresh_5 rfl f_X4_37 (rfl) rfl ?_
    refine xw_iload_n 9 dX4_stringFresh_8 rfl rfl ?_
    refine xw_pVN 12 dX4_stringFresh_9 rfl ok_W_canTake s_X4_316 (hct) (bHp_len) (rfl) rfl rfl rfl rfl rfl rfl rfl ?_
    refine xw_if_ne 26 15 dX4_stringFresh_12 rfl rfl (fun h12 => absurd (rfl) h12) (fun h12 => ?_)
    exact xw_throwW dX4_stringFresh_15 dX4_stringFresh_18 dX4_stringFresh_19 dX4_stringFresh_22 dX4_stringFresh_25 t_X4_56 x_X4_320 rfl rfl rfl rfl rfl rfl (⟨rfl, w, sx, xag_refl w, rfl⟩)
def oStr (s : xCS) (p r : Int32) : (Nat × Int32) × xCS := if xlt p 6 then (if xin r 1 60 then oFre s (fun _ => pN p) (pN r) s.2.2.2.2.1 else ((1, 0), s)) else ((1, 0), s)
theorem S_B_string {p r : Int32} (I : xInv w) (hq : q < 6) (hm : m ≤ 6) : xMet G B_string [.ref 0, .int p, .int r] (bHp w sv (nI q) (nI m) (nI ln) co sx T) x 1 6 (xQc3 T (oStr (w, sv, q, m, ln, co) p r).1 (oStr (w, sv, q, m, ln, co) p r).2 xIA xIS) := by
  unfold oStr
  dsimp only
  by_cases g0 : xlt p 6
  · rw [if_pos g0]
    obtain ⟨a, a1, rfl⟩ := xlt_y (by decide) g0
    rw [pN_k (by omega)]
    by_cases g1 : xin r 1 60
    · rw [if_pos g1]
      obtain ⟨b, b1, b2, rfl⟩ := xin_y (by decide) (by decide) g1
      rw [pN_k (by omega)]
      have loop : ∀ (t i : Nat), i + t = b → xW G B_string (xQc3 T (oFre (w, sv, q, m, ln, co) (fun _ => a) b ln).1 (oFre (w, sv, q, m, ln, co) (fun _ => a) b ln).2 xIA xIS) 26 [(3, .int (nI i)), (0, .ref 0), (1, .int (nI a)), (2, .int (nI b))] [] (bHp w sv (nI q) (nI m) (nI ln) co (sx.1, sx.2.1, sx.2.2.1, (xfl i (fun _ => a) sx.2.2.2)) T) x 1 6 := by
        intro t
        induction t with
        | zero =>
          intro i hi
          have e : i = b := by omega
          subst e
          refine xw_iload_n 27 dX4_string_26 rfl rfl ?_
          refine xw_iload_n 28 dX4_string_27 rfl rfl ?_
          refine xw_icmp_ge 46 31 dX4_string_28 rfl rfl (fun h28 => ?_) (fun h28 => absurd (nI_le (Nat.le_refl _) (by omega)) h28)
          refine xw_aload_n 47 dX4_string_46 rfl rfl rfl ?_
          refine xw_iload_n 48 dX4_string_47 rfl rfl ?_
          refine xw_tV 51 dX4_string_48 rfl ok_B_stringFresh s_X4_143 (S_B_stringFresh (fc := fun _ => a) I hq hm (by omega) (fun _ j hj => ⟨if_pos ⟨hj, by omega⟩, a1⟩)) (fun o9 hp9 q9 => by obtain ⟨_, w9, sx9, _, q9⟩ := q9; rw [q9]; rfl) (rfl) rfl rfl rfl rfl rfl rfl rfl rfl (fun ov9 hp9 q9 => ?_) (fun E9 hp9 q9 => q9)
          have o9 := xo3_inl q9.1
          subst o9
          exact xw_ireturn dX4_string_51 rfl (q9)
        | succ t ih =>
          intro i hi
          have ih := ih (i + 1) (by omega)
          refine xw_iload_n 27 dX4_string_26 rfl rfl ?_
          refine xw_iload_n 28 dX4_string_27 rfl rfl ?_
          refine xw_icmp_ge 46 31 dX4_string_28 rfl rfl (fun h28 => absurd h28 (nI_ge (by omega) (by omega))) (fun h28 => ?_)
          refine xw_aload_n 32 dX4_string_31 rfl rfl rfl ?_
          refine xw_get 35 dX4_string_32 rfl f_X4_37 (rfl) rfl ?_
          refine xw_iload_n 36 dX4_string_35 rfl rfl ?_
          refine xw_iload_n 37 dX4_string_36 rfl rfl ?_
          refine xw_pSv 40 dX4_string_37 rfl ok_B_put s_X4_123 (S_B_put (h1 := (bHp w sv (nI q) (nI m) (nI ln) co (sx.1, sx.2.1, sx.2.2.1, (xfl (i + 1) (fun _ => a) sx.2.2.2)) T)) rfl (by decide) rfl (by omega) (by rw [xfl_in (by omega) rfl]; rfl)) (bHp_len) rfl rfl rfl rfl rfl rfl ?_
          refine xw_iinc (ls' := [(3, _), (0, _), (1, _), (2, _)]) 43 _ dX4_string_40 rfl rfl (xnI_inc _) rfl rfl ?_
          refine xw_goto 26 dX4_string_43 rfl ?_
          exact xW.pick [0, 1, 2, 3] rfl (ih)
      refine xw_iload_n 1 dX4_string_0 rfl rfl ?_
      refine xw_pS 4 dX4_string_1 rfl ok_B_isColour s_X4_91 (S_B_isColour_y a1) (bHp_len) rfl rfl rfl rfl rfl rfl ?_
      refine xw_if_eq 14 7 dX4_string_4 rfl rfl (fun h4 => absurd h4 (by decide)) (fun h4 => ?_)
      refine xw_iload_n 8 dX4_string_7 rfl rfl ?_
      refine xw_pS 11 dX4_string_8 rfl ok_B_canBeStrungAtOnce s_X4_140 (S_B_canBeStrungAtOnce_y b1 b2) (bHp_len) rfl rfl rfl rfl rfl rfl ?_
      refine xw_if_ne 24 14 dX4_string_11 rfl rfl (fun h11 => ?_) (fun h11 => absurd h11 (by decide))
      refine xw_iconst 25 (nI 0) dX4_string_24 rfl (xofI 0) ?_
      refine xw_istore_n (ls' := [(3, _), (0, _), (1, _), (2, _)]) 26 dX4_string_25 rfl rfl rfl ?_
      have h9 := loop b 0 (by omega)
      rw [xfl_0] at h9
      exact h9
    · rw [if_neg g1]
      refine xw_iload_n 1 dX4_string_0 rfl rfl ?_
      refine xw_pS 4 dX4_string_1 rfl ok_B_isColour s_X4_91 (S_B_isColour_y a1) (bHp_len) rfl rfl rfl rfl rfl rfl ?_
      refine xw_if_eq 14 7 dX4_string_4 rfl rfl (fun h4 => absurd h4 (by decide)) (fun h4 => ?_)
      refine xw_iload_n 8 dX4_string_7 rfl rfl ?_
      refine xw_pS 11 dX4_string_8 rfl ok_B_canBeStrungAtOnce s_X4_140 (S_B_canBeStrungAtOnce_n (xin_n g1)) (bHp_len) rfl rfl rfl rfl rfl rfl ?_
      refine xw_if_ne 24 14 dX4_string_11 rfl rfl (fun h11 => absurd (rfl) h11) (fun h11 => ?_)
      exact xw_throw dX4_string_14 dX4_string_17 dX4_string_18 dX4_string_20 dX4_string_23 t_X4_45 x_X4_127 rfl rfl rfl rfl rfl rfl (⟨rfl, w, sx, xag_refl w, rfl⟩)
  · rw [if_neg g0]
    refine xw_iload_n 1 dX4_string_0 rfl rfl ?_
    refine xw_pS 4 dX4_string_1 rfl ok_B_isColour s_X4_91 (S_B_isColour_n (xlt_n g0)) (bHp_len) rfl rfl rfl rfl rfl rfl ?_
    refine xw_if_eq 14 7 dX4_string_4 rfl rfl (fun h4 => ?_) (fun h4 => absurd (rfl) h4)
    exact xw_throw dX4_string_14 dX4_string_17 dX4_string_18 dX4_string_20 dX4_string_23 t_X4_45 x_X4_127 rfl rfl rfl rfl rfl rfl (⟨rfl, w, sx, xag_refl w, rfl⟩)
/-- the colours of the next beads -/
def znx (w : Nat → Int32) : Nat → Nat := fun i => (pcol w (zI w 6 + i)).toNatClampNeg
def oNex (s : xCS) (r : Int32) : (Nat × Int32) × xCS := if xin r 1 60 then oFre s (znx s.1) (pN r) s.2.2.2.2.1 else ((1, 0), s)
theorem S_B_stringNext {r : Int32} (I : xInv w) (hq : q < 6) (hm : m ≤ 6) : xMet G B_stringNext [.ref 0, .int r] (bHp w sv (nI q) (nI m) (nI ln) co sx T) x 1 6 (xQc3 T (oNex (w, sv, q, m, ln, co) r).1 (oNex (w, sv, q, m, ln, co) r).2 xIA xIS) := by
  obtain ⟨M1, M2, M3⟩ := I.iM
  have hpc : ∀ i, pcol w (zI w 6 + i) = nI (znx w i) ∧ znx w i < 6 := by
    intro i
    obtain ⟨c, h1, h2⟩ := I.pc (zI w 6 + i)
    unfold znx
    rw [h2, nI_clamp (by omega)]
    exact ⟨rfl, h1⟩
  unfold oNex
  dsimp only
  by_cases g1 : xin r 1 60
  · rw [if_pos g1]
    obtain ⟨b, b1, b2, rfl⟩ := xin_y (by decide) (by decide) g1
    rw [pN_k (by omega)]
    have loop : ∀ (t i : Nat), i + t = b → xW G B_stringNext (xQc3 T (oFre (w, sv, q, m, ln, co) (znx w) b ln).1 (oFre (w, sv, q, m, ln, co) (znx w) b ln).2 xIA xIS) 19 [(2, .int (nI i)), (0, .ref 0), (1, .int (nI b))] [] (bHp w sv (nI q) (nI m) (nI ln) co (sx.1, sx.2.1, sx.2.2.1, (xfl i (znx w) sx.2.2.2)) T) x 1 6 := by
      intro t
      induction t with
      | zero =>
        intro i hi
        have e : i = b := by omega
        subst e
        refine xw_iload_n 20 dX4_stringNext_19 rfl rfl ?_
        refine xw_iload_n 21 dX4_stringNext_20 rfl rfl ?_
        refine xw_icmp_ge 54 24 dX4_stringNext_21 rfl rfl (fun h21 => ?_) (fun h21 => absurd (nI_le (Nat.le_refl _) (by omega)) h21)
        refine xw_aload_n 55 dX4_stringNext_54 rfl rfl rfl ?_
        refine xw_iload_n 56 dX4_stringNext_55 rfl rfl ?_
        refine xw_tV 59 dX4_stringNext_56 rfl ok_B_stringFresh s_X4_143 (S_B_stringFresh (fc := znx w) I hq hm (by omega) (fun _ j hj => ⟨if_pos ⟨hj, by omega⟩, (hpc j).2⟩)) (fun o9 hp9 q9 => by obtain ⟨_, w9, sx9, _, q9⟩ := q9; rw [q9]; rfl) (rfl) rfl rfl rfl rfl rfl rfl rfl rfl (fun ov9 hp9 q9 => ?_) (fun E9 hp9 q9 => q9)
        have o9 := xo3_inl q9.1
        subst o9
        exact xw_ireturn dX4_stringNext_59 rfl (q9)
      | succ t ih =>
        intro i hi
        have ih := ih (i + 1) (by omega)
        refine xw_iload_n 20 dX4_stringNext_19 rfl rfl ?_
        refine xw_iload_n 21 dX4_stringNext_20 rfl rfl ?_
        refine xw_icmp_ge 54 24 dX4_stringNext_21 rfl rfl (fun h21 => absurd h21 (nI_ge (by omega) (by omega))) (fun h21 => ?_)
        refine xw_aload_n 25 dX4_stringNext_24 rfl rfl rfl ?_
        refine xw_get 28 dX4_stringNext_25 rfl f_X4_37 (rfl) rfl ?_
        refine xw_iload_n 29 dX4_stringNext_28 rfl rfl ?_
        refine xw_aload_n 30 dX4_stringNext_29 rfl rfl rfl ?_
        refine xw_get 33 dX4_stringNext_30 rfl f_X4_10 (rfl) rfl ?_
        refine xw_aload_n 34 dX4_stringNext_33 rfl rfl rfl ?_
        refine xw_get 37 dX4_stringNext_34 rfl f_X4_10 (rfl) rfl ?_
        refine xw_get 40 dX4_stringNext_37 rfl f_X4_149 (rfl) rfl ?_
        refine xw_iload_n 41 dX4_stringNext_40 rfl rfl ?_
        refine xw_iadd 42 dX4_stringNext_41 rfl ?_
        rw [M1, nI_add]
        refine xw_pVN 45 dX4_stringNext_42 rfl ok_W_patternColour s_X4_152 (S_W_patternColour bHp_wk I (by omega)) (bHp_len) (rfl) rfl rfl rfl rfl rfl rfl rfl ?_
        refine xw_pSv 48 dX4_stringNext_45 rfl ok_B_put s_X4_123 (S_B_put (h1 := (bHp w sv (nI q) (nI m) (nI ln) co (sx.1, sx.2.1, sx.2.2.1, (xfl (i + 1) (znx w) sx.2.2.2)) T)) rfl (by decide) rfl (by omega) (by rw [← xfl_in (by omega) (hpc i).1]; rfl)) (bHp_len) rfl rfl rfl rfl rfl rfl ?_
        refine xw_iinc (ls' := [(2, _), (0, _), (1, _)]) 51 _ dX4_stringNext_48 rfl rfl (xnI_inc _) rfl rfl ?_
        refine xw_goto 19 dX4_stringNext_51 rfl ?_
        exact xW.pick [0, 1, 2] rfl (ih)
    refine xw_iload_n 1 dX4_stringNext_0 rfl rfl ?_
    refine xw_pS 4 dX4_stringNext_1 rfl ok_B_canBeStrungAtOnce s_X4_140 (S_B_canBeStrungAtOnce_y b1 b2) (bHp_len) rfl rfl rfl rfl rfl rfl ?_
    refine xw_if_ne 17 7 dX4_stringNext_4 rfl rfl (fun h4 => ?_) (fun h4 => absurd h4 (by decide))
    refine xw_iconst 18 (nI 0) dX4_stringNext_17 rfl (xofI 0) ?_
    refine xw_istore_n (ls' := [(2, _), (0, _), (1, _)]) 19 dX4_stringNext_18 rfl rfl rfl ?_
    have h9 := loop b 0 (by omega)
    rw [xfl_0] at h9
    exact h9
  · rw [if_neg g1]
    refine xw_iload_n 1 dX4_stringNext_0 rfl rfl ?_
    refine xw_pS 4 dX4_stringNext_1 rfl ok_B_canBeStrungAtOnce s_X4_140 (S_B_canBeStrungAtOnce_n (xin_n g1)) (bHp_len) rfl rfl rfl rfl rfl rfl ?_
    refine xw_if_ne 17 7 dX4_stringNext_4 rfl rfl (fun h4 => absurd (rfl) h4) (fun h4 => ?_)
    exact xw_throw dX4_stringNext_7 dX4_stringNext_10 dX4_stringNext_11 dX4_stringNext_13 dX4_stringNext_16 t_X4_45 x_X4_147 rfl rfl rfl rfl rfl rfl (⟨rfl, w, sx, xag_refl w, rfl⟩)
def oRow (s : xCS) : (Nat × Int32) × xCS := if zwhole false s.2.2.2.2.2 s.2.2.2.2.1 = true then oFre s (zcl s.2.2.2.2.2 s.2.2.2.2.1 0) (zwd s.2.2.2.2.2 s.2.2.2.2.1 0) 0 else ((1, 0), s)
theorem zcl_lt {ch : Bool} {co : Nat → Int32} {n : Nat} (h : zps ch co n ≠ none) (r : Nat) : ∀ i, i ≤ n → ∀ c, zcl co i r c < 6
  | 0, _, c => by show 0 < 6; decide
  | i + 1, hi, c => by
    unfold zcl
    by_cases e : (zI co i ≠ 47 ∧ zdg (zI co i) = false ∧ r = zsr co i) ∧ zwd co i r ≤ c
    · rw [if_pos e]
      have h1 := zps_let h (show i < n by omega) e.1.1 (of_decide_eq_false e.1.2.1)
      omega
    · rw [if_neg e]
      exact zcl_lt h r i (by omega) c
theorem zwhole_ps {ch : Bool} {co : Nat → Int32} {n : Nat} (h : zwhole ch co n = true) : zps ch co n ≠ none := by
  unfold zwhole at h
  rw [of_decide_eq_true h]
  intro e
  cases e
end P35

/-! ===== the workshop's calls that change: recolour, turn, load, strings ===== -/
section P34a
variable {G : xG} {Y : xM} {Qx : xO → List xE → Prop} {pc : Nat} {ls : List (Nat × Value)} {st : List Value} {hp : List xE} {x kc ks : Nat}
variable {Y' : xM} {Qx' : xO → List xE → Prop} {n idx : Nat} {ar : List Value} {rest : List Value} {k ci : Nat} {fs : List Value} {host : String}
/-- a call that may throw, or make as much as a throw does; what it throws goes on up -/
theorem xw_tV (pc' : Nat) (hd : decode (xmB Y) pc = .ok (.invokevirtual idx, 3)) (hpc : pc + 3 = pc') (hok : xMok Y' n) (hw : Cond.methodLink (xmN Y).cls idx (xmN Y') ∈ lw_tbl ∧ Cond.instanceMethod (xmN Y') ∈ lw_tbl ∧ Cond.selects (xmN Y').cls (xmN Y') (xmN Y') ∈ lw_tbl) (hM : xMet G Y' (.ref k :: ar) hp x 1 6 Qx') (hl : ∀ o hp', Qx' o hp' → hp.length = hp'.length) (hob : hp[k]? = some (.inr (ci, fs))) (hci : (xCl[ci]?).map (fun r => r.1) = some (xmN Y').cls) (hn : ar.length = n) (ha : Nat.ble (lg_sl (.ref k :: ar)).length (xmL Y') = true) (hst : st = ar.reverse ++ .ref k :: rest) (hcat : Nat.ble (rest.map fun v => v.category).sum 8 = true) (hfr : Nat.ble (xmF Y' + 1) (xmF Y) = true) (hlo : Nat.ble (8 + (xmL Y' + 11) + xmW Y') (xmW Y) = true) (hh : xmH Y = []) (kk : ∀ ov hp', Qx' (.inl ov) hp' → xW G Y Qx pc' ls (ov.toList ++ rest) hp' (x + 1) 0 0) (kx : ∀ E hp', Qx' (.inr E) hp' → Qx (.inr E) hp') : xW G Y Qx pc ls st hp x 1 6 := by
  subst hpc
  exact xw_callV hd hok hw hM hob hci hn ha hst hcat hfr hlo rfl rfl (fun o hp' h => by rw [hl o hp' h]; exact Nat.le_refl _) kk (fun E hp' h => xt_out hh (kx E hp' h))
end P34a
/-- the work with other cells -/
def zcel (w f : Nat → Int32) : Nat → Int32 := fun k => if 27 ≤ k ∧ k < 147 then f (k - 27) else w k
theorem zcel_o {w f : Nat → Int32} {k : Nat} (h : k < 27 ∨ 147 ≤ k) : zcel w f k = w k := if_neg (by omega)
theorem zcel_c {w f : Nat → Int32} {k : Nat} (h : k < 120) : zcel w f (27 + k) = f k := by
  unfold zcel
  rw [if_pos (by omega), Nat.add_sub_cancel_left]
theorem xsl_zo {w f : Nat → Int32} {o n : Nat} (h : o + n ≤ 27 ∨ 147 ≤ o) : xsl (zcel w f) o n = xsl w o n := by
  funext k
  simp only [xsl]
  by_cases hk : k < n
  · rw [if_pos hk, if_pos hk, zcel_o (by omega)]
  · rw [if_neg hk, if_neg hk]
theorem xsl_zc {w f : Nat → Int32} (h : ∀ k, 120 ≤ k → f k = 0) : xsl (zcel w f) 27 120 = f := by
  funext k
  simp only [xsl]
  by_cases hk : k < 120
  · rw [if_pos hk, zcel_c hk]
  · rw [if_neg hk, h k (by omega)]
/-- the work with R rows and C columns of the cells tc -/
def zlaid (w : Nat → Int32) (R C : Nat) (tc : Nat → Nat → Int32) : Nat → Int32 := fun k => if k = 4 then nI R else if k = 5 then nI C else if 27 ≤ k ∧ k < 147 then (if (k - 27) / 12 < R ∧ (k - 27) % 12 < C then tc ((k - 27) / 12) ((k - 27) % 12) else 0) else w k
theorem zlaid_o {w : Nat → Int32} {R C : Nat} {tc : Nat → Nat → Int32} {k : Nat} (h4 : k ≠ 4) (h5 : k ≠ 5) (h : k < 27 ∨ 147 ≤ k) : zlaid w R C tc k = w k := by
  unfold zlaid
  rw [if_neg h4, if_neg h5, if_neg (by omega)]
theorem zlaid_c {w : Nat → Int32} {R C r c : Nat} {tc : Nat → Nat → Int32} (hr : r < R) (hc : c < C) (hR : R ≤ 10) (hC : C ≤ 12) : zlaid w R C tc (27 + (r * 12 + c)) = tc r c := by
  unfold zlaid
  rw [if_neg (by omega), if_neg (by omega), if_pos (by omega), Nat.add_sub_cancel_left, show (r * 12 + c) / 12 = r by omega, show (r * 12 + c) % 12 = c by omega, if_pos ⟨hr, hc⟩]
theorem zlaid_4 {w : Nat → Int32} {R C : Nat} {tc : Nat → Nat → Int32} : zlaid w R C tc 4 = nI R := if_pos rfl
theorem zlaid_5 {w : Nat → Int32} {R C : Nat} {tc : Nat → Nat → Int32} : zlaid w R C tc 5 = nI C := rfl
theorem xag_laid {w g : Nat → Int32} {R C : Nat} {tc : Nat → Nat → Int32} (hR : R ≤ 10) (hC : C ≤ 12) (hg : ∀ r c, r < R → c < C → g (r * 12 + c) = tc r c) : xag (zcel (upd (upd w 4 (nI R)) 5 (nI C)) g) (zlaid w R C tc) := by
  have o : ∀ k, k < 27 ∨ 147 ≤ k → zcel (upd (upd w 4 (nI R)) 5 (nI C)) g k = zlaid w R C tc k := by
    intro k hk
    rw [zcel_o hk]
    by_cases h5 : k = 5
    · subst h5; rfl
    · rw [upd_ne h5]
      by_cases h4 : k = 4
      · subst h4; rfl
      · rw [upd_ne h4, zlaid_o h4 h5 hk]
  refine ⟨fun k h => o k (by omega), fun r c hr hc => ?_, fun k h => o _ (by omega), fun k h => o _ (by omega)⟩
  have e4 : zI (zlaid w R C tc) 4 = R := nI_clamp (by omega)
  have e5 : zI (zlaid w R C tc) 5 = C := nI_clamp (by omega)
  rw [e4] at hr
  rw [e5] at hc
  rw [zcel_c (by omega), hg r c hr hc, zlaid_c hr hc hR hC]
section P34b
variable {w : Nat → Int32} {sv : Nat → Nat → Int32} {qo qm ql : Int32} {co : Nat → Int32} {sx : xSx} {T : List xE}
theorem bH_zc {g : Nat → Int32} (h : ∀ k, 120 ≤ k → g k = 0) : (bHp w sv qo qm ql co sx T).set 3 (.inl (0, 120, .inl g)) = bHp (zcel w g) sv qo qm ql co sx T := by
  unfold bHp bWk
  rw [xsl_zc h, xsl_zo (w := w) (f := g) (o := 0) (n := 4) (by omega), xsl_zo (w := w) (f := g) (o := 9) (n := 6) (by omega), xsl_zo (w := w) (f := g) (o := 15) (n := 6) (by omega), xsl_zo (w := w) (f := g) (o := 21) (n := 6) (by omega), xsl_zo (w := w) (f := g) (o := 147) (n := 240) (by omega), xsl_zo (w := w) (f := g) (o := 387) (n := 48) (by omega), zcel_o (k := 4) (by omega), zcel_o (k := 5) (by omega), zcel_o (k := 6) (by omega), zcel_o (k := 7) (by omega), zcel_o (k := 8) (by omega)]
  rfl
theorem bH_rc {R C : Int32} : (bHp w sv qo qm ql co sx T).set 2 (.inr (0, [.ref 3, .int R, .int C])) = bHp (upd (upd w 4 R) 5 C) sv qo qm ql co sx T := by
  unfold bHp bWk
  rw [xsl_out (w := upd w 4 R) (i := 5) (v := C) (o := 27) (n := 120) (by decide), xsl_out (w := w) (i := 4) (v := R) (o := 27) (n := 120) (by decide), xsl_out (w := upd w 4 R) (i := 5) (v := C) (o := 0) (n := 4) (by decide), xsl_out (w := w) (i := 4) (v := R) (o := 0) (n := 4) (by decide), xsl_out (w := upd w 4 R) (i := 5) (v := C) (o := 9) (n := 6) (by decide), xsl_out (w := w) (i := 4) (v := R) (o := 9) (n := 6) (by decide), xsl_out (w := upd w 4 R) (i := 5) (v := C) (o := 15) (n := 6) (by decide), xsl_out (w := w) (i := 4) (v := R) (o := 15) (n := 6) (by decide), xsl_out (w := upd w 4 R) (i := 5) (v := C) (o := 21) (n := 6) (by decide), xsl_out (w := w) (i := 4) (v := R) (o := 21) (n := 6) (by decide), xsl_out (w := upd w 4 R) (i := 5) (v := C) (o := 147) (n := 240) (by decide), xsl_out (w := w) (i := 4) (v := R) (o := 147) (n := 240) (by decide), xsl_out (w := upd w 4 R) (i := 5) (v := C) (o := 387) (n := 48) (by decide), xsl_out (w := w) (i := 4) (v := R) (o := 387) (n := 48) (by decide), upd_at, upd_ne (k := 4) (i := 5) (by decide), upd_at, upd_ne (k := 6) (i := 5) (by decide), upd_ne (k := 6) (by decide), upd_ne (k := 7) (i := 5) (by decide), upd_ne (k := 7) (by decide), upd_ne (k := 8) (i := 5) (by decide), upd_ne (k := 8) (by decide)]
  rfl
theorem xmix_z {f : Nat → Int32} {o n : Nat} {k : Nat} (h : n ≤ k) : xmix f (xsl w o n) n k = 0 := by
  unfold xmix xsl
  rw [if_neg (by omega), if_neg (by omega)]
end P34b
/-- recoloured -/
def zrec (w : Nat → Int32) (a b : Nat) : Nat → Int32 := if a = b then w else zcel w (xlay (fun r c => xsw (nI a) (nI b) (xsl w 27 120 (r * 12 + c))) (xsl w 27 120) (zI w 4) (zI w 5))
def zrecN (w : Nat → Int32) (a b : Nat) : Nat := if a = b then 0 else xct2 (fun r c => decide (w (27 + (r * 12 + c)) = nI a ∨ w (27 + (r * 12 + c)) = nI b)) (zI w 5) (zI w 4)
section P34
variable {G : xG} {x : Nat} {w : Nat → Int32} {sv : Nat → Nat → Int32} {q m ln : Nat} {co : Nat → Int32} {sx : xSx} {T : List xE}
def oRec (s : xCS) (p r : Int32) : (Nat × Int32) × xCS := if xlt p 6 then (if xlt r 6 then ((0, nI (zrecN s.1 (pN p) (pN r))), cSav s (zrec s.1 (pN p) (pN r)) s.2.2.2.2.1) else ((1, 0), s)) else ((1, 0), s)
theorem S_B_recolour {p r : Int32} (I : xInv w) (hq : q < 6) (hm : m ≤ 6) : xMet G B_recolour [.ref 0, .int p, .int r] (bHp w sv (nI q) (nI m) (nI ln) co sx T) x 1 6 (xQc3 T (oRec (w, sv, q, m, ln, co) p r).1 (oRec (w, sv, q, m, ln, co) p r).2 xIA xIA) := by
  obtain ⟨R1, R2, R3⟩ := I.iR
  obtain ⟨C1, C2, C3⟩ := I.iC
  unfold oRec
  dsimp only
  by_cases g0 : xlt p 6
  · rw [if_pos g0]
    obtain ⟨a, a1, rfl⟩ := xlt_y (by decide) g0
    rw [pN_k (by omega)]
    by_cases g1 : xlt r 6
    · rw [if_pos g1]
      obtain ⟨b, b1, rfl⟩ := xlt_y (by decide) g1
      rw [pN_k (by omega)]
      by_cases hab : a = b
      · subst hab
        have e1 : zrec w a a = w := if_pos rfl
        have e2 : zrecN w a a = 0 := if_pos rfl
        rw [e1, e2]
        refine xw_iload_n 1 dX4_recolour_0 rfl rfl ?_
        refine xw_pS 4 dX4_recolour_1 rfl ok_B_isColour s_X4_91 (S_B_isColour_y a1) (bHp_len) rfl rfl rfl rfl rfl rfl ?_
        refine xw_if_eq 14 7 dX4_recolour_4 rfl rfl (fun h4 => absurd h4 (by decide)) (fun h4 => ?_)
        refine xw_iload_n 8 dX4_recolour_7 rfl rfl ?_
        refine xw_pS 11 dX4_recolour_8 rfl ok_B_isColour s_X4_91 (S_B_isColour_y a1) (bHp_len) rfl rfl rfl rfl rfl rfl ?_
        refine xw_if_ne 24 14 dX4_recolour_11 rfl rfl (fun h11 => ?_) (fun h11 => absurd h11 (by decide))
        refine xw_aload_n 25 dX4_recolour_24 rfl rfl rfl ?_
        refine xw_get 28 dX4_recolour_25 rfl f_X4_19 (rfl) rfl ?_
        refine xw_aload_n 29 dX4_recolour_28 rfl rfl rfl ?_
        refine xw_get 32 dX4_recolour_29 rfl f_X4_10 (rfl) rfl ?_
        refine xw_pVNv 35 dX4_recolour_32 rfl ok_H_save s_X4_61 (S_H_save hq hm) (bHp_len) (rfl) rfl rfl rfl rfl rfl rfl rfl ?_
        refine xw_aload_n 36 dX4_recolour_35 rfl rfl rfl ?_
        refine xw_get 39 dX4_recolour_36 rfl f_X4_10 (rfl) rfl ?_
        refine xw_get 42 dX4_recolour_39 rfl f_X4_65 (rfl) rfl ?_
        refine xw_iload_n 43 dX4_recolour_42 rfl rfl ?_
        refine xw_iload_n 44 dX4_recolour_43 rfl rfl ?_
        refine xw_pVN 47 dX4_recolour_44 rfl ok_C_swapColours s_X4_96 (S_C_swapColours_same) (bHp_len) (rfl) rfl rfl rfl rfl rfl rfl rfl ?_
        exact xw_ireturn dX4_recolour_47 rfl (⟨rfl, _, sx, xag_refl _, rfl⟩)
      · have e1 : zrec w a b = zcel w (xlay (fun r c => xsw (nI a) (nI b) (xsl w 27 120 (r * 12 + c))) (xsl w 27 120) (zI w 4) (zI w 5)) := if_neg hab
        have e2 : zrecN w a b = xct2 (fun r c => decide (w (27 + (r * 12 + c)) = nI a ∨ w (27 + (r * 12 + c)) = nI b)) (zI w 5) (zI w 4) := if_neg hab
        have hab2 : ¬ nI a = nI b := fun h => hab ((nI_eq (by omega) (by omega)).mp h)
        have hz : ∀ k, 120 ≤ k → xlay (fun r c => xsw (nI a) (nI b) (xsl w 27 120 (r * 12 + c))) (xsl w 27 120) (zI w 4) (zI w 5) k = 0 := by
          intro k hk
          unfold xlay
          rw [if_neg (by omega)]
          exact if_neg (by omega)
        have hsp := S_C_swapColours (G := G) (x := x) (hp := (bHp w (va_up sv (zrE q m) w) (nI (zrO q m)) (nI (zrM m)) (nI ln) co sx T)) (bHp_wk.cc I) bHp_wk.ce R2 R3 C2 C3 hab2
        rw [bH_zc hz, ← e1, xct2_congr (q := fun r c => decide (w (27 + (r * 12 + c)) = nI a ∨ w (27 + (r * 12 + c)) = nI b)) (fun r c hr hc => by rw [xsl_at (by omega)]), ← e2] at hsp
        refine xw_iload_n 1 dX4_recolour_0 rfl rfl ?_
        refine xw_pS 4 dX4_recolour_1 rfl ok_B_isColour s_X4_91 (S_B_isColour_y a1) (bHp_len) rfl rfl rfl rfl rfl rfl ?_
        refine xw_if_eq 14 7 dX4_recolour_4 rfl rfl (fun h4 => absurd h4 (by decide)) (fun h4 => ?_)
        refine xw_iload_n 8 dX4_recolour_7 rfl rfl ?_
        refine xw_pS 11 dX4_recolour_8 rfl ok_B_isColour s_X4_91 (S_B_isColour_y b1) (bHp_len) rfl rfl rfl rfl rfl rfl ?_
        refine xw_if_ne 24 14 dX4_recolour_11 rfl rfl (fun h11 => ?_) (fun h11 => absurd h11 (by decide))
        refine xw_aload_n 25 dX4_recolour_24 rfl rfl rfl ?_
        refine xw_get 28 dX4_recolour_25 rfl f_X4_19 (rfl) rfl ?_
        refine xw_aload_n 29 dX4_recolour_28 rfl rfl rfl ?_
        refine xw_get 32 dX4_recolour_29 rfl f_X4_10 (rfl) rfl ?_
        refine xw_pVNv 35 dX4_recolour_32 rfl ok_H_save s_X4_61 (S_H_save hq hm) (bHp_len) (rfl) rfl rfl rfl rfl rfl rfl rfl ?_
        refine xw_aload_n 36 dX4_recolour_35 rfl rfl rfl ?_
        refine xw_get 39 dX4_recolour_36 rfl f_X4_10 (rfl) rfl ?_
        refine xw_get 42 dX4_recolour_39 rfl f_X4_65 (rfl) rfl ?_
        refine xw_iload_n 43 dX4_recolour_42 rfl rfl ?_
        refine xw_iload_n 44 dX4_recolour_43 rfl rfl ?_
        refine xw_pVN 47 dX4_recolour_44 rfl ok_C_swapColours s_X4_96 (hsp) (bHp_len) (rfl) rfl rfl rfl rfl rfl rfl rfl ?_
        exact xw_ireturn dX4_recolour_47 rfl (⟨rfl, _, sx, xag_refl _, rfl⟩)
    · rw [if_neg g1]
      refine xw_iload_n 1 dX4_recolour_0 rfl rfl ?_
      refine xw_pS 4 dX4_recolour_1 rfl ok_B_isColour s_X4_91 (S_B_isColour_y a1) (bHp_len) rfl rfl rfl rfl rfl rfl ?_
      refine xw_if_eq 14 7 dX4_recolour_4 rfl rfl (fun h4 => absurd h4 (by decide)) (fun h4 => ?_)
      refine xw_iload_n 8 dX4_recolour_7 rfl rfl ?_
      refine xw_pS 11 dX4_recolour_8 rfl ok_B_isColour s_X4_91 (S_B_isColour_n (xlt_n g1)) (bHp_len) rfl rfl rfl rfl rfl rfl ?_
      refine xw_if_ne 24 14 dX4_recolour_11 rfl rfl (fun h11 => absurd (rfl) h11) (fun h11 => ?_)
      exact xw_throw dX4_recolour_14 dX4_recolour_17 dX4_recolour_18 dX4_recolour_20 dX4_recolour_23 t_X4_45 x_X4_94 rfl rfl rfl rfl rfl rfl (⟨rfl, w, sx, xag_refl w, rfl⟩)
  · rw [if_neg g0]
    refine xw_iload_n 1 dX4_recolour_0 rfl rfl ?_
    refine xw_pS 4 dX4_recolour_1 rfl ok_B_isColour s_X4_91 (S_B_isColour_n (xlt_n g0)) (bHp_len) rfl rfl rfl rfl rfl rfl ?_
    refine xw_if_eq 14 7 dX4_recolour_4 rfl rfl (fun h4 => ?_) (fun h4 => absurd (rfl) h4)
    exact xw_throw dX4_recolour_14 dX4_recolour_17 dX4_recolour_18 dX4_recolour_20 dX4_recolour_23 t_X4_45 x_X4_94 rfl rfl rfl rfl rfl rfl (⟨rfl, w, sx, xag_refl w, rfl⟩)
/-- the chart that was read -/
def zload (w co : Nat → Int32) (ln : Nat) : Nat → Int32 := zlaid w (zsr co ln + 1) (zwd co ln 0) (fun r c => nI (zcl co ln r c))
def oLoa (s : xCS) : (Nat × Int32) × xCS := if zwhole true s.2.2.2.2.2 s.2.2.2.2.1 = true then (if zok s.2.2.2.2.2 s.2.2.2.2.1 = true then ((0, nI (zsr s.2.2.2.2.2 s.2.2.2.2.1 + 1)), cSav s (zload s.1 s.2.2.2.2.2 s.2.2.2.2.1) 0) else ((2, 0), s)) else ((1, 0), s)
theorem zok_is {co : Nat → Int32} {n : Nat} (h : zok co n = true) : zsr co n + 1 ≤ 10 ∧ zwd co n 0 ≤ 12 := by
  unfold zok at h
  exact ⟨(of_decide_eq_true h).1, (of_decide_eq_true h).2.1⟩
theorem S_B_load (X : xTxt co ln) (hq : q < 6) (hm : m ≤ 6) : xMet G B_load [.ref 0] (bHp w sv (nI q) (nI m) (nI ln) co sx T) x 1 6 (xQc3 T (oLoa (w, sv, q, m, ln, co)).1 (oLoa (w, sv, q, m, ln, co)).2 xIA xIS) := by
  unfold oLoa
  dsimp only
  have hwh := S_T_isComplete (G := G) (x := x) (w := w) (sv := sv) (qo := nI q) (qm := nI m) (sx := sx) (T := T) (ch := true) X
  by_cases g0 : zwhole true co ln = true
  · rw [if_pos g0]
    rw [g0] at hwh
    have hrc := S_T_readChart (G := G) (x := x) (w := w) (sv := sv) (qo := nI q) (qm := nI m) (s1 := sx.1) (s2 := sx.2.1) (sc := sx.2.2.1) (sf := sx.2.2.2) (T := T) X g0
    by_cases g1 : zok co ln = true
    · rw [if_pos g1]
      rw [g1] at hrc
      obtain ⟨k1, k2⟩ := zok_is g1
      refine xw_aload_n 1 dX4_load_0 rfl rfl rfl ?_
      refine xw_get 4 dX4_load_1 rfl f_X4_26 (rfl) rfl ?_
      refine xw_iconst 5 (nI 1) dX4_load_4 rfl (xofI 1) ?_
      refine xw_pVN 8 dX4_load_5 rfl ok_T_isComplete s_X4_41 (hwh) (bHp_len) (rfl) rfl rfl rfl rfl rfl rfl rfl ?_
      refine xw_if_ne 21 11 dX4_load_8 rfl rfl (fun h8 => ?_) (fun h8 => absurd h8 (by decide))
      refine xw_aload_n 22 dX4_load_21 rfl rfl rfl ?_
      refine xw_get 25 dX4_load_22 rfl f_X4_26 (rfl) rfl ?_
      refine xw_aload_n 26 dX4_load_25 rfl rfl rfl ?_
      refine xw_get 29 dX4_load_26 rfl f_X4_33 (rfl) rfl ?_
      refine xw_aload_n 30 dX4_load_29 rfl rfl rfl ?_
      refine xw_get 33 dX4_load_30 rfl f_X4_37 (rfl) rfl ?_
      refine xw_qVN 36 dX4_load_33 rfl ok_T_readChart s_X4_52 (hrc) (fun E hp9 q9 => by obtain ⟨sx9, _, q9, _⟩ := q9; cases q9) (fun o9 hp9 q9 => by obtain ⟨sx9, q9, _⟩ := q9; rw [q9]; exact bHp_len) (rfl) rfl rfl rfl rfl rfl rfl rfl (fun ov9 hp9 q9 => ?_)
      obtain ⟨sx2, rfl, e2, e3⟩ := q9
      cases e2
      obtain ⟨e4, e5, e6⟩ := e3 rfl
      have A9 : xag (zcel (upd (upd w 4 (nI (zsr co ln + 1))) 5 (nI (zwd co ln 0))) (xmix sx2.2.2.1 (xsl w 27 120) 120)) (zload w co ln) := by
        refine xag_laid k1 k2 (fun r c hr hc => ?_)
        unfold xmix
        rw [if_pos (by omega)]
        exact e6 r c hr hc
      have h4 : (zcel (upd (upd w 4 (nI (zsr co ln + 1))) 5 (nI (zwd co ln 0))) (xmix sx2.2.2.1 (xsl w 27 120) 120)) 4 = nI (zsr co ln + 1) := rfl
      have e9 : ((bHp w (va_up sv (zrE q m) w) (nI (zrO q m)) (nI (zrM m)) (nI ln) co sx2 T).set 2 (.inr (0, [.ref 3, .int sx2.1, .int sx2.2.1]))).set 3 (.inl (0, 120, .inl (xmix sx2.2.2.1 (xsl w 27 120) 120))) = (bHp (zcel (upd (upd w 4 (nI (zsr co ln + 1))) 5 (nI (zwd co ln 0))) (xmix sx2.2.2.1 (xsl w 27 120) 120)) (va_up sv (zrE q m) w) (nI (zrO q m)) (nI (zrM m)) (nI ln) co sx2 T) := by
        rw [bH_rc, e4, e5, bH_zc (fun k hk => xmix_z hk)]
      refine xw_if_ne 49 39 dX4_load_36 rfl rfl (fun h36 => ?_) (fun h36 => absurd h36 (by decide))
      refine xw_aload_n 50 dX4_load_49 rfl rfl rfl ?_
      refine xw_get 53 dX4_load_50 rfl f_X4_19 (rfl) rfl ?_
      refine xw_aload_n 54 dX4_load_53 rfl rfl rfl ?_
      refine xw_get 57 dX4_load_54 rfl f_X4_10 (rfl) rfl ?_
      refine xw_pVNv 60 dX4_load_57 rfl ok_H_save s_X4_61 (S_H_save hq hm) (bHp_len) (rfl) rfl rfl rfl rfl rfl rfl rfl ?_
      refine xw_aload_n 61 dX4_load_60 rfl rfl rfl ?_
      refine xw_get 64 dX4_load_61 rfl f_X4_10 (rfl) rfl ?_
      refine xw_get 67 dX4_load_64 rfl f_X4_65 (rfl) rfl ?_
      refine xw_aload_n 68 dX4_load_67 rfl rfl rfl ?_
      refine xw_get 71 dX4_load_68 rfl f_X4_33 (rfl) rfl ?_
      refine xw_pVNv 74 dX4_load_71 rfl ok_C_copyFrom s_X4_68 (S_C_copyFrom (h9 := (bHp (zcel (upd (upd w 4 (nI (zsr co ln + 1))) 5 (nI (zwd co ln 0))) (xmix sx2.2.2.1 (xsl w 27 120) 120)) (va_up sv (zrE q m) w) (nI (zrO q m)) (nI (zrM m)) (nI ln) co sx2 T)) rfl rfl rfl rfl (by decide) (by decide) e9) (bHp_len) (rfl) rfl rfl rfl rfl rfl rfl rfl ?_
      refine xw_aload_n 75 dX4_load_74 rfl rfl rfl ?_
      refine xw_get 78 dX4_load_75 rfl f_X4_26 (rfl) rfl ?_
      refine xw_pVNv 81 dX4_load_78 rfl ok_T_empty s_X4_72 (S_T_empty) (bHp_len) (rfl) rfl rfl rfl rfl rfl rfl rfl ?_
      refine xw_aload_n 82 dX4_load_81 rfl rfl rfl ?_
      refine xw_get 85 dX4_load_82 rfl f_X4_10 (rfl) rfl ?_
      refine xw_get 88 dX4_load_85 rfl f_X4_65 (rfl) rfl ?_
      refine xw_get 91 dX4_load_88 rfl f_X4_75 (rfl) rfl ?_
      rw [h4]
      exact xw_ireturn dX4_load_91 rfl (⟨rfl, _, _, A9, rfl⟩)
    · rw [if_neg g1]
      have g2 : zok co ln = false := by simpa using g1
      rw [g2] at hrc
      refine xw_aload_n 1 dX4_load_0 rfl rfl rfl ?_
      refine xw_get 4 dX4_load_1 rfl f_X4_26 (rfl) rfl ?_
      refine xw_iconst 5 (nI 1) dX4_load_4 rfl (xofI 1) ?_
      refine xw_pVN 8 dX4_load_5 rfl ok_T_isComplete s_X4_41 (hwh) (bHp_len) (rfl) rfl rfl rfl rfl rfl rfl rfl ?_
      refine xw_if_ne 21 11 dX4_load_8 rfl rfl (fun h8 => ?_) (fun h8 => absurd h8 (by decide))
      refine xw_aload_n 22 dX4_load_21 rfl rfl rfl ?_
      refine xw_get 25 dX4_load_22 rfl f_X4_26 (rfl) rfl ?_
      refine xw_aload_n 26 dX4_load_25 rfl rfl rfl ?_
      refine xw_get 29 dX4_load_26 rfl f_X4_33 (rfl) rfl ?_
      refine xw_aload_n 30 dX4_load_29 rfl rfl rfl ?_
      refine xw_get 33 dX4_load_30 rfl f_X4_37 (rfl) rfl ?_
      refine xw_qVN 36 dX4_load_33 rfl ok_T_readChart s_X4_52 (hrc) (fun E hp9 q9 => by obtain ⟨sx9, _, q9, _⟩ := q9; cases q9) (fun o9 hp9 q9 => by obtain ⟨sx9, q9, _⟩ := q9; rw [q9]; exact bHp_len) (rfl) rfl rfl rfl rfl rfl rfl rfl (fun ov9 hp9 q9 => ?_)
      obtain ⟨sx2, rfl, e2, -⟩ := q9
      cases e2
      refine xw_if_ne 49 39 dX4_load_36 rfl rfl (fun h36 => absurd (rfl) h36) (fun h36 => ?_)
      exact xw_throw dX4_load_39 dX4_load_42 dX4_load_43 dX4_load_45 dX4_load_48 t_X4_56 x_X4_58 rfl rfl rfl rfl rfl rfl (⟨rfl, w, sx2, xag_refl w, rfl⟩)
  · rw [if_neg g0]
    have g1 : zwhole true co ln = false := by simpa using g0
    rw [g1] at hwh
    refine xw_aload_n 1 dX4_load_0 rfl rfl rfl ?_
    refine xw_get 4 dX4_load_1 rfl f_X4_26 (rfl) rfl ?_
    refine xw_iconst 5 (nI 1) dX4_load_4 rfl (xofI 1) ?_
    refine xw_pVN 8 dX4_load_5 rfl ok_T_isComplete s_X4_41 (hwh) (bHp_len) (rfl) rfl rfl rfl rfl rfl rfl rfl ?_
    refine xw_if_ne 21 11 dX4_load_8 rfl rfl (fun h8 => absurd (rfl) h8) (fun h8 => ?_)
    exact xw_throw dX4_load_11 dX4_load_14 dX4_load_15 dX4_load_17 dX4_load_20 t_X4_45 x_X4_47 rfl rfl rfl rfl rfl rfl (⟨rfl, w, sx, xag_refl w, rfl⟩)
end P34

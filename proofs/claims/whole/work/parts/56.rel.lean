/-! ===== the class and the model, side by side ===== -/
theorem xag_435 {z y : Nat → Int32} (I : xInv z) (h : ∀ k, k < 435 → y k = z k) : xag y z := by
  have h4 := I.iR.2.2
  have h5 := I.iC.2.2
  have h6 := I.iM.2.2
  have h7 := I.iK.2.2
  exact ⟨fun k hk => h k (by omega), fun r c hr hc => h _ (by omega), fun k hk => h _ (by omega), fun k hk => h _ (by omega)⟩
/-- the model's saved state i -/
def mold (hi : Nat → Int32) (i : Nat) : Nat → Int32 := fun k => hi (435 * i + k)
def xRel (s : xCS) (m : xMS) : Prop :=
  xInv m.1 ∧ xag s.1 m.1 ∧ s.2.2.1 < 6 ∧ s.2.2.2.1 ≤ 6 ∧ m.2.2.1 = s.2.2.2.1 ∧ m.2.2.2.1 = s.2.2.2.2.1 ∧ m.2.2.2.2 = s.2.2.2.2.2 ∧ xTxt m.2.2.2.2 m.2.2.2.1 ∧
  ∀ i, i < s.2.2.2.1 → xInv (mold m.2.1 i) ∧ xag (s.2.1 ((s.2.2.1 + i) % 6)) (mold m.2.1 i)
theorem xag_to {w z y : Nat → Int32} (I : xInv z) (A : xag w z) (h : ∀ k, k < 435 → y k = z k) : xInv y ∧ xag w y := by
  have B := xag_435 I h
  exact ⟨B.inv I, A.trans B.symm⟩
theorem zrE_6 {q m : Nat} (hq : q < 6) (h : 6 ≤ m) : zrE q m = q := by
  unfold zrE
  rw [if_pos h]
  omega
theorem zrE_l {q m : Nat} (h : ¬ 6 ≤ m) : zrE q m = (q + m) % 6 := if_neg h
theorem zrO_6 {q m : Nat} (h : 6 ≤ m) : zrO q m = (q + 1) % 6 := if_pos h
theorem zrO_l {q m : Nat} (h : ¬ 6 ≤ m) : zrO q m = q := if_neg h
theorem zrM_6 {m : Nat} (h : 6 ≤ m) : zrM m = 6 := if_pos h
theorem zrM_l {m : Nat} (h : ¬ 6 ≤ m) : zrM m = m + 1 := if_neg h
theorem vaup_at {f : Nat → Nat → Int32} {i : Nat} {v : Nat → Int32} : va_up f i v i = v := if_pos rfl
theorem vaup_ne {f : Nat → Nat → Int32} {i j : Nat} {v : Nat → Int32} (h : j ≠ i) : va_up f i v j = f j := if_neg h
theorem xRel_sav {w z : Nat → Int32} {sv : Nat → Nat → Int32} {q n l l' : Nat} {co hi : Nat → Int32} {w' z' : Nat → Int32} (R : xRel (w, sv, q, n, l, co) (z, hi, n, l, co)) (I' : xInv z') (A' : xag w' z') (X' : xTxt co l') : xRel (cSav (w, sv, q, n, l, co) w' l') (mSav (z, hi, n, l, co) z' l') := by
  obtain ⟨I, A, hq, hn, -, -, -, X, H⟩ := R
  dsimp only at I A hq hn X H
  unfold cSav mSav
  dsimp only
  by_cases h6 : 6 ≤ n
  · have e6 : n = 6 := by omega
    subst e6
    rw [zrE_6 hq h6, zrO_6 h6, zrM_6 h6, show mhis z hi 6 = mcp z (msh hi 2175) 2175 435 from if_pos h6]
    refine ⟨I', A', Nat.mod_lt _ (by decide), Nat.le_refl _, rfl, rfl, rfl, X', fun i hi9 => ?_⟩
    dsimp only at hi9 ⊢
    by_cases e5 : i = 5
    · subst e5
      have er : ((q + 1) % 6 + 5) % 6 = q := by omega
      rw [er, vaup_at]
      refine xag_to I A (fun k hk => ?_)
      unfold mold mcp
      rw [if_pos (by omega)]
      exact congrArg z (by omega)
    · have er : ((q + 1) % 6 + i) % 6 = (q + (i + 1)) % 6 := by omega
      have ne : (q + (i + 1)) % 6 ≠ q := by omega
      rw [er, vaup_ne ne]
      obtain ⟨h1, h2⟩ := H (i + 1) (by omega)
      refine xag_to h1 h2 (fun k hk => ?_)
      unfold mold mcp
      rw [if_neg (by omega)]
      unfold msh
      rw [if_pos (by omega)]
      exact congrArg hi (by omega)
  · rw [zrE_l h6, zrO_l h6, zrM_l h6, show mhis z hi n = mcp z hi (435 * n) 435 from if_neg h6]
    refine ⟨I', A', hq, by dsimp only; omega, rfl, rfl, rfl, X', fun i hi9 => ?_⟩
    dsimp only at hi9 ⊢
    by_cases e5 : i = n
    · subst e5
      rw [vaup_at]
      refine xag_to I A (fun k hk => ?_)
      unfold mold mcp
      rw [if_pos (by omega), Nat.add_sub_cancel_left]
    · have ne : (q + i) % 6 ≠ (q + n) % 6 := by omega
      rw [vaup_ne ne]
      obtain ⟨h1, h2⟩ := H i (by omega)
      refine xag_to h1 h2 (fun k hk => ?_)
      unfold mold mcp
      rw [if_neg (by omega)]
/-- the two go on alike -/
def xSame (r : (Nat × Int32) × xCS) (r' : (Nat × Int32) × xMS) : Prop := r.1 = r'.1 ∧ xRel r.2 r'.2
theorem xRel_eq {s : xCS} {m : xMS} (R : xRel s m) : m = (m.1, m.2.1, s.2.2.2.1, s.2.2.2.2.1, s.2.2.2.2.2) := by
  obtain ⟨-, -, -, -, e1, e2, e3, -, -⟩ := R
  rw [← e1, ← e2, ← e3]
theorem xag_upd {w z : Nat → Int32} {i : Nat} {v : Int32} (A : xag w z) (h : i < 4 ∨ 8 ≤ i) : xag (upd w i v) (upd z i v) := by
  have e : ∀ k, k = 4 ∨ k = 5 ∨ k = 6 ∨ k = 7 → zI (upd z i v) k = zI z k := fun k hk => by unfold zI; rw [upd_ne (by omega)]
  have o : ∀ k, w k = z k → upd w i v k = upd z i v k := fun k hk => by
    by_cases q : k = i
    · subst q; rw [upd_at, upd_at]
    · rw [upd_ne q, upd_ne q]; exact hk
  refine ⟨fun k hk => o k (A.1 k hk), fun r c hr hc => o _ (A.2.1 r c ?_ ?_), fun k hk => o _ (A.2.2.1 k ?_), fun k hk => o _ (A.2.2.2 k ?_)⟩
  · rw [e 4 (by omega)] at hr; exact hr
  · rw [e 5 (by omega)] at hc; exact hc
  · rw [e 6 (by omega)] at hk; exact hk
  · rw [e 7 (by omega)] at hk; exact hk
section P56
variable {w z : Nat → Int32} {sv : Nat → Nat → Int32} {q n l : Nat} {co hi : Nat → Int32}
theorem Q_app {p : Int32} (R : xRel (w, sv, q, n, l, co) (z, hi, n, l, co)) : xSame (oApp (w, sv, q, n, l, co) p) (oAppM (z, hi, n, l, co) p) := by
  obtain ⟨I, A, hq, hn, e1, e2, e3, X, H⟩ := R
  dsimp only at I A hq hn X H
  unfold oApp oAppM
  dsimp only
  by_cases g0 : xin p 33 126
  · rw [if_pos g0, if_pos g0]
    by_cases g1 : l < 60
    · rw [if_pos g1, if_pos g1]
      refine ⟨rfl, I, A, hq, hn, rfl, rfl, rfl, ⟨?_, fun i hi9 => ?_⟩, H⟩
      · dsimp only; omega
      · dsimp only at hi9 ⊢
        by_cases e : i = l
        · subst e
          obtain ⟨k, k1, k2, rfl⟩ := xin_y (by decide) (by decide) g0
          exact xnn_k upd_at (by omega) k1 k2
        · exact xnn_ag (upd_ne e) (X.2 i (by omega))
    · rw [if_neg g1, if_neg g1]
      exact ⟨rfl, I, A, hq, hn, rfl, rfl, rfl, X, H⟩
  · rw [if_neg g0, if_neg g0]
    exact ⟨rfl, I, A, hq, hn, rfl, rfl, rfl, X, H⟩
theorem Q_und (R : xRel (w, sv, q, n, l, co) (z, hi, n, l, co)) : xSame (oUnd (w, sv, q, n, l, co)) (oUndM (z, hi, n, l, co)) := by
  obtain ⟨I, A, hq, hn, e1, e2, e3, X, H⟩ := R
  dsimp only at I A hq hn X H
  unfold oUnd oUndM
  dsimp only
  by_cases g0 : n = 0
  · rw [if_pos g0, if_pos g0]
    exact ⟨rfl, I, A, hq, hn, rfl, rfl, rfl, X, H⟩
  · rw [if_neg g0, if_neg g0]
    obtain ⟨h1, h2⟩ := H (n - 1) (by omega)
    obtain ⟨k1, k2⟩ := xag_to (y := xmix (fun k => hi (435 * (n - 1) + k)) z 435) h1 h2 (fun k hk => xmix_at hk)
    exact ⟨rfl, k1, k2, hq, by dsimp only; omega, rfl, rfl, rfl, X, fun i hi9 => H i (by dsimp only at hi9; omega)⟩
theorem Q_set {p v : Int32} (R : xRel (w, sv, q, n, l, co) (z, hi, n, l, co)) : xSame (oSet (w, sv, q, n, l, co) p v) (oSetM (z, hi, n, l, co) p v) := by
  have R0 := R
  obtain ⟨I, A, hq, hn, e1, e2, e3, X, H⟩ := R
  dsimp only at I A hq hn X H
  unfold oSet oSetM
  dsimp only
  by_cases g0 : xlt p 4
  · rw [if_pos g0, if_pos g0]
    obtain ⟨a, a1, rfl⟩ := xlt_y (by decide) g0
    rw [pN_k (by omega)]
    by_cases g1 : xin v (zlo a) (zhi a)
    · rw [if_pos g1, if_pos g1]
      have hh : zhi a ≤ 240 ∧ zlo a ≤ 240 := by
        rcases (show a = 0 ∨ a = 1 ∨ a = 2 ∨ a = 3 by omega) with rfl | rfl | rfl | rfl <;> decide
      obtain ⟨k, k1, k2, rfl⟩ := xin_y (by omega) (by omega) g1
      refine ⟨?_, xRel_sav R0 (zset_inv I a1 k1 k2) (xag_upd A (by omega)) X⟩
      show (0, w a) = (0, z a)
      rw [A.1 a (by omega)]
    · rw [if_neg g1, if_neg g1]
      exact ⟨rfl, R0⟩
  · rw [if_neg g0, if_neg g0]
    exact ⟨rfl, R0⟩
theorem zbuy_inv {c : Nat} {v : Int32} (I : xInv z) (hc : c < 6) : xInv (zbuy z c v) := by
  have e : ∀ k, k < 9 ∨ 27 ≤ k → zbuy z c v k = z k := fun k hk => by unfold zbuy; rw [upd_ne (by omega), upd_ne (by omega)]
  have i4 : zI (zbuy z c v) 4 = zI z 4 := by unfold zI; rw [e 4 (by omega)]
  have i5 : zI (zbuy z c v) 5 = zI z 5 := by unfold zI; rw [e 5 (by omega)]
  refine xInv_of I (xnn_ag (e 0 (by omega)) I.iA) (xnn_ag (e 1 (by omega)) I.iS) (xnn_ag (e 2 (by omega)) I.iH) (xnn_ag (e 3 (by omega)) I.iD) (xnn_ag (e 4 (by omega)) I.iR) (xnn_ag (e 5 (by omega)) I.iC) (e 6 (by omega)) (e 7 (by omega)) (fun k hk => e k (by omega)) (fun r c hr hc => ?_)
  rw [i4] at hr
  rw [i5] at hc
  exact xnn_ag (e _ (by omega)) (I.ic r c hr hc)
theorem Q_buy {p r : Int32} (R : xRel (w, sv, q, n, l, co) (z, hi, n, l, co)) : xSame (oBuy (w, sv, q, n, l, co) p r) (oBuyM (z, hi, n, l, co) p r) := by
  have R0 := R
  obtain ⟨I, A, hq, hn, e1, e2, e3, X, H⟩ := R
  dsimp only at I A hq hn X H
  unfold oBuy oBuyM
  dsimp only
  by_cases g0 : xlt p 6
  · rw [if_pos g0, if_pos g0]
    obtain ⟨a, a1, rfl⟩ := xlt_y (by decide) g0
    rw [pN_k (by omega)]
    by_cases g1 : xin r 1 100
    · rw [if_pos g1, if_pos g1]
      have hw := A.1 (15 + a) (by omega)
      by_cases g2 : ¬ nI 600 < z (15 + a) + r
      · rw [if_pos (show ¬ nI 600 < w (15 + a) + r by rw [hw]; exact g2), if_pos g2]
        have B : xag (zbuy w a r) (zbuy z a r) := by
          unfold zbuy
          rw [A.1 (15 + a) (by omega), upd_ne (f := w) (k := 9 + a) (i := 15 + a) (by omega), upd_ne (f := z) (k := 9 + a) (i := 15 + a) (by omega), A.1 (9 + a) (by omega)]
          exact xag_upd (xag_upd A (by omega)) (by omega)
        refine ⟨?_, xRel_sav R0 (zbuy_inv I a1) B X⟩
        show (0, zbuy w a r (9 + a)) = (0, zbuy z a r (9 + a))
        rw [B.1 (9 + a) (by omega)]
      · rw [if_neg (show ¬ ¬ nI 600 < w (15 + a) + r by rw [hw]; exact g2), if_neg g2]
        exact ⟨rfl, R0⟩
    · rw [if_neg g1, if_neg g1]
      exact ⟨rfl, R0⟩
  · rw [if_neg g0, if_neg g0]
    exact ⟨rfl, R0⟩
theorem zrec_c {a b r c : Nat} (I : xInv z) (hab : ¬ a = b) (hr : r < zI z 4) (hc : c < zI z 5) : zrec z a b (27 + (r * 12 + c)) = xsw (nI a) (nI b) (z (27 + (r * 12 + c))) := by
  have hR := I.iR.2.2
  have hC := I.iC.2.2
  unfold zrec
  rw [if_neg hab, zcel_c (by omega)]
  unfold xlay
  rw [show (r * 12 + c) / 12 = r by omega, show (r * 12 + c) % 12 = c by omega, if_pos ⟨hr, hc⟩]
  show xsw (nI a) (nI b) (xsl z 27 120 (r * 12 + c)) = _
  rw [xsl_at (by omega)]
theorem zrec_o {a b k : Nat} (h : k < 27 ∨ 147 ≤ k) : zrec z a b k = z k := by
  unfold zrec
  by_cases hab : a = b
  · rw [if_pos hab]
  · rw [if_neg hab, zcel_o h]
theorem zrec_inv {a b : Nat} (I : xInv z) (ha : a < 6) (hb : b < 6) : xInv (zrec z a b) := by
  have i4 : zI (zrec z a b) 4 = zI z 4 := by unfold zI; rw [zrec_o (by omega)]
  have i5 : zI (zrec z a b) 5 = zI z 5 := by unfold zI; rw [zrec_o (by omega)]
  refine xInv_of I (xnn_ag (zrec_o (by omega)) I.iA) (xnn_ag (zrec_o (by omega)) I.iS) (xnn_ag (zrec_o (by omega)) I.iH) (xnn_ag (zrec_o (by omega)) I.iD) (xnn_ag (zrec_o (by omega)) I.iR) (xnn_ag (zrec_o (by omega)) I.iC) (zrec_o (by omega)) (zrec_o (by omega)) (fun k hk => zrec_o (by omega)) (fun r c hr hc => ?_)
  rw [i4] at hr
  rw [i5] at hc
  have hcell := I.ic r c hr hc
  by_cases hab : a = b
  · have e : zrec z a b = z := if_pos hab
    rw [e]; exact hcell
  · have e := zrec_c I hab hr hc
    unfold xsw at e
    by_cases h1 : z (27 + (r * 12 + c)) = nI a
    · rw [if_pos h1] at e; exact xnn_k e (by omega) (by omega) (by omega)
    · rw [if_neg h1] at e
      by_cases h2 : z (27 + (r * 12 + c)) = nI b
      · rw [if_pos h2] at e; exact xnn_k e (by omega) (by omega) (by omega)
      · rw [if_neg h2] at e; exact xnn_ag e hcell
theorem Q_rec {p r : Int32} (R : xRel (w, sv, q, n, l, co) (z, hi, n, l, co)) : xSame (oRec (w, sv, q, n, l, co) p r) (oRecM (z, hi, n, l, co) p r) := by
  have R0 := R
  obtain ⟨I, A, hq, hn, e1, e2, e3, X, H⟩ := R
  dsimp only at I A hq hn X H
  unfold oRec oRecM
  dsimp only
  by_cases g0 : xlt p 6
  · rw [if_pos g0, if_pos g0]
    obtain ⟨a, a1, rfl⟩ := xlt_y (by decide) g0
    rw [pN_k (by omega)]
    by_cases g1 : xlt r 6
    · rw [if_pos g1, if_pos g1]
      obtain ⟨b, b1, rfl⟩ := xlt_y (by decide) g1
      rw [pN_k (by omega)]
      have J := A.inv I
      have i4 := A.i (show 4 < 27 by decide)
      have i5 := A.i (show 5 < 27 by decide)
      have i6 := A.i (show 6 < 27 by decide)
      have i7 := A.i (show 7 < 27 by decide)
      have z4 : zI (zrec z a b) 4 = zI z 4 := by unfold zI; rw [zrec_o (by omega)]
      have z5 : zI (zrec z a b) 5 = zI z 5 := by unfold zI; rw [zrec_o (by omega)]
      have z6 : zI (zrec z a b) 6 = zI z 6 := by unfold zI; rw [zrec_o (by omega)]
      have z7 : zI (zrec z a b) 7 = zI z 7 := by unfold zI; rw [zrec_o (by omega)]
      have B : xag (zrec w a b) (zrec z a b) := by
        refine ⟨fun k hk => ?_, fun r c hr hc => ?_, fun k hk => ?_, fun k hk => ?_⟩
        · rw [zrec_o (by omega), zrec_o (by omega)]; exact A.1 k hk
        · rw [z4] at hr
          rw [z5] at hc
          by_cases hab : a = b
          · rw [show zrec w a b = w from if_pos hab, show zrec z a b = z from if_pos hab]
            exact A.2.1 r c hr hc
          · rw [zrec_c J hab (by omega) (by omega), zrec_c I hab hr hc, A.2.1 r c hr hc]
        · rw [z6] at hk
          rw [zrec_o (by omega), zrec_o (by omega)]; exact A.2.2.1 k hk
        · rw [z7] at hk
          rw [zrec_o (by omega), zrec_o (by omega)]; exact A.2.2.2 k hk
      refine ⟨?_, xRel_sav R0 (zrec_inv I a1 b1) B X⟩
      have e : zrecN w a b = zrecN z a b := by
        unfold zrecN
        rw [i4, i5, xct2_congr (fun r c hr hc => by rw [A.2.1 r c hr hc])]
      rw [e]
    · rw [if_neg g1, if_neg g1]
      exact ⟨rfl, R0⟩
  · rw [if_neg g0, if_neg g0]
    exact ⟨rfl, R0⟩
theorem zlaid_ag {C D : Nat} {f g : Nat → Nat → Int32} (A : xag w z) (h2 : C ≤ 10) (h4 : D ≤ 12) (h : ∀ r c, r < C → c < D → f r c = g r c) : xag (zlaid w C D f) (zlaid z C D g) := by
  have e4 : zI (zlaid z C D g) 4 = C := zI_k zlaid_4 (by omega)
  have e5 : zI (zlaid z C D g) 5 = D := zI_k zlaid_5 (by omega)
  have e6 : zI (zlaid z C D g) 6 = zI z 6 := by unfold zI; rw [zlaid_o (by decide) (by decide) (by omega)]
  have e7 : zI (zlaid z C D g) 7 = zI z 7 := by unfold zI; rw [zlaid_o (by decide) (by decide) (by omega)]
  refine ⟨fun k hk => ?_, fun r c hr hc => ?_, fun k hk => ?_, fun k hk => ?_⟩
  · by_cases h4 : k = 4
    · subst h4; rw [zlaid_4, zlaid_4]
    · by_cases h5 : k = 5
      · subst h5; rw [zlaid_5, zlaid_5]
      · rw [zlaid_o h4 h5 (by omega), zlaid_o h4 h5 (by omega)]
        exact A.1 k hk
  · rw [e4] at hr
    rw [e5] at hc
    rw [zlaid_c hr hc h2 h4, zlaid_c hr hc h2 h4]
    exact h r c hr hc
  · rw [e6] at hk
    rw [zlaid_o (by omega) (by omega) (by omega), zlaid_o (by omega) (by omega) (by omega)]
    exact A.2.2.1 k hk
  · rw [e7] at hk
    rw [zlaid_o (by omega) (by omega) (by omega), zlaid_o (by omega) (by omega) (by omega)]
    exact A.2.2.2 k hk
theorem Q_tur {p : Int32} (R : xRel (w, sv, q, n, l, co) (z, hi, n, l, co)) : xSame (oTur (w, sv, q, n, l, co) p) (oTurM (z, hi, n, l, co) p) := by
  have R0 := R
  obtain ⟨I, A, hq, hn, e1, e2, e3, X, H⟩ := R
  dsimp only at I A hq hn X H
  have i4 := A.i (show 4 < 27 by decide)
  have i5 := A.i (show 5 < 27 by decide)
  obtain ⟨R1, R2, R3⟩ := I.iR
  obtain ⟨C1, C2, C3⟩ := I.iC
  unfold oTur oTurM
  dsimp only
  by_cases g0 : xlt p 5
  · rw [if_pos g0, if_pos g0]
    obtain ⟨a, a1, rfl⟩ := xlt_y (by decide) g0
    rw [pN_k (by omega), i5]
    by_cases g1 : a ≠ 4 ∨ zI z 5 ≤ 10
    · rw [if_pos g1, if_pos g1]
      have er : zTR w a = zTR z a := by unfold zTR; rw [i4, i5]
      have ec : zTC w a = zTC z a := by unfold zTC; rw [i4, i5]
      have B : xag (zturn w a) (zturn z a) := by
        unfold zturn
        rw [er, ec, i4, i5]
        refine zlaid_ag A (by unfold zTR; split <;> omega) (by unfold zTC; split <;> omega) (fun r c hr hc => ?_)
        exact xtc_congr (fun r c hr hc => A.2.1 r c hr hc) a1 hr hc
      refine ⟨?_, xRel_sav R0 (zturn_inv I a1 (by omega)) B X⟩
      rw [er]
    · rw [if_neg g1, if_neg g1]
      exact ⟨rfl, R0⟩
  · rw [if_neg g0, if_neg g0]
    exact ⟨rfl, R0⟩
theorem xTxt_0 : xTxt co 0 := ⟨Nat.zero_le _, fun i hi => absurd hi (Nat.not_lt_zero _)⟩
theorem Q_loa (R : xRel (w, sv, q, n, l, co) (z, hi, n, l, co)) : xSame (oLoa (w, sv, q, n, l, co)) (oLoaM (z, hi, n, l, co)) := by
  have R0 := R
  obtain ⟨I, A, hq, hn, e1, e2, e3, X, H⟩ := R
  dsimp only at I A hq hn X H
  unfold oLoa oLoaM
  dsimp only
  by_cases g0 : zwhole true co l = true
  · rw [if_pos g0, if_pos g0]
    by_cases g1 : zok co l = true
    · rw [if_pos g1, if_pos g1]
      obtain ⟨k1, k2⟩ := zok_is g1
      have hz := zwhole_ps g0
      have h0 : 1 ≤ zwd co l 0 := by
        have h2 : zps true co l = some (true, 0) := of_decide_eq_true g0
        have hkw : zwd co l (zsr co l) = zwd co l 0 := by
          unfold zok at g1
          exact (of_decide_eq_true g1).2.2 _ (by omega)
        cases l with
        | zero => cases h2
        | succ k =>
          obtain ⟨s0, hs0⟩ := zps_dn hz (show k ≤ k + 1 by omega)
          have h3 := zps_s hs0
          rw [h2] at h3
          have hlet : zlet co k := by
            refine ⟨fun q => ?_, decide_eq_false (fun q => ?_)⟩
            · unfold zst at h3
              rw [if_pos q] at h3
              split at h3 <;> cases h3
            · unfold zst at h3
              rw [if_neg (by omega), if_pos q] at h3
              split at h3
              · rename_i hh
                have := Option.some.inj h3
                have := congrArg Prod.snd this
                dsimp only at this
                omega
              · cases h3
          have hy := zwd_y hlet
          rw [zsr_l hlet] at hkw
          have : 1 ≤ max 1 (znm co k) := Nat.le_max_left _ _
          omega
      refine ⟨rfl, xRel_sav R0 (zlaid_inv I (by omega) k1 h0 k2 (fun r c hr hc => ⟨zcl co l r c, ?_, rfl⟩)) (zlaid_ag A k1 k2 (fun r c hr hc => rfl)) xTxt_0⟩
      have := zcl_lt hz r l (Nat.le_refl _) c
      omega
    · rw [if_neg g1, if_neg g1]
      exact ⟨rfl, R0⟩
  · rw [if_neg g0, if_neg g0]
    exact ⟨rfl, R0⟩
theorem zon_congr {fc : Nat → Nat} (A : xag w z) {k : Nat} (hk : w k = z k) : ∀ {i : Nat}, (∀ j, j < i → fc j < 6) → zon w fc i k = zon z fc i k
  | 0, _ => hk
  | i + 1, hf => by
    have h1 := hf i (by omega)
    have ih := zon_congr A hk (i := i) (fun j hj => hf j (by omega))
    have ih9 := zon_congr A (A.1 (9 + fc i) (by omega)) (i := i) (fun j hj => hf j (by omega))
    unfold zon
    rw [A.i (show 6 < 27 by decide), ih9]
    by_cases e : k = 9 + fc i
    · subst e; rw [upd_at, upd_at]
    · rw [upd_ne e, upd_ne e]
      by_cases e2 : k = 147 + (zI z 6 + i)
      · subst e2; rw [upd_at, upd_at]
      · rw [upd_ne e2, upd_ne e2]; exact ih
theorem ztake_ag {fc : Nat → Nat} {m : Nat} (A : xag w z) (I : xInv z) (hM : zI z 6 + m ≤ 240) (hf : ∀ i, i < m → fc i < 6) : xag (ztake w fc m) (ztake z fc m) := by
  have i6 := A.i (show 6 < 27 by decide)
  have hR := I.iR.2.2
  have hC := I.iC.2.2
  have o : ∀ k, k ≠ 6 → w k = z k → ztake w fc m k = ztake z fc m k := fun k h6 hk => by
    unfold ztake
    rw [upd_ne h6, upd_ne h6]
    exact zon_congr A hk hf
  have e : ∀ k, k = 4 ∨ k = 5 ∨ k = 7 → zI (ztake z fc m) k = zI z k := fun k hk => by unfold zI; rw [ztake_o hf (by omega)]
  refine ⟨fun k hk => ?_, fun r c hr hc => ?_, fun k hk => ?_, fun k hk => ?_⟩
  · by_cases h6 : k = 6
    · subst h6; rw [ztake_6, ztake_6, i6]
    · exact o k h6 (A.1 k hk)
  · rw [e 4 (by omega)] at hr
    rw [e 5 (by omega)] at hc
    exact o _ (by omega) (A.2.1 r c hr hc)
  · rw [zI_k (f := ztake z fc m) ztake_6 (by omega)] at hk
    by_cases h : k < zI z 6
    · exact o _ (by omega) (A.2.2.1 k h)
    · have e1 : ztake z fc m (147 + k) = nI (fc (k - zI z 6)) := by
        unfold ztake
        rw [upd_ne (by omega), show 147 + k = 147 + (zI z 6 + (k - zI z 6)) by omega]
        exact zon_b hf (by omega)
      have e2 : ztake w fc m (147 + k) = nI (fc (k - zI z 6)) := by
        unfold ztake
        rw [upd_ne (by omega), show 147 + k = 147 + (zI w 6 + (k - zI z 6)) by omega]
        exact zon_b hf (by omega)
      rw [e1, e2]
  · rw [e 7 (by omega)] at hk
    exact o _ (by omega) (A.2.2.2 k hk)
theorem Q_fre {fc fc' : Nat → Nat} {m l' : Nat} (R : xRel (w, sv, q, n, l, co) (z, hi, n, l, co)) (hfc : fc = fc') (hf : ∀ i, i < m → fc i < 6) (X' : xTxt co l') : xSame (oFre (w, sv, q, n, l, co) fc m l') (oFreM (z, hi, n, l, co) fc' m l') := by
  subst hfc
  have R0 := R
  obtain ⟨I, A, hq, hn, e1, e2, e3, X, H⟩ := R
  dsimp only at I A hq hn X H
  unfold oFre oFreM
  dsimp only
  rw [A.can I, A.i (show 6 < 27 by decide)]
  by_cases g0 : zcan z (zocc fc m) m = true
  · rw [if_pos g0, if_pos g0]
    have hle := zcan_le g0
    exact ⟨rfl, xRel_sav R0 (ztake_inv I hle hf) (ztake_ag A I hle hf) X'⟩
  · rw [if_neg g0, if_neg g0]
    exact ⟨rfl, R0⟩
theorem Q_str {p r : Int32} (R : xRel (w, sv, q, n, l, co) (z, hi, n, l, co)) : xSame (oStr (w, sv, q, n, l, co) p r) (oStrM (z, hi, n, l, co) p r) := by
  have X := R.2.2.2.2.2.2.2.1
  unfold oStr oStrM
  dsimp only
  by_cases g0 : xlt p 6
  · rw [if_pos g0, if_pos g0]
    obtain ⟨a, a1, rfl⟩ := xlt_y (by decide) g0
    by_cases g1 : xin r 1 60
    · rw [if_pos g1, if_pos g1]
      exact Q_fre R rfl (fun i hi9 => by rw [pN_k (by omega)]; exact a1) X
    · rw [if_neg g1, if_neg g1]
      exact ⟨rfl, R⟩
  · rw [if_neg g0, if_neg g0]
    exact ⟨rfl, R⟩
theorem Q_nex {r : Int32} (R : xRel (w, sv, q, n, l, co) (z, hi, n, l, co)) : xSame (oNex (w, sv, q, n, l, co) r) (oNexM (z, hi, n, l, co) r) := by
  have X := R.2.2.2.2.2.2.2.1
  have I : xInv z := R.1
  have A : xag w z := R.2.1
  have e : znx w = znx z := by
    funext i
    unfold znx
    rw [A.pc I, A.i (show 6 < 27 by decide)]
  unfold oNex oNexM
  dsimp only
  by_cases g1 : xin r 1 60
  · rw [if_pos g1, if_pos g1]
    exact Q_fre R e (fun i hi9 => by rw [e]; exact (znx_is I i).2) X
  · rw [if_neg g1, if_neg g1]
    exact ⟨rfl, R⟩
theorem Q_row (R : xRel (w, sv, q, n, l, co) (z, hi, n, l, co)) : xSame (oRow (w, sv, q, n, l, co)) (oRowM (z, hi, n, l, co)) := by
  unfold oRow oRowM
  dsimp only
  by_cases g0 : zwhole false co l = true
  · rw [if_pos g0, if_pos g0]
    exact Q_fre R rfl (fun i hi9 => zcl_lt (zwhole_ps g0) 0 l (Nat.le_refl _) i) xTxt_0
  · rw [if_neg g0, if_neg g0]
    exact ⟨rfl, R⟩
theorem zjoin_ag (A : xag w z) (I : xInv z) (h : zI z 7 < 48) : xag (zjoin w) (zjoin z) := by
  have hR := I.iR.2.2
  have hC := I.iC.2.2
  have hM := I.iM.2.2
  have o : ∀ k, k ≠ 7 → w k = z k ∨ k = 387 + zI z 7 → zjoin w k = zjoin z k := fun k h7 hk => by
    unfold zjoin
    rw [upd_ne h7, upd_ne h7, A.i (show 7 < 27 by decide), A.1 6 (by decide)]
    by_cases e : k = 387 + zI z 7
    · subst e; rw [upd_at, upd_at]
    · rw [upd_ne e, upd_ne e]
      exact hk.resolve_right e
  have e : ∀ k, k = 4 ∨ k = 5 ∨ k = 6 → zI (zjoin z) k = zI z k := fun k hk => by unfold zI zjoin; rw [upd_ne (by omega), upd_ne (by omega)]
  refine ⟨fun k hk => ?_, fun r c hr hc => ?_, fun k hk => ?_, fun k hk => ?_⟩
  · by_cases h7 : k = 7
    · subst h7
      unfold zjoin
      rw [upd_at, upd_at, A.i (show 7 < 27 by decide)]
    · exact o k h7 (Or.inl (A.1 k hk))
  · rw [e 4 (by omega)] at hr
    rw [e 5 (by omega)] at hc
    exact o _ (by omega) (Or.inl (A.2.1 r c hr hc))
  · rw [e 6 (by omega)] at hk
    exact o _ (by omega) (Or.inl (A.2.2.1 k hk))
  · rw [zI_k (f := zjoin z) (k := zI z 7 + 1) upd_at (by omega)] at hk
    by_cases q : k = zI z 7
    · exact o _ (by omega) (Or.inr (by rw [q]))
    · exact o _ (by omega) (Or.inl (A.2.2.2 k (by omega)))
theorem Q_joi (R : xRel (w, sv, q, n, l, co) (z, hi, n, l, co)) : xSame (oJoi (w, sv, q, n, l, co)) (oJoiM (z, hi, n, l, co)) := by
  have R0 := R
  obtain ⟨I, A, hq, hn, e1, e2, e3, X, H⟩ := R
  dsimp only at I A hq hn X H
  have hK1 := I.iK.2.1
  unfold oJoi oJoiM
  dsimp only
  rw [A.i (show 7 < 27 by decide), A.len (show zI z 7 - 1 < zI z 7 by omega)]
  by_cases g0 : zlen z (zI z 7 - 1) = 0
  · rw [if_pos g0, if_pos g0]
    exact ⟨rfl, R0⟩
  · rw [if_neg g0, if_neg g0]
    by_cases g1 : zI z 7 < 48
    · rw [if_pos g1, if_pos g1]
      have J := zjoin_inv I g1
      have B := zjoin_ag A I g1
      have h7 : zI (zjoin z) 7 = zI z 7 + 1 := zI_k upd_at (by omega)
      refine ⟨?_, xRel_sav R0 J B X⟩
      rw [B.hid J (show zI z 7 < zI (zjoin z) 7 by omega)]
    · rw [if_neg g1, if_neg g1]
      exact ⟨rfl, R0⟩
end P56

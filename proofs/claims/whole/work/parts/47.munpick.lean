/-! ===== the model: beads unpicked, a bead crushed ===== -/
theorem xct_rev (p : Nat → Bool) : ∀ n, xct p n = xct (fun j => p (n - 1 - j)) n
  | 0 => rfl
  | n + 1 => by
    have e : xct (fun j => p (n + 1 - 1 - j)) (n + 1) = xct (fun j => p (n + 1 - 1 - j)) (1 + n) := by rw [Nat.add_comm]
    have e2 := xct_add (fun j => p (n + 1 - 1 - j)) 1 n
    rw [e, e2]
    show xct p n + _ = (0 + if p (n + 1 - 1 - 0) = true then 1 else 0) + _
    rw [xct_rev p n, Nat.zero_add, Nat.add_comm]
    congr 1
    exact xct_congr fun k hk => congrArg p (by omega)
theorem xct_all {p : Nat → Bool} : ∀ {n : Nat}, (∀ k, k < n → p k = true) → xct p n = n
  | 0, _ => rfl
  | n + 1, h => by rw [xct_y (h n (by omega)), xct_all (fun k hk => h k (by omega))]
theorem xct_xdown {p : Nat → Bool} : ∀ {n : Nat}, (∀ k, k < n → p (k + 1) = true → p k = true) → xct (fun i => p (i + 1)) n = xdown p n
  | 0, _ => rfl
  | n + 1, h => by
    unfold xdown
    by_cases e : p (n + 1) = true
    · rw [if_pos e]
      refine xct_all fun k hk => ?_
      have dn : ∀ d, d ≤ n + 1 → p (n + 1 - d) = true := by
        intro d
        induction d with
        | zero => intro _; exact e
        | succ d ih =>
          intro hd
          have h1 := ih (by omega)
          refine h (n + 1 - (d + 1)) (by omega) ?_
          rw [show n + 1 - (d + 1) + 1 = n + 1 - d by omega]
          exact h1
      have := dn (n - k) (by omega)
      rw [show n + 1 - (n - k) = k + 1 by omega] at this
      exact this
    · rw [if_neg e, xct_n (n := n) e, xct_xdown (fun k hk => h k (by omega))]
theorem zoff_c {w : Nat → Int32} {l c : Nat} : ∀ {i : Nat}, (∀ j, j < i → zI w (147 + (l + j)) < 6) → zoff w l i (9 + c) = w (9 + c) + nI (xct (fun j => decide (zI w (147 + (l + j)) = c)) i)
  | 0, _ => (Int32.add_zero _).symm
  | i + 1, h => by
    have ih := zoff_c (c := c) (i := i) (fun j hj => h j (by omega))
    unfold zoff
    by_cases e : zI w (147 + (l + i)) = c
    · rw [xct_y (by simp [e]), e, upd_at, ih, Int32.add_assoc, nI_add]
    · rw [xct_n (by simp [e]), upd_ne (by omega), ih]
/-- i beads off, the last one first -/
def zun (z : Nat → Int32) (M : Nat) : Nat → Nat → Int32
  | 0 => z
  | i + 1 => upd (upd (zun z M i) 6 (nI (M - (i + 1)))) (9 + zI z (147 + (M - (i + 1)))) (zun z M i (9 + zI z (147 + (M - (i + 1)))) + nI 1)
theorem zun_o {z : Nat → Int32} {M k : Nat} : ∀ {i : Nat}, (∀ j, j < i → zI z (147 + (M - (j + 1))) < 6) → k ≠ 6 → (k < 9 ∨ 15 ≤ k) → zun z M i k = z k
  | 0, _, _, _ => rfl
  | i + 1, h, h6, hk => by
    have h1 := h i (by omega)
    unfold zun
    rw [upd_ne (by omega), upd_ne h6]
    exact zun_o (fun j hj => h j (by omega)) h6 hk
theorem zun_6 {z : Nat → Int32} {M : Nat} (hz : z 6 = nI M) : ∀ {i : Nat}, zun z M i 6 = nI (M - i)
  | 0 => hz
  | i + 1 => by
    unfold zun
    rw [upd_ne (by omega), upd_at]
theorem zun_c {z : Nat → Int32} {M c : Nat} : ∀ {i : Nat}, (∀ j, j < i → zI z (147 + (M - (j + 1))) < 6) → zun z M i (9 + c) = z (9 + c) + nI (xct (fun j => decide (zI z (147 + (M - (j + 1))) = c)) i)
  | 0, _ => (Int32.add_zero _).symm
  | i + 1, h => by
    have ih := zun_c (c := c) (i := i) (fun j hj => h j (by omega))
    unfold zun
    by_cases e : zI z (147 + (M - (i + 1))) = c
    · rw [xct_y (by simp [e]), e, upd_at, ih, Int32.add_assoc, nI_add]
    · rw [xct_n (by simp [e]), upd_ne (by omega), upd_ne (by omega), ih]
/-- the model's work with m beads off -/
def mun (z : Nat → Int32) (m : Nat) : Nat → Int32 := upd (upd (zun z (zI z 6) m) 7 (nI (xdown (fun s => decide (zI z (387 + s) ≤ zI z 6 - m)) (zI z 7 - 1) + 1))) 8 (z 8 + nI m)
theorem mun_eq {z : Nat → Int32} {m : Nat} (I : xInv z) (hm : m ≤ zI z 6) : mun z m = zunp z m := by
  have hM := I.iM.2.2
  have hc : ∀ j, j < m → zI z (147 + (zI z 6 - (j + 1))) < 6 := fun j hj => Nat.lt_succ_of_le (I.ib _ (by omega)).2.2
  have hc2 : ∀ j, j < m → zI z (147 + (zI z 6 - m + j)) < 6 := fun j hj => Nat.lt_succ_of_le (I.ib _ (by omega)).2.2
  have e7 : xct (fun i => decide (zI z (387 + (i + 1)) ≤ zI z 6 - m)) (zI z 7 - 1) = xdown (fun s => decide (zI z (387 + s) ≤ zI z 6 - m)) (zI z 7 - 1) := by
    refine xct_xdown (p := fun s => decide (zI z (387 + s) ≤ zI z 6 - m)) fun k hk h => ?_
    have h1 := I.im k (by omega)
    have h2 : zI z (387 + (k + 1)) ≤ zI z 6 - m := of_decide_eq_true h
    exact decide_eq_true (by omega)
  unfold zunp mun
  rw [e7, Nat.add_comm 1]
  funext k
  by_cases h7 : k = 7
  · subst h7; rw [upd_ne (by decide), upd_at, upd_at]
  · rw [upd_ne (i := 7) h7]
    unfold zoff2
    by_cases h8 : k = 8
    · subst h8
      rw [upd_at, upd_at]
      unfold zoff1
      rw [upd_ne (by decide), zoff_o _ _ _ hc2 (by omega)]
    · rw [upd_ne h8, upd_ne h7, upd_ne h8]
      unfold zoff1
      by_cases h6 : k = 6
      · subst h6; rw [upd_at, zun_6 I.iM.1]
      · rw [upd_ne h6]
        by_cases h9 : 9 ≤ k ∧ k < 15
        · obtain ⟨c, rfl⟩ : ∃ c, k = 9 + c := ⟨k - 9, by omega⟩
          rw [zun_c hc, zoff_c hc2, xct_rev]
          congr 2
          exact xct_congr fun j hj => by rw [show zI z 6 - (m - 1 - j + 1) = zI z 6 - m + j by omega]
        · rw [zun_o hc h6 (by omega), zoff_o _ _ _ hc2 (by omega)]
theorem upd_upd {f : Nat → Int32} {i : Nat} {v v' : Int32} : upd (upd f i v) i v' = upd f i v' := by
  funext k
  by_cases h : k = i
  · subst h; rw [upd_at, upd_at]
  · rw [upd_ne h, upd_ne h, upd_ne h]
theorem upd_self {f : Nat → Int32} {i : Nat} {v : Int32} (h : f i = v) : upd f i v = f := by
  funext k
  by_cases e : k = i
  · subst e; rw [upd_at, h]
  · rw [upd_ne e]
section P47
variable {G : xG} {x : Nat} {A T : List xE} {z hi tx ot wa pR pC pM fe kc : Nat → Int32} {s ln : Nat} {th oR oC ps rr ha nu : Int32} {hs : Int64}
def oUnpM (m : xMS) (p : Int32) : (Nat × Int32) × xMS := if xin p 1 240 then (if ¬ m.1 6 < p then ((0, nI (zI m.1 6 - pN p)), mSav m (zunp m.1 (pN p)) m.2.2.2.1) else ((2, 0), m)) else ((1, 0), m)
theorem S_M_unpick {p : Int32} (hA : A.length = 71) (I : xInv z) (hs6 : s ≤ 6) : xMet G M_unpick [.ref 71, .int p] (mH A z (nI s) hi (nI ln) tx th ot oR oC wa pR pC pM ps rr ha nu fe kc hs T) x 0 0 (xQm A T (oUnpM (z, hi, s, ln, tx) p).1 (oUnpM (z, hi, s, ln, tx) p).2) := by
  have hA1 := I.iA.2.1
  have hA2 := I.iA.2.2
  have hS2 := I.iS.2.2
  have hR1 := I.iR.2.1
  have hR2 := I.iR.2.2
  have hC1 := I.iC.2.1
  have hC2 := I.iC.2.2
  have hM2 := I.iM.2.2
  have hK1 := I.iK.2.1
  have hK2 := I.iK.2.2
  unfold oUnpM
  dsimp only
  by_cases g0 : xin p 1 240
  · have w0 : nI (if xbt p (nI 1) (nI 240) then 1 else 0) = nI 1 := bIf g0
    rw [if_pos g0]
    obtain ⟨b, b1, b2, rfl⟩ := xin_y (by decide) (by decide) g0
    rw [pN_k (by omega)]
    by_cases g1 : ¬ z 6 < nI b
    · rw [if_pos g1]
      have hb : b ≤ zI z 6 := by
        rw [I.iM.1, nI_ltI (by omega) (by omega)] at g1
        omega
      rw [← mun_eq I hb]
      have hc : ∀ j, j < b → zI z (147 + (zI z 6 - (j + 1))) < 6 := fun j hj => Nat.lt_succ_of_le (I.ib _ (by omega)).2.2
      have strs : ∀ (k : Nat), k < zI z 7 → xW G M_unpick (xQm A T (0, nI (zI z 6 - b)) (mSav (z, hi, s, ln, tx) (upd (upd (zun z (zI z 6) b) 7 (nI (xdown (fun s => decide (zI z (387 + s) ≤ zI z 6 - b)) k + 1))) 8 (z 8 + nI b)) ln)) 100 [(0, .ref 71), (1, .int (nI b))] [] (mH A (upd (zun z (zI z 6) b) 7 (nI (k + 1))) (nI (zrM s)) (mhis z hi s) (nI ln) tx (nI 0) ot oR oC wa pR pC pM ps rr ha nu fe kc hs T) x 0 0 := by
        intro k
        induction k with
        | zero =>
          intro hk
          have hB := I.iB 0 hk
          have h0 : zI z (387 + 0) = 0 := I.i0
          have e7 : (upd (zun z (zI z 6) b) 7 (nI (0 + 1))) 7 = nI (0 + 1) := upd_at
          have e6 : (upd (zun z (zI z 6) b) 7 (nI (0 + 1))) 6 = nI (zI z 6 - b) := (upd_ne (by decide)).trans (zun_6 I.iM.1)
          have eb : (upd (zun z (zI z 6) b) 7 (nI (0 + 1))) (387 + 0) = nI (zI z (387 + 0)) := ((upd_ne (by omega)).trans (zun_o hc (by omega) (by omega))).trans hB.1
          have e8 : (upd (zun z (zI z 6) b) 7 (nI (0 + 1))) 8 = z 8 := (upd_ne (by omega)).trans (zun_o hc (by omega) (by omega))
          have f6 : (upd (upd (zun z (zI z 6) b) 7 (nI (0 + 1))) 8 (z 8 + nI b)) 6 = nI (zI z 6 - b) := (upd_ne (by decide)).trans e6
          refine xw_aload_n 101 dX5_unpick_100 rfl rfl rfl ?_
          refine xw_get 104 dX5_unpick_101 rfl f_X5_7 (xA hA rfl) rfl ?_
          refine xw_sipush 107 (nI 387) dX5_unpick_104 rfl (by decide) ?_
          refine xw_aload_n 108 dX5_unpick_107 rfl rfl rfl ?_
          refine xw_get 111 dX5_unpick_108 rfl f_X5_7 (xA hA rfl) rfl ?_
          refine xw_bipush 113 (nI 7) dX5_unpick_111 rfl (by decide) ?_
          refine xw_ialv (j := 7) 114 dX5_unpick_113 rfl (xA hA rfl) (rfl) (by decide) (by decide) (e7) ?_
          refine xw_iadd 115 dX5_unpick_114 rfl ?_
          refine xw_iconst 116 (nI 1) dX5_unpick_115 rfl (xofI 1) ?_
          rw [nI_add]
          refine xw_isub 117 dX5_unpick_116 rfl ?_
          rw [nI_1s (by omega)]
          refine xw_ialv (j := 387 + 0) 118 dX5_unpick_117 rfl (xA hA rfl) (rfl) (by omega) (by omega) (eb) ?_
          refine xw_aload_n 119 dX5_unpick_118 rfl rfl rfl ?_
          refine xw_get 122 dX5_unpick_119 rfl f_X5_7 (xA hA rfl) rfl ?_
          refine xw_bipush 124 (nI 6) dX5_unpick_122 rfl (by decide) ?_
          refine xw_ialv (j := 6) 125 dX5_unpick_124 rfl (xA hA rfl) (rfl) (by decide) (by decide) (e6) ?_
          refine xw_icmp_le 142 128 dX5_unpick_125 rfl rfl (fun h125 => ?_) (fun h125 => absurd (nI_le (by omega) (by omega)) h125)
          refine xw_aload_n 143 dX5_unpick_142 rfl rfl rfl ?_
          refine xw_get 146 dX5_unpick_143 rfl f_X5_7 (xA hA rfl) rfl ?_
          refine xw_bipush 148 (nI 8) dX5_unpick_146 rfl (by decide) ?_
          refine xw_dup2 149 dX5_unpick_148 rfl rfl rfl ?_
          refine xw_ialv (j := 8) 150 dX5_unpick_149 rfl (xA hA rfl) (rfl) (by omega) (by omega) (e8) ?_
          refine xw_iload_n 151 dX5_unpick_150 rfl rfl ?_
          refine xw_iadd 152 dX5_unpick_151 rfl ?_
          refine xw_iastore (j := 8) (hp' := (mH A (upd (upd (zun z (zI z 6) b) 7 (nI (0 + 1))) 8 (z 8 + nI b)) (nI (zrM s)) (mhis z hi s) (nI ln) tx (nI 0) ot oR oC wa pR pC pM ps rr ha nu fe kc hs T)) 153 dX5_unpick_152 rfl (xA hA rfl) (rfl) (by omega) (by omega) (xAs hA rfl) ?_
          refine xw_aload_n 154 dX5_unpick_153 rfl rfl rfl ?_
          refine xw_get 157 dX5_unpick_154 rfl f_X5_7 (xA hA rfl) rfl ?_
          refine xw_bipush 159 (nI 6) dX5_unpick_157 rfl (by decide) ?_
          refine xw_ialv (j := 6) 160 dX5_unpick_159 rfl (xA hA rfl) (rfl) (by decide) (by decide) (f6) ?_
          exact xw_ireturn dX5_unpick_160 rfl (⟨rfl, (ot, oR, oC, wa, pR, pC, pM, ps, rr, ha, nu, fe, kc, hs), rfl⟩)
        | succ k ih =>
          intro hk
          have ih := ih (by omega)
          have hB := I.iB (k + 1) hk
          have hB2 := hB.2.2
          have e7 : (upd (zun z (zI z 6) b) 7 (nI (k + 1 + 1))) 7 = nI (k + 1 + 1) := upd_at
          have e6 : (upd (zun z (zI z 6) b) 7 (nI (k + 1 + 1))) 6 = nI (zI z 6 - b) := (upd_ne (by decide)).trans (zun_6 I.iM.1)
          have eb : (upd (zun z (zI z 6) b) 7 (nI (k + 1 + 1))) (387 + (k + 1)) = nI (zI z (387 + (k + 1))) := ((upd_ne (by omega)).trans (zun_o hc (by omega) (by omega))).trans hB.1
          have e8 : (upd (zun z (zI z 6) b) 7 (nI (k + 1 + 1))) 8 = z 8 := (upd_ne (by omega)).trans (zun_o hc (by omega) (by omega))
          have f6 : (upd (upd (zun z (zI z 6) b) 7 (nI (k + 1 + 1))) 8 (z 8 + nI b)) 6 = nI (zI z 6 - b) := (upd_ne (by decide)).trans e6
          have ei : nI 387 + nI (k + 1 + 1) - nI 1 = nI (387 + (k + 1)) := by rw [nI_add, nI_1s (by omega)]; exact congrArg nI (by omega)
          by_cases hz : zI z (387 + (k + 1)) ≤ zI z 6 - b
          · have ex : xdown (fun s => decide (zI z (387 + s) ≤ zI z 6 - b)) (k + 1) = k + 1 := if_pos (by simpa using hz)
            rw [ex]
            refine xw_aload_n 101 dX5_unpick_100 rfl rfl rfl ?_
            refine xw_get 104 dX5_unpick_101 rfl f_X5_7 (xA hA rfl) rfl ?_
            refine xw_sipush 107 (nI 387) dX5_unpick_104 rfl (by decide) ?_
            refine xw_aload_n 108 dX5_unpick_107 rfl rfl rfl ?_
            refine xw_get 111 dX5_unpick_108 rfl f_X5_7 (xA hA rfl) rfl ?_
            refine xw_bipush 113 (nI 7) dX5_unpick_111 rfl (by decide) ?_
            refine xw_ialv (j := 7) 114 dX5_unpick_113 rfl (xA hA rfl) (rfl) (by decide) (by decide) (e7) ?_
            refine xw_iadd 115 dX5_unpick_114 rfl ?_
            refine xw_iconst 116 (nI 1) dX5_unpick_115 rfl (xofI 1) ?_
            refine xw_isub 117 dX5_unpick_116 rfl ?_
            rw [ei]
            refine xw_ialv (j := 387 + (k + 1)) 118 dX5_unpick_117 rfl (xA hA rfl) (rfl) (by omega) (by omega) (eb) ?_
            refine xw_aload_n 119 dX5_unpick_118 rfl rfl rfl ?_
            refine xw_get 122 dX5_unpick_119 rfl f_X5_7 (xA hA rfl) rfl ?_
            refine xw_bipush 124 (nI 6) dX5_unpick_122 rfl (by decide) ?_
            refine xw_ialv (j := 6) 125 dX5_unpick_124 rfl (xA hA rfl) (rfl) (by decide) (by decide) (e6) ?_
            refine xw_icmp_le 142 128 dX5_unpick_125 rfl rfl (fun h125 => ?_) (fun h125 => absurd (nI_le hz (by omega)) h125)
            refine xw_aload_n 143 dX5_unpick_142 rfl rfl rfl ?_
            refine xw_get 146 dX5_unpick_143 rfl f_X5_7 (xA hA rfl) rfl ?_
            refine xw_bipush 148 (nI 8) dX5_unpick_146 rfl (by decide) ?_
            refine xw_dup2 149 dX5_unpick_148 rfl rfl rfl ?_
            refine xw_ialv (j := 8) 150 dX5_unpick_149 rfl (xA hA rfl) (rfl) (by omega) (by omega) (e8) ?_
            refine xw_iload_n 151 dX5_unpick_150 rfl rfl ?_
            refine xw_iadd 152 dX5_unpick_151 rfl ?_
            refine xw_iastore (j := 8) (hp' := (mH A (upd (upd (zun z (zI z 6) b) 7 (nI (k + 1 + 1))) 8 (z 8 + nI b)) (nI (zrM s)) (mhis z hi s) (nI ln) tx (nI 0) ot oR oC wa pR pC pM ps rr ha nu fe kc hs T)) 153 dX5_unpick_152 rfl (xA hA rfl) (rfl) (by omega) (by omega) (xAs hA rfl) ?_
            refine xw_aload_n 154 dX5_unpick_153 rfl rfl rfl ?_
            refine xw_get 157 dX5_unpick_154 rfl f_X5_7 (xA hA rfl) rfl ?_
            refine xw_bipush 159 (nI 6) dX5_unpick_157 rfl (by decide) ?_
            refine xw_ialv (j := 6) 160 dX5_unpick_159 rfl (xA hA rfl) (rfl) (by decide) (by decide) (f6) ?_
            exact xw_ireturn dX5_unpick_160 rfl (⟨rfl, (ot, oR, oC, wa, pR, pC, pM, ps, rr, ha, nu, fe, kc, hs), rfl⟩)
          · have ex : xdown (fun s => decide (zI z (387 + s) ≤ zI z 6 - b)) (k + 1) = xdown (fun s => decide (zI z (387 + s) ≤ zI z 6 - b)) k := if_neg (by simpa using hz)
            rw [ex]
            refine xw_aload_n 101 dX5_unpick_100 rfl rfl rfl ?_
            refine xw_get 104 dX5_unpick_101 rfl f_X5_7 (xA hA rfl) rfl ?_
            refine xw_sipush 107 (nI 387) dX5_unpick_104 rfl (by decide) ?_
            refine xw_aload_n 108 dX5_unpick_107 rfl rfl rfl ?_
            refine xw_get 111 dX5_unpick_108 rfl f_X5_7 (xA hA rfl) rfl ?_
            refine xw_bipush 113 (nI 7) dX5_unpick_111 rfl (by decide) ?_
            refine xw_ialv (j := 7) 114 dX5_unpick_113 rfl (xA hA rfl) (rfl) (by decide) (by decide) (e7) ?_
            refine xw_iadd 115 dX5_unpick_114 rfl ?_
            refine xw_iconst 116 (nI 1) dX5_unpick_115 rfl (xofI 1) ?_
            refine xw_isub 117 dX5_unpick_116 rfl ?_
            rw [ei]
            refine xw_ialv (j := 387 + (k + 1)) 118 dX5_unpick_117 rfl (xA hA rfl) (rfl) (by omega) (by omega) (eb) ?_
            refine xw_aload_n 119 dX5_unpick_118 rfl rfl rfl ?_
            refine xw_get 122 dX5_unpick_119 rfl f_X5_7 (xA hA rfl) rfl ?_
            refine xw_bipush 124 (nI 6) dX5_unpick_122 rfl (by decide) ?_
            refine xw_ialv (j := 6) 125 dX5_unpick_124 rfl (xA hA rfl) (rfl) (by decide) (by decide) (e6) ?_
            refine xw_icmp_le 142 128 dX5_unpick_125 rfl rfl (fun h125 => absurd h125 ((fun q => by rw [nI_leI (by omega) (by omega)] at q; omega))) (fun h125 => ?_)
            refine xw_aload_n 129 dX5_unpick_128 rfl rfl rfl ?_
            refine xw_get 132 dX5_unpick_129 rfl f_X5_7 (xA hA rfl) rfl ?_
            refine xw_bipush 134 (nI 7) dX5_unpick_132 rfl (by decide) ?_
            refine xw_dup2 135 dX5_unpick_134 rfl rfl rfl ?_
            refine xw_ialv (j := 7) 136 dX5_unpick_135 rfl (xA hA rfl) (rfl) (by omega) (by omega) (e7) ?_
            refine xw_iconst 137 (nI 1) dX5_unpick_136 rfl (xofI 1) ?_
            refine xw_isub 138 dX5_unpick_137 rfl ?_
            rw [nI_1s (by omega), Nat.add_sub_cancel]
            refine xw_iastore (j := 7) (hp' := (mH A (upd (zun z (zI z 6) b) 7 (nI (k + 1))) (nI (zrM s)) (mhis z hi s) (nI ln) tx (nI 0) ot oR oC wa pR pC pM ps rr ha nu fe kc hs T)) 139 dX5_unpick_138 rfl (xA hA rfl) (rfl) (by decide) (by decide) (by rw [upd_upd]; exact xAs hA rfl) ?_
            refine xw_goto 100 dX5_unpick_139 rfl ?_
            exact xW.pick [0, 1] rfl (ih)
      have loop : ∀ (t i : Nat), i + t = b → xW G M_unpick (xQm A T (0, nI (zI z 6 - b)) (mSav (z, hi, s, ln, tx) (mun z b) ln)) 50 [(2, .int (nI i)), (0, .ref 71), (1, .int (nI b))] [] (mH A (zun z (zI z 6) i) (nI (zrM s)) (mhis z hi s) (nI ln) tx (nI 0) ot oR oC wa pR pC pM ps rr ha nu fe kc hs T) x 0 0 := by
        intro t
        induction t with
        | zero =>
          intro i hi9
          have e : i = b := by omega
          rw [e]
          have h9 := strs (zI z 7 - 1) (by omega)
          rw [Nat.sub_add_cancel hK1, upd_self ((zun_o hc (by omega) (by omega)).trans I.iK.1)] at h9
          refine xw_iload_n 51 dX5_unpick_50 rfl rfl ?_
          refine xw_iload_n 52 dX5_unpick_51 rfl rfl ?_
          refine xw_icmp_ge 100 55 dX5_unpick_52 rfl rfl (fun h52 => ?_) (fun h52 => absurd (nI_le (Nat.le_refl _) (by omega)) h52)
          exact xW.pick [1, 2] rfl (h9)
        | succ t ih =>
          intro i hi9
          have ih := ih (i + 1) (by omega)
          have hci := hc i (by omega)
          have hbi := I.ib (zI z 6 - (i + 1)) (by omega)
          have hcj : ∀ j, j < i → zI z (147 + (zI z 6 - (j + 1))) < 6 := fun j hj => hc j (by omega)
          have e6 : (zun z (zI z 6) i) 6 = nI (zI z 6 - i) := zun_6 I.iM.1
          have e6' : (upd (zun z (zI z 6) i) 6 (nI (zI z 6 - (i + 1)))) 6 = nI (zI z 6 - (i + 1)) := upd_at
          have ebd : (upd (zun z (zI z 6) i) 6 (nI (zI z 6 - (i + 1)))) (147 + (zI z 6 - (i + 1))) = nI (zI z (147 + (zI z 6 - (i + 1)))) := ((upd_ne (by omega)).trans (zun_o hcj (by omega) (by omega))).trans hbi.1
          have est : (upd (zun z (zI z 6) i) 6 (nI (zI z 6 - (i + 1)))) (9 + (zI z (147 + (zI z 6 - (i + 1))))) = (zun z (zI z 6) i) (9 + (zI z (147 + (zI z 6 - (i + 1))))) := upd_ne (by omega)
          refine xw_iload_n 51 dX5_unpick_50 rfl rfl ?_
          refine xw_iload_n 52 dX5_unpick_51 rfl rfl ?_
          refine xw_icmp_ge 100 55 dX5_unpick_52 rfl rfl (fun h52 => absurd h52 (nI_ge (by omega) (by omega))) (fun h52 => ?_)
          refine xw_aload_n 56 dX5_unpick_55 rfl rfl rfl ?_
          refine xw_get 59 dX5_unpick_56 rfl f_X5_7 (xA hA rfl) rfl ?_
          refine xw_bipush 61 (nI 6) dX5_unpick_59 rfl (by decide) ?_
          refine xw_dup2 62 dX5_unpick_61 rfl rfl rfl ?_
          refine xw_ialv (j := 6) 63 dX5_unpick_62 rfl (xA hA rfl) (rfl) (by omega) (by omega) (e6) ?_
          refine xw_iconst 64 (nI 1) dX5_unpick_63 rfl (xofI 1) ?_
          refine xw_isub 65 dX5_unpick_64 rfl ?_
          rw [nI_1s (by omega), show zI z 6 - i - 1 = zI z 6 - (i + 1) by omega]
          refine xw_iastore (j := 6) (hp' := (mH A (upd (zun z (zI z 6) i) 6 (nI (zI z 6 - (i + 1)))) (nI (zrM s)) (mhis z hi s) (nI ln) tx (nI 0) ot oR oC wa pR pC pM ps rr ha nu fe kc hs T)) 66 dX5_unpick_65 rfl (xA hA rfl) (rfl) (by decide) (by decide) (xAs hA rfl) ?_
          refine xw_aload_n 67 dX5_unpick_66 rfl rfl rfl ?_
          refine xw_get 70 dX5_unpick_67 rfl f_X5_7 (xA hA rfl) rfl ?_
          refine xw_bipush 72 (nI 9) dX5_unpick_70 rfl (by decide) ?_
          refine xw_aload_n 73 dX5_unpick_72 rfl rfl rfl ?_
          refine xw_get 76 dX5_unpick_73 rfl f_X5_7 (xA hA rfl) rfl ?_
          refine xw_sipush 79 (nI 147) dX5_unpick_76 rfl (by decide) ?_
          refine xw_aload_n 80 dX5_unpick_79 rfl rfl rfl ?_
          refine xw_get 83 dX5_unpick_80 rfl f_X5_7 (xA hA rfl) rfl ?_
          refine xw_bipush 85 (nI 6) dX5_unpick_83 rfl (by decide) ?_
          refine xw_ialv (j := 6) 86 dX5_unpick_85 rfl (xA hA rfl) (rfl) (by decide) (by decide) (e6') ?_
          refine xw_iadd 87 dX5_unpick_86 rfl ?_
          refine xw_ialv (j := _) 88 dX5_unpick_87 rfl (xA hA rfl) (nI_add _ _) (by omega) (by omega) (ebd) ?_
          refine xw_iadd 89 dX5_unpick_88 rfl ?_
          refine xw_dup2 90 dX5_unpick_89 rfl rfl rfl ?_
          refine xw_ialv (j := 9 + (zI z (147 + (zI z 6 - (i + 1))))) 91 dX5_unpick_90 rfl (xA hA rfl) (nI_add _ _) (by omega) (by omega) (est) ?_
          refine xw_iconst 92 (nI 1) dX5_unpick_91 rfl (xofI 1) ?_
          refine xw_iadd 93 dX5_unpick_92 rfl ?_
          refine xw_iastore (j := 9 + (zI z (147 + (zI z 6 - (i + 1))))) (hp' := (mH A (zun z (zI z 6) (i + 1)) (nI (zrM s)) (mhis z hi s) (nI ln) tx (nI 0) ot oR oC wa pR pC pM ps rr ha nu fe kc hs T)) 94 dX5_unpick_93 rfl (xA hA rfl) (nI_add _ _) (by omega) (by omega) (xAs hA rfl) ?_
          refine xw_iinc (ls' := [(2, _), (0, _), (1, _)]) 97 _ dX5_unpick_94 rfl rfl (xnI_inc _) rfl rfl ?_
          refine xw_goto 50 dX5_unpick_97 rfl ?_
          exact xW.pick [0, 1, 2] rfl (ih)
      refine xw_aload_n 1 dX5_unpick_0 rfl rfl rfl ?_
      refine xw_iload_n 2 dX5_unpick_1 rfl rfl ?_
      refine xw_iconst 3 (nI 1) dX5_unpick_2 rfl (xofI 1) ?_
      refine xw_sipush 6 (nI 240) dX5_unpick_3 rfl (by decide) ?_
      refine xw_pS 9 dX5_unpick_6 rfl ok_M_within s_X5_47 (S_M_within) (mH_len) rfl rfl rfl rfl rfl rfl ?_
      refine xw_if_ne 16 12 dX5_unpick_9 rfl rfl (fun h9 => ?_) (fun h9 => absurd h9 (by rw [w0]; decide))
      refine xw_aload_n 17 dX5_unpick_16 rfl rfl rfl ?_
      refine xw_get 20 dX5_unpick_17 rfl f_X5_7 (xA hA rfl) rfl ?_
      refine xw_bipush 22 (nI 6) dX5_unpick_20 rfl (by decide) ?_
      refine xw_ialv (j := 6) 23 dX5_unpick_22 rfl (xA hA rfl) (rfl) (by decide) (by decide) (rfl) ?_
      refine xw_iload_n 24 dX5_unpick_23 rfl rfl ?_
      refine xw_icmp_ge 31 27 dX5_unpick_24 rfl rfl (fun h24 => ?_) (fun h24 => absurd ((Int32.not_lt.mp g1)) h24)
      refine xw_iconst 32 (nI 0) dX5_unpick_31 rfl (xofI 0) ?_
      refine xw_put (hp' := (mH A z (nI s) hi (nI ln) tx (nI 0) ot oR oC wa pR pC pM ps rr ha nu fe kc hs T)) 35 dX5_unpick_32 rfl f_X5_40 (xA hA rfl) ⟨rfl, rfl⟩ rfl rfl (xAs hA rfl) ?_
      refine xw_aload_n 36 dX5_unpick_35 rfl rfl rfl ?_
      refine xw_get 39 dX5_unpick_36 rfl f_X5_40 (xA hA rfl) rfl ?_
      refine xw_if_le 44 42 dX5_unpick_39 rfl rfl (fun h39 => ?_) (fun h39 => absurd (by decide) h39)
      refine xw_aload_n 45 dX5_unpick_44 rfl rfl rfl ?_
      refine xw_pVv 48 dX5_unpick_45 rfl ok_M_save s_X5_95 (S_M_save hA hs6) (mH_len) (xA hA rfl) rfl rfl rfl rfl rfl rfl rfl ?_
      refine xw_iconst 49 (nI 0) dX5_unpick_48 rfl (xofI 0) ?_
      refine xw_istore_n (ls' := [(2, _), (0, _), (1, _)]) 50 dX5_unpick_49 rfl rfl rfl ?_
      exact loop b 0 (by omega)
    · rw [if_neg g1]
      refine xw_aload_n 1 dX5_unpick_0 rfl rfl rfl ?_
      refine xw_iload_n 2 dX5_unpick_1 rfl rfl ?_
      refine xw_iconst 3 (nI 1) dX5_unpick_2 rfl (xofI 1) ?_
      refine xw_sipush 6 (nI 240) dX5_unpick_3 rfl (by decide) ?_
      refine xw_pS 9 dX5_unpick_6 rfl ok_M_within s_X5_47 (S_M_within) (mH_len) rfl rfl rfl rfl rfl rfl ?_
      refine xw_if_ne 16 12 dX5_unpick_9 rfl rfl (fun h9 => ?_) (fun h9 => absurd h9 (by rw [w0]; decide))
      refine xw_aload_n 17 dX5_unpick_16 rfl rfl rfl ?_
      refine xw_get 20 dX5_unpick_17 rfl f_X5_7 (xA hA rfl) rfl ?_
      refine xw_bipush 22 (nI 6) dX5_unpick_20 rfl (by decide) ?_
      refine xw_ialv (j := 6) 23 dX5_unpick_22 rfl (xA hA rfl) (rfl) (by decide) (by decide) (rfl) ?_
      refine xw_iload_n 24 dX5_unpick_23 rfl rfl ?_
      refine xw_icmp_ge 31 27 dX5_unpick_24 rfl rfl (fun h24 => absurd h24 ((Int32.not_le.mpr (Decidable.of_not_not g1)))) (fun h24 => ?_)
      refine xw_iconst 28 (nI 2) dX5_unpick_27 rfl (xofI 2) ?_
      refine xw_goto 32 dX5_unpick_28 rfl ?_
      refine xw_put (hp' := (mH A z (nI s) hi (nI ln) tx (nI 2) ot oR oC wa pR pC pM ps rr ha nu fe kc hs T)) 35 dX5_unpick_32 rfl f_X5_40 (xA hA rfl) ⟨rfl, rfl⟩ rfl rfl (xAs hA rfl) ?_
      refine xw_aload_n 36 dX5_unpick_35 rfl rfl rfl ?_
      refine xw_get 39 dX5_unpick_36 rfl f_X5_40 (xA hA rfl) rfl ?_
      refine xw_if_le 44 42 dX5_unpick_39 rfl rfl (fun h39 => absurd h39 (by decide)) (fun h39 => ?_)
      refine xw_iconst 43 (nI 0) dX5_unpick_42 rfl (xofI 0) ?_
      exact xw_ireturn dX5_unpick_43 rfl (⟨rfl, (ot, oR, oC, wa, pR, pC, pM, ps, rr, ha, nu, fe, kc, hs), rfl⟩)
  · have w0 : nI (if xbt p (nI 1) (nI 240) then 1 else 0) = nI 0 := bIfn g0
    rw [if_neg g0]
    refine xw_aload_n 1 dX5_unpick_0 rfl rfl rfl ?_
    refine xw_iload_n 2 dX5_unpick_1 rfl rfl ?_
    refine xw_iconst 3 (nI 1) dX5_unpick_2 rfl (xofI 1) ?_
    refine xw_sipush 6 (nI 240) dX5_unpick_3 rfl (by decide) ?_
    refine xw_pS 9 dX5_unpick_6 rfl ok_M_within s_X5_47 (S_M_within) (mH_len) rfl rfl rfl rfl rfl rfl ?_
    refine xw_if_ne 16 12 dX5_unpick_9 rfl rfl (fun h9 => absurd (w0) h9) (fun h9 => ?_)
    refine xw_iconst 13 (nI 1) dX5_unpick_12 rfl (xofI 1) ?_
    refine xw_goto 32 dX5_unpick_13 rfl ?_
    refine xw_put (hp' := (mH A z (nI s) hi (nI ln) tx (nI 1) ot oR oC wa pR pC pM ps rr ha nu fe kc hs T)) 35 dX5_unpick_32 rfl f_X5_40 (xA hA rfl) ⟨rfl, rfl⟩ rfl rfl (xAs hA rfl) ?_
    refine xw_aload_n 36 dX5_unpick_35 rfl rfl rfl ?_
    refine xw_get 39 dX5_unpick_36 rfl f_X5_40 (xA hA rfl) rfl ?_
    refine xw_if_le 44 42 dX5_unpick_39 rfl rfl (fun h39 => absurd h39 (by decide)) (fun h39 => ?_)
    refine xw_iconst 43 (nI 0) dX5_unpick_42 rfl (xofI 0) ?_
    exact xw_ireturn dX5_unpick_43 rfl (⟨rfl, (ot, oR, oC, wa, pR, pC, pM, ps, rr, ha, nu, fe, kc, hs), rfl⟩)
end P47

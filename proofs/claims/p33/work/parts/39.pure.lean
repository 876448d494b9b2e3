/-! ===== pure rows out of the proof of the whole: what the changes of the state do, place by place ===== -/
theorem b0 {p : Prop} {d : Decidable p} (h : nI (@ite Nat p d 1 0) = 0) : ¬ p := by
  intro q
  rw [if_pos q] at h
  exact absurd h (by decide)
theorem b1 {p : Prop} {d : Decidable p} (h : ¬ nI (@ite Nat p d 1 0) = 0) : p := by
  by_cases q : p
  · exact q
  · rw [if_neg q] at h
    exact absurd rfl h
theorem xct_add (f : Nat → Bool) (n : Nat) : ∀ m, xct f (n + m) = xct f n + xct (fun k => f (n + k)) m
  | 0 => rfl
  | m + 1 => by
    show xct f (n + m) + _ = xct f n + (xct (fun k => f (n + k)) m + _)
    rw [xct_add f n m, Nat.add_assoc]
    rfl
theorem xct_z {f : Nat → Bool} {n : Nat} (h : ∀ k, k < n → f k = false) : xct f n = 0 := by
  induction n with
  | zero => rfl
  | succ n ih => rw [xct_n (by rw [h n (by omega)]; decide), ih (fun k hk => h k (by omega))]
theorem xct_row {q : Nat → Bool} {C : Nat} (hC : C ≤ 12) : xct (fun k => decide (k < C) && q k) 12 = xct q C := by
  have e := xct_add (fun k => decide (k < C) && q k) C (12 - C)
  rw [show C + (12 - C) = 12 by omega] at e
  rw [e, xct_congr (q := q) (n := C) (fun k hk => by simp [hk]), xct_z (n := 12 - C) (fun k hk => by simp [show ¬ C + k < C by omega]), Nat.add_zero]
/-- cells counted in one row of 120, or row by row -/
theorem xct_grid {p : Nat → Nat → Bool} {R C : Nat} (hR : R ≤ 10) (hC : C ≤ 12) : xct (fun k => decide (k / 12 < R ∧ k % 12 < C) && p (k / 12) (k % 12)) 120 = xct2 p C R := by
  have h : ∀ r, r ≤ 10 → xct (fun k => decide (k / 12 < R ∧ k % 12 < C) && p (k / 12) (k % 12)) (r * 12) = xct2 p C (min r R) := by
    intro r
    induction r with
    | zero => intro _; rw [Nat.zero_min]; rfl
    | succ r ih =>
      intro hr
      rw [Nat.succ_mul, xct_add, ih (by omega)]
      by_cases h1 : r < R
      · rw [xct_congr (q := fun k => decide (k < C) && p r k) (n := 12) (fun k hk => by
          rw [show (r * 12 + k) / 12 = r by omega, show (r * 12 + k) % 12 = k by omega]
          simp [h1]), xct_row hC, show min r R = r by omega, show min (r + 1) R = r + 1 by omega]
        rfl
      · rw [xct_z (n := 12) (fun k hk => by
          rw [show (r * 12 + k) / 12 = r by omega]
          simp [h1]), show min r R = R by omega, show min (r + 1) R = R by omega]
        rfl
  have := h 10 (Nat.le_refl _)
  rw [show min 10 R = R by omega] at this
  exact this
theorem xocc_xct (f : Nat → Int32) (v : Int32) : ∀ n, xct (fun i => decide (f i = v)) n = xocc f v n
  | 0 => rfl
  | n + 1 => by
    unfold xct xocc
    rw [xocc_xct f v n]
    by_cases h : f n = v
    · rw [if_pos h, if_pos (decide_eq_true h)]
    · rw [if_neg h, if_neg (by simpa using h)]
theorem zon_o {w : Nat → Int32} {fc : Nat → Nat} {k : Nat} : ∀ {i : Nat}, (∀ j, j < i → fc j < 6) → (k < 9 ∨ (15 ≤ k ∧ k < 147 + zI w 6) ∨ 147 + zI w 6 + i ≤ k) → zon w fc i k = w k
  | 0, _, _ => rfl
  | i + 1, hf, h => by
    have h1 := hf i (by omega)
    unfold zon
    rw [upd_ne (by omega), upd_ne (by omega)]
    exact zon_o (fun j hj => hf j (by omega)) (by omega)
theorem zon_b {w : Nat → Int32} {fc : Nat → Nat} {j : Nat} : ∀ {i : Nat}, (∀ j, j < i → fc j < 6) → j < i → zon w fc i (147 + (zI w 6 + j)) = nI (fc j)
  | 0, _, h => absurd h (Nat.not_lt_zero _)
  | i + 1, hf, h => by
    have h1 := hf i (by omega)
    unfold zon
    rw [upd_ne (by omega)]
    by_cases e : j = i
    · subst e; rw [upd_at]
    · rw [upd_ne (by omega)]
      exact zon_b (fun j hj => hf j (by omega)) (by omega)
theorem ztake_o {w : Nat → Int32} {fc : Nat → Nat} {k i : Nat} (hf : ∀ j, j < i → fc j < 6) (h : (k < 9 ∧ k ≠ 6) ∨ (15 ≤ k ∧ k < 147 + zI w 6) ∨ 147 + zI w 6 + i ≤ k) : ztake w fc i k = w k := by
  unfold ztake
  rw [upd_ne (by omega)]
  exact zon_o hf (by omega)
theorem ztake_6 {w : Nat → Int32} {fc : Nat → Nat} {i : Nat} : ztake w fc i 6 = nI (zI w 6 + i) := upd_at
theorem ztake_inv {w : Nat → Int32} {fc : Nat → Nat} {m : Nat} (I : xInv w) (hM : zI w 6 + m ≤ 240) (hf : ∀ i, i < m → fc i < 6) : xInv (ztake w fc m) := by
  obtain ⟨M1, M2, M3⟩ := I.iM
  have i6 : zI (ztake w fc m) 6 = zI w 6 + m := zI_k ztake_6 (by omega)
  have eo : ∀ k, (k < 9 ∧ k ≠ 6) ∨ (15 ≤ k ∧ k < 147 + zI w 6) ∨ 147 + zI w 6 + m ≤ k → ztake w fc m k = w k := fun k h => ztake_o hf h
  have io : ∀ k, (k < 9 ∧ k ≠ 6) ∨ (15 ≤ k ∧ k < 147 + zI w 6) ∨ 147 + zI w 6 + m ≤ k → zI (ztake w fc m) k = zI w k := fun k h => by unfold zI; rw [eo k h]
  refine ⟨xnn_ag (eo 0 (by omega)) I.iA, xnn_ag (eo 1 (by omega)) I.iS, xnn_ag (eo 2 (by omega)) I.iH, xnn_ag (eo 3 (by omega)) I.iD, xnn_ag (eo 4 (by omega)) I.iR, xnn_ag (eo 5 (by omega)) I.iC, xnn_k ztake_6 (by omega) (by omega) (by omega), xnn_ag (eo 7 (by omega)) I.iK, fun k hk => ?_, ?_, fun k hk => ?_, fun k hk => ?_, fun r c hr hc => ?_⟩
  · rw [io 7 (by omega)] at hk
    have h1 := I.iB k hk
    have h2 := xnn_ag (eo (387 + k) (by omega)) h1
    rw [i6]
    exact ⟨h2.1, h2.2.1, by have := h2.2.2; omega⟩
  · rw [io 387 (by omega)]
    exact I.i0
  · rw [io 7 (by omega)] at hk
    rw [io (387 + k) (by omega), io (387 + (k + 1)) (by omega)]
    exact I.im k hk
  · rw [i6] at hk
    by_cases h : k < zI w 6
    · exact xnn_ag (eo _ (by omega)) (I.ib k h)
    · have e : ztake w fc m (147 + k) = nI (fc (k - zI w 6)) := by
        unfold ztake
        rw [upd_ne (by omega), show 147 + k = 147 + (zI w 6 + (k - zI w 6)) by omega]
        exact zon_b hf (by omega)
      have := hf (k - zI w 6) (by omega)
      exact xnn_k e (by omega) (by omega) (by omega)
  · rw [io 4 (by omega)] at hr
    rw [io 5 (by omega)] at hc
    have := I.iR.2.2
    have := I.iC.2.2
    exact xnn_ag (eo _ (by omega)) (I.ic r c hr hc)
theorem ztake_pc {w : Nat → Int32} {fc : Nat → Nat} {i : Nat} (I : xInv w) (hf : ∀ j, j < i → fc j < 6) (n : Nat) : pcol (ztake w fc i) n = pcol w n := by
  have hpl := I.pl n
  have eo : ∀ k, (k < 9 ∧ k ≠ 6) ∨ (15 ≤ k ∧ k < 147 + zI w 6) ∨ 147 + zI w 6 + i ≤ k → ztake w fc i k = w k := fun k h => ztake_o hf h
  have io : ∀ k, (k < 9 ∧ k ≠ 6) ∨ (15 ≤ k ∧ k < 147 + zI w 6) ∨ 147 + zI w 6 + i ≤ k → zI (ztake w fc i) k = zI w k := fun k h => by unfold zI; rw [eo k h]
  unfold pcol
  rw [io 0 (by omega), io 1 (by omega), io 4 (by omega), io 5 (by omega), eo _ (by omega)]
theorem le_sub_iff {m l H : Nat} (hm : m ≤ 100000) (hl : l ≤ 240) (hH : H ≤ 240) : nI m ≤ nI H - nI l ↔ l + m ≤ H := by
  by_cases h : l ≤ H
  · rw [pk_sub h, nI_leI (by omega) (by omega)]
    omega
  · have e : (nI H - nI l).toInt = (H : Int) - l := by
      rw [Int32.toInt_sub, nI_toInt (by omega), nI_toInt (by omega)]
      simp only [Int.bmod]
      split <;> omega
    rw [Int32.le_iff_toInt_le, e, nI_toInt (by omega)]
    omega
theorem zocc_s (fc : Nat → Nat) (m c : Nat) : zocc fc (m + 1) c = zocc fc m c + if fc m = c then 1 else 0 := by
  unfold zocc
  show xct _ m + _ = _
  by_cases h : fc m = c
  · rw [if_pos h, if_pos (decide_eq_true h)]
  · rw [if_neg h, if_neg (by simpa using h)]
theorem zocc_le (fc : Nat → Nat) (m c : Nat) : zocc fc m c ≤ m := xct_le _ m
section Q39_1
variable {G : xG} {x : Nat} {A T : List xE} {z hi tx ot wa pR pC pM fe kc : Nat → Int32} {s ln : Nat} {th oR oC ps rr ha nu : Int32} {hs : Int64}
theorem znx_is {z : Nat → Int32} (I : xInv z) (i : Nat) : pcol z (zI z 6 + i) = nI (znx z i) ∧ znx z i < 6 := by
  obtain ⟨c, h1, h2⟩ := I.pc (zI z 6 + i)
  unfold znx
  rw [h2, nI_clamp (by omega)]
  exact ⟨rfl, h1⟩
end Q39_1
theorem xct_rev (p : Nat → Bool) : ∀ n, xct p n = xct (fun j => p (n - 1 - j)) n
  | 0 => rfl
  | n + 1 => by
    have e : xct (fun j => p (n + 1 - 1 - j)) (n + 1) = xct (fun j => p (n + 1 - 1 - j)) (1 + n) := by rw [Nat.add_comm]
    have e2 := xct_add (fun j => p (n + 1 - 1 - j)) 1 n
    rw [e, e2]
    show xct p n + _ = (0 + if p (n + 1 - 1 - 0) = true then 1 else 0) + _
    rw [xct_rev p n, Nat.zero_add, Nat.add_comm]
    congr 1
    exact xct_congr fun k hk => congrArg p (by omega)
theorem xct_all {p : Nat → Bool} : ∀ {n : Nat}, (∀ k, k < n → p k = true) → xct p n = n
  | 0, _ => rfl
  | n + 1, h => by rw [xct_y (h n (by omega)), xct_all (fun k hk => h k (by omega))]
theorem xct_xdown {p : Nat → Bool} : ∀ {n : Nat}, (∀ k, k < n → p (k + 1) = true → p k = true) → xct (fun i => p (i + 1)) n = xdown p n
  | 0, _ => rfl
  | n + 1, h => by
    unfold xdown
    by_cases e : p (n + 1) = true
    · rw [if_pos e]
      refine xct_all fun k hk => ?_
      have dn : ∀ d, d ≤ n + 1 → p (n + 1 - d) = true := by
        intro d
        induction d with
        | zero => intro _; exact e
        | succ d ih =>
          intro hd
          have h1 := ih (by omega)
          refine h (n + 1 - (d + 1)) (by omega) ?_
          rw [show n + 1 - (d + 1) + 1 = n + 1 - d by omega]
          exact h1
      have := dn (n - k) (by omega)
      rw [show n + 1 - (n - k) = k + 1 by omega] at this
      exact this
    · rw [if_neg e, xct_n (n := n) e, xct_xdown (fun k hk => h k (by omega))]
theorem zoff_c {w : Nat → Int32} {l c : Nat} : ∀ {i : Nat}, (∀ j, j < i → zI w (147 + (l + j)) < 6) → zoff w l i (9 + c) = w (9 + c) + nI (xct (fun j => decide (zI w (147 + (l + j)) = c)) i)
  | 0, _ => (Int32.add_zero _).symm
  | i + 1, h => by
    have ih := zoff_c (c := c) (i := i) (fun j hj => h j (by omega))
    unfold zoff
    by_cases e : zI w (147 + (l + i)) = c
    · rw [xct_y (by simp [e]), e, upd_at, ih, Int32.add_assoc, nI_add]
    · rw [xct_n (by simp [e]), upd_ne (by omega), ih]
theorem upd_upd {f : Nat → Int32} {i : Nat} {v v' : Int32} : upd (upd f i v) i v' = upd f i v' := by
  funext k
  by_cases h : k = i
  · subst h; rw [upd_at, upd_at]
  · rw [upd_ne h, upd_ne h, upd_ne h]
theorem upd_self {f : Nat → Int32} {i : Nat} {v : Int32} (h : f i = v) : upd f i v = f := by
  funext k
  by_cases e : k = i
  · subst e; rw [upd_at, h]
  · rw [upd_ne e]
theorem xdown_p {p : Nat → Bool} (h0 : p 0 = true) : ∀ k, p (xdown p k) = true
  | 0 => h0
  | k + 1 => by
    unfold xdown
    by_cases e : p (k + 1) = true
    · rw [if_pos e]; exact e
    · rw [if_neg e]; exact xdown_p h0 k
theorem xdown_max {p : Nat → Bool} : ∀ {k j : Nat}, xdown p k < j → j ≤ k → p j = false
  | 0, j, h, hj => by omega
  | k + 1, j, h, hj => by
    unfold xdown at h
    by_cases e : p (k + 1) = true
    · rw [if_pos e] at h; omega
    · rw [if_neg e] at h
      by_cases q : j = k + 1
      · subst q; simpa using e
      · exact xdown_max h (by omega)
theorem zstr_le {z : Nat → Int32} (I : xInv z) (b : Nat) : zI z (387 + zstr z b) ≤ b :=
  of_decide_eq_true (xdown_p (p := fun s => decide (zI z (387 + s) ≤ b)) (decide_eq_true (by have := I.i0; show zI z (387 + 0) ≤ b; rw [Nat.add_zero, this]; exact Nat.zero_le _)) _)
theorem zstr_gt {z : Nat → Int32} {b s : Nat} (h : zstr z b < s) (hs : s < zI z 7) : b < zI z (387 + s) := by
  have := xdown_max (p := fun s => decide (zI z (387 + s) ≤ b)) h (show s ≤ zI z 7 - 1 by omega)
  have := of_decide_eq_false this
  omega
theorem zdn_lo {w : Nat → Int32} {a i k : Nat} (h : k < a) : zdn false w a i k = w k := by
  simp only [zdn]
  rw [if_neg (by decide), if_neg (by omega)]
theorem zdn_in {w : Nat → Int32} {a i k : Nat} (h : a ≤ k) (h2 : k < a + i) : zdn false w a i k = w k - nI 1 := by
  simp only [zdn]
  rw [if_neg (by decide), if_pos ⟨h, h2⟩]
theorem zdn_int {w : Nat → Int32} {a i k : Nat} (h : a ≤ k + 1) (h2 : k + 1 < a + i) : zdn true w a i k = w (k + 1) - nI 1 := by
  simp only [zdn]
  rw [if_pos trivial, if_pos ⟨h, h2⟩]
theorem zsh_in {w : Nat → Int32} {a i k : Nat} (h : a ≤ k) (h2 : k < a + i) : zsh w a i k = w (k + 1) := if_pos ⟨h, h2⟩
theorem zgo_is {z : Nat → Int32} {b : Nat} (h : zgo z b = true) : zlen z (zstr z b) = 1 ∧ zstr z b + 1 < zI z 7 := of_decide_eq_true h
theorem zcrush_7 {z : Nat → Int32} {b : Nat} (I : xInv z) : zcrush z b 7 = nI (if zgo z b = true then zI z 7 - 1 else zI z 7) := by
  unfold zcrush
  try dsimp only
  by_cases h : zgo z b = true
  · rw [if_pos h, if_pos h, upd_at]
  · rw [if_neg h, if_neg h, upd_ne (by decide), zdn_at _ _ (by omega)]
    unfold zcr
    have := I.iK.1
    rw [zsh_at _ (by omega), upd_ne (by omega)]
    exact this
/-- the numbers of a crushed work -/
theorem zcrush_v {z : Nat → Int32} {b k : Nat} (h6 : k ≠ 6) (h7 : k ≠ 7) : zcrush z b k = zdn (zgo z b) (zcr z b) (387 + (zstr z b + 1)) (zI z 7 - 1 - zstr z b) k := by
  unfold zcrush
  try dsimp only
  by_cases h : zgo z b = true
  · rw [if_pos h, upd_ne h7, upd_ne h6]
  · rw [if_neg h, upd_ne h6]
theorem zcrush_6 {z : Nat → Int32} {b : Nat} : zcrush z b 6 = nI (zI z 6 - 1) := by
  unfold zcrush
  try dsimp only
  by_cases h : zgo z b = true
  · rw [if_pos h, upd_ne (by decide), upd_at]
  · rw [if_neg h, upd_at]
theorem zcrush_o {z : Nat → Int32} {b k : Nat} (I : xInv z) (hb : b < zI z 6) (h6 : k ≠ 6) (h7 : k ≠ 7) (hk : k < 21 ∨ (27 ≤ k ∧ k < 147 + b)) : zcrush z b k = z k := by
  have hM := I.iM.2.2
  have hcc := (I.ib b hb).2.2
  rw [zcrush_v h6 h7, zdn_at _ _ (by omega)]
  unfold zcr
  rw [zsh_at _ (by omega), upd_ne (by omega)]
theorem zcrush_b {z : Nat → Int32} {b k : Nat} (I : xInv z) (hb : b < zI z 6) (h1 : b ≤ k) (h2 : k < zI z 6 - 1) : zcrush z b (147 + k) = z (147 + (k + 1)) := by
  have hM := I.iM.2.2
  have hcc := (I.ib b hb).2.2
  rw [zcrush_v (by omega) (by omega), zdn_at _ _ (by omega)]
  unfold zcr
  rw [zsh_in (by omega) (by omega), upd_ne (by omega)]
  exact congrArg z (by omega)
theorem zcrush_s0 {z : Nat → Int32} {b s : Nat} (I : xInv z) (hb : b < zI z 6) (h : s < zstr z b ∨ (s = zstr z b ∧ ¬ zgo z b = true)) : zcrush z b (387 + s) = z (387 + s) := by
  have hM := I.iM.2.2
  have hcc := (I.ib b hb).2.2
  have e : zcr z b (387 + s) = z (387 + s) := by
    unfold zcr
    rw [zsh_at _ (by omega), upd_ne (by omega)]
  rw [zcrush_v (by omega) (by omega)]
  rcases h with h | ⟨h, hg⟩
  · rw [zdn_at _ _ (by omega), e]
  · have hg2 : zgo z b = false := by simpa using hg
    rw [hg2, zdn_lo (by omega), e]
theorem zcrush_s1 {z : Nat → Int32} {b s : Nat} (I : xInv z) (hb : b < zI z 6) (hg : ¬ zgo z b = true) (h : zstr z b < s) (hs : s < zI z 7) : zcrush z b (387 + s) = nI (zI z (387 + s) - 1) := by
  have hM := I.iM.2.2
  have hcc := (I.ib b hb).2.2
  have hgt := zstr_gt h hs
  have hg2 : zgo z b = false := by simpa using hg
  have e : zcr z b (387 + s) = nI (zI z (387 + s)) := by
    unfold zcr
    rw [zsh_at _ (by omega), upd_ne (by omega)]
    exact (I.iB s hs).1
  rw [zcrush_v (by omega) (by omega), hg2, zdn_in (by omega) (by omega), e, nI_1s (by omega)]
theorem zcrush_s2 {z : Nat → Int32} {b s : Nat} (I : xInv z) (hb : b < zI z 6) (hg : zgo z b = true) (h : zstr z b ≤ s) (hs : s + 1 < zI z 7) : zcrush z b (387 + s) = nI (zI z (387 + (s + 1)) - 1) := by
  have hM := I.iM.2.2
  have hcc := (I.ib b hb).2.2
  have hgt := zstr_gt (s := s + 1) (show zstr z b < s + 1 by omega) hs
  have e : zcr z b (387 + (s + 1)) = nI (zI z (387 + (s + 1))) := by
    unfold zcr
    rw [zsh_at _ (by omega), upd_ne (by omega)]
    exact (I.iB (s + 1) hs).1
  rw [zcrush_v (by omega) (by omega), hg, zdn_int (by omega) (by omega), show 387 + s + 1 = 387 + (s + 1) by omega, e, nI_1s (by omega)]
theorem zcrush_inv {z : Nat → Int32} {b : Nat} (I : xInv z) (hb : b < zI z 6) : xInv (zcrush z b) := by
  have hM := I.iM.2.2
  have hK1 := I.iK.2.1
  have hK2 := I.iK.2.2
  have hR := I.iR.2.2
  have hC := I.iC.2.2
  have e6 : zI (zcrush z b) 6 = zI z 6 - 1 := zI_k zcrush_6 (by omega)
  have eo : ∀ k, k ≠ 6 → k ≠ 7 → (k < 21 ∨ (27 ≤ k ∧ k < 147 + b)) → zcrush z b k = z k := fun k => zcrush_o I hb
  have io : ∀ k, k ≠ 6 → k ≠ 7 → (k < 21 ∨ (27 ≤ k ∧ k < 147 + b)) → zI (zcrush z b) k = zI z k := fun k h1 h2 h3 => by unfold zI; rw [eo k h1 h2 h3]
  have hst := I.str b
  have hle := zstr_le I b
  obtain ⟨Bf, K', hK', e7, h7a, h7b, hBf, hbd, h0, hmo⟩ : ∃ (Bf : Nat → Nat) (K' : Nat), 1 ≤ K' ∧ zcrush z b 7 = nI K' ∧ K' ≤ 48 ∧ K' < 2 ^ 31 ∧ (∀ s, s < K' → zcrush z b (387 + s) = nI (Bf s)) ∧ (∀ s, s < K' → Bf s ≤ zI z 6 - 1) ∧ Bf 0 = 0 ∧ ∀ s, s + 1 < K' → Bf s ≤ Bf (s + 1) := by
    have e7 := zcrush_7 (b := b) I
    by_cases hg : zgo z b = true
    · obtain ⟨g1, g2⟩ := zgo_is hg
      rw [if_pos hg] at e7
      have hl : zI z (387 + (zstr z b + 1)) = zI z (387 + zstr z b) + 1 := by
        have h1 := (I.el (s := zstr z b) (by omega)).1
        unfold zlen at g1
        unfold zend at g1 h1
        rw [if_pos g2] at g1 h1
        omega
      refine ⟨fun s => if s < zstr z b then zI z (387 + s) else zI z (387 + (s + 1)) - 1, zI z 7 - 1, by omega, e7, by omega, by omega, fun s hs => ?_, fun s hs => ?_, ?_, fun s hs => ?_⟩
      · dsimp only
        by_cases h : s < zstr z b
        · rw [if_pos h, zcrush_s0 I hb (Or.inl h)]
          exact (I.iB s (by omega)).1
        · rw [if_neg h, zcrush_s2 I hb hg (by omega) (by omega)]
      · dsimp only
        by_cases h : s < zstr z b
        · rw [if_pos h]
          have mono : ∀ d, s + d < zI z 7 → zI z (387 + s) ≤ zI z (387 + (s + d)) := by
            intro d
            induction d with
            | zero => intro _; exact Nat.le_refl _
            | succ d ih =>
              intro hd
              have := I.im (s + d) (by omega)
              have := ih (by omega)
              rw [← Nat.add_assoc s d 1]
              omega
          have := mono (zstr z b - s) (by omega)
          rw [show s + (zstr z b - s) = zstr z b by omega] at this
          omega
        · rw [if_neg h]
          have := (I.iB (s + 1) (by omega)).2.2
          omega
      · dsimp only
        have h0 : zI z (387 + 0) = 0 := I.i0
        by_cases h : 0 < zstr z b
        · rw [if_pos h]; exact h0
        · rw [if_neg h]
          have e0 : zstr z b = 0 := by omega
          rw [e0] at hl
          omega
      · dsimp only
        have h1 := I.im s (by omega)
        have h2 := I.im (s + 1) (by omega)
        by_cases h : s + 1 < zstr z b
        · rw [if_pos (by omega), if_pos h]; exact h1
        · by_cases h3 : s < zstr z b
          · rw [if_pos h3, if_neg h]
            have e : s + 1 = zstr z b := by omega
            rw [← e] at hl
            omega
          · rw [if_neg h3, if_neg h]
            omega
    · rw [if_neg hg] at e7
      refine ⟨fun s => if s ≤ zstr z b then zI z (387 + s) else zI z (387 + s) - 1, zI z 7, by omega, e7, by omega, by omega, fun s hs => ?_, fun s hs => ?_, ?_, fun s hs => ?_⟩
      · dsimp only
        by_cases h : s ≤ zstr z b
        · rw [if_pos h, zcrush_s0 I hb (by
            by_cases e : s = zstr z b
            · exact Or.inr ⟨e, hg⟩
            · exact Or.inl (by omega))]
          exact (I.iB s hs).1
        · rw [if_neg h, zcrush_s1 I hb hg (by omega) hs]
      · dsimp only
        by_cases h : s ≤ zstr z b
        · rw [if_pos h]
          have mono : ∀ d, s + d < zI z 7 → zI z (387 + s) ≤ zI z (387 + (s + d)) := by
            intro d
            induction d with
            | zero => intro _; exact Nat.le_refl _
            | succ d ih =>
              intro hd
              have := I.im (s + d) (by omega)
              have := ih (by omega)
              rw [← Nat.add_assoc s d 1]
              omega
          have := mono (zstr z b - s) (by omega)
          rw [show s + (zstr z b - s) = zstr z b by omega] at this
          omega
        · rw [if_neg h]
          have := (I.iB s hs).2.2
          omega
      · dsimp only
        rw [if_pos (Nat.zero_le _)]
        exact I.i0
      · dsimp only
        have h1 := I.im s hs
        by_cases h : s + 1 ≤ zstr z b
        · rw [if_pos (by omega), if_pos h]; exact h1
        · by_cases h3 : s ≤ zstr z b
          · rw [if_pos h3, if_neg h]
            have e : s = zstr z b := by omega
            have h4 := zstr_gt (z := z) (b := b) (s := s + 1) (by omega) hs
            rw [← e] at hle
            omega
          · rw [if_neg h3, if_neg h]
            omega
  have i7 : zI (zcrush z b) 7 = K' := zI_k e7 h7b
  refine ⟨xnn_ag (eo 0 (by decide) (by decide) (by omega)) I.iA, xnn_ag (eo 1 (by decide) (by decide) (by omega)) I.iS, xnn_ag (eo 2 (by decide) (by decide) (by omega)) I.iH, xnn_ag (eo 3 (by decide) (by decide) (by omega)) I.iD, xnn_ag (eo 4 (by decide) (by decide) (by omega)) I.iR, xnn_ag (eo 5 (by decide) (by decide) (by omega)) I.iC, xnn_k zcrush_6 (by omega) (by omega) (by omega), xnn_k e7 h7b hK' h7a, fun k hk => ?_, ?_, fun k hk => ?_, fun k hk => ?_, fun r c hr hc => ?_⟩
  · rw [i7] at hk
    rw [e6]
    have := hbd k hk
    exact xnn_k (hBf k hk) (by omega) (by omega) this
  · exact (zI_k (f := zcrush z b) (i := 387) (hBf 0 (by omega)) (by omega)).trans h0
  · rw [i7] at hk
    have a1 := hbd k (by omega)
    have a2 := hbd (k + 1) hk
    rw [zI_k (hBf k (by omega)) (by omega), zI_k (hBf (k + 1) hk) (by omega)]
    exact hmo k hk
  · rw [e6] at hk
    by_cases h : k < b
    · exact xnn_ag (eo _ (by omega) (by omega) (by omega)) (I.ib k (by omega))
    · have h1 := I.ib (k + 1) (by omega)
      have e := zcrush_b I hb (show b ≤ k by omega) hk
      unfold xnn zI at h1 ⊢
      rw [e]
      exact h1
  · rw [io 4 (by decide) (by decide) (by omega)] at hr
    rw [io 5 (by decide) (by decide) (by omega)] at hc
    exact xnn_ag (eo _ (by omega) (by omega) (by omega)) (I.ic r c hr hc)
/-- a letter stands there -/
def zlet (co : Nat → Int32) (i : Nat) : Prop := zI co i ≠ 47 ∧ zdg (zI co i) = false
/-- the reading behind i characters -/
def zpb (ch : Bool) (co : Nat → Int32) (i : Nat) : Bool × Nat := (zps ch co i).getD (false, 0)
theorem zpb_is {ch : Bool} {co : Nat → Int32} {i : Nat} {s : Bool × Nat} (h : zps ch co i = some s) : zpb ch co i = s := by unfold zpb; rw [h]; rfl
theorem zps_s {ch : Bool} {co : Nat → Int32} {i : Nat} {s : Bool × Nat} (h : zps ch co i = some s) : zps ch co (i + 1) = zst ch s (zI co i) := by
  conv => lhs; unfold zps
  rw [h]
theorem zsr_n {co : Nat → Int32} {i : Nat} (h : zI co i ≠ 47) : zsr co (i + 1) = zsr co i := if_neg h
theorem zsr_y {co : Nat → Int32} {i : Nat} (h : zI co i = 47) : zsr co (i + 1) = zsr co i + 1 := if_pos h
theorem zwd_y {co : Nat → Int32} {i : Nat} (h : zlet co i) : zwd co (i + 1) (zsr co i) = zwd co i (zsr co i) + max 1 (znm co i) := if_pos ⟨h.1, h.2, rfl⟩
theorem zwd_n {co : Nat → Int32} {i r : Nat} (h : ¬ (zlet co i ∧ r = zsr co i)) : zwd co (i + 1) r = zwd co i r := if_neg (fun q => h ⟨⟨q.1, q.2.1⟩, q.2.2⟩)
theorem zwd_mono (co : Nat → Int32) (r i : Nat) : ∀ d, zwd co i r ≤ zwd co (i + d) r
  | 0 => Nat.le_refl _
  | d + 1 => by
    have := zwd_mono co r i d
    rw [← Nat.add_assoc]
    by_cases h : zlet co (i + d) ∧ r = zsr co (i + d)
    · obtain ⟨h1, rfl⟩ := h
      rw [zwd_y h1]
      omega
    · rw [zwd_n h]; exact this
theorem zcl_y {co : Nat → Int32} {i c : Nat} (h : zlet co i) (hc : zwd co i (zsr co i) ≤ c) : zcl co (i + 1) (zsr co i) c = zI co i - 97 := if_pos ⟨⟨h.1, h.2, rfl⟩, hc⟩
theorem zcl_n {co : Nat → Int32} {i r c : Nat} (h : ¬ (zlet co i ∧ r = zsr co i ∧ zwd co i r ≤ c)) : zcl co (i + 1) r c = zcl co i r c := if_neg (fun q => h ⟨⟨q.1.1, q.1.2.1⟩, q.1.2.2, q.2⟩)
theorem zcl_keep {co : Nat → Int32} {i r c : Nat} (h : c < zwd co i r) : ∀ d, zcl co (i + d) r c = zcl co i r c
  | 0 => rfl
  | d + 1 => by
    have := zwd_mono co r i d
    rw [← Nat.add_assoc, zcl_n (fun q => by have := q.2.2; omega)]
    exact zcl_keep h d
section Q39_2
variable {G : xG} {x : Nat} {A T : List xE} {z hi tx ot wa pR pC pM fe kc : Nat → Int32} {s ln : Nat} {th oR oC ps rr ha nu : Int32} {hs : Int64}
theorem zei_w {ch : Bool} {co : Nat → Int32} {n : Nat} (h : zwhole ch co n = true) : zei ch co 0 n = n ∧ zpb ch co n = (true, 0) := by
  have h2 : zps ch co n = some (true, 0) := of_decide_eq_true h
  have h1 := (zei_full (ch := ch) (co := co) n 0 (by intro q; cases q)).mpr (by rw [Nat.zero_add, h2]; intro q; cases q)
  rw [Nat.zero_add] at h1
  exact ⟨h1, zpb_is h2⟩
end Q39_2
/-- what lies outside stays as it is -/
theorem xInv_of {w z : Nat → Int32} (I : xInv z) (h0 : xnn w 0 3 15) (h1 : xnn w 1 0 11) (h2 : xnn w 2 5 240) (h3 : xnn w 3 0 5) (h4 : xnn w 4 1 10) (h5 : xnn w 5 1 12) (e6 : w 6 = z 6) (e7 : w 7 = z 7) (eb : ∀ k, 147 ≤ k → w k = z k) (hc : ∀ r c, r < zI w 4 → c < zI w 5 → xnn w (27 + (r * 12 + c)) 0 5) : xInv w := by
  have i6 : zI w 6 = zI z 6 := by unfold zI; rw [e6]
  have i7 : zI w 7 = zI z 7 := by unfold zI; rw [e7]
  have ib : ∀ k, 147 ≤ k → zI w k = zI z k := fun k hk => by unfold zI; rw [eb k hk]
  refine ⟨h0, h1, h2, h3, h4, h5, xnn_ag e6 I.iM, xnn_ag e7 I.iK, fun k hk => ?_, ?_, fun k hk => ?_, fun k hk => ?_, hc⟩
  · rw [i7] at hk
    rw [i6]
    exact xnn_ag (eb _ (by omega)) (I.iB k hk)
  · rw [ib 387 (by omega)]
    exact I.i0
  · rw [i7] at hk
    rw [ib _ (by omega), ib _ (by omega)]
    exact I.im k hk
  · rw [i6] at hk
    exact xnn_ag (eb _ (by omega)) (I.ib k hk)
theorem zset_inv {z : Nat → Int32} {a k : Nat} (I : xInv z) (ha : a < 4) (h1 : zlo a ≤ k) (h2 : k ≤ zhi a) : xInv (upd z a (nI k)) := by
  have hk : k < 2 ^ 31 := by
    have : zhi a ≤ 240 := by unfold zhi; split; omega; split; omega; split <;> omega
    omega
  have e : ∀ j lo hi, j < 4 → zlo j = lo → zhi j = hi → xnn z j lo hi → xnn (upd z a (nI k)) j lo hi := by
    intro j lo hi hj e1 e2 hx
    by_cases q : j = a
    · subst q
      exact xnn_k upd_at hk (by omega) (by omega)
    · exact xnn_ag (upd_ne q) hx
  have i4 : zI (upd z a (nI k)) 4 = zI z 4 := by unfold zI; rw [upd_ne (by omega)]
  have i5 : zI (upd z a (nI k)) 5 = zI z 5 := by unfold zI; rw [upd_ne (by omega)]
  refine xInv_of I (e 0 3 15 (by decide) rfl rfl I.iA) (e 1 0 11 (by decide) rfl rfl I.iS) (e 2 5 240 (by decide) rfl rfl I.iH) (e 3 0 5 (by decide) rfl rfl I.iD) (xnn_ag (upd_ne (by omega)) I.iR) (xnn_ag (upd_ne (by omega)) I.iC) (upd_ne (by omega)) (upd_ne (by omega)) (fun j hj => upd_ne (by omega)) (fun r c hr hc => ?_)
  rw [i4] at hr
  rw [i5] at hc
  exact xnn_ag (upd_ne (by omega)) (I.ic r c hr hc)
theorem zlaid_inv {z : Nat → Int32} {R C : Nat} {tc : Nat → Nat → Int32} (I : xInv z) (h1 : 1 ≤ R) (h2 : R ≤ 10) (h3 : 1 ≤ C) (h4 : C ≤ 12) (h : ∀ r c, r < R → c < C → ∃ j, j ≤ 5 ∧ tc r c = nI j) : xInv (zlaid z R C tc) := by
  have e : ∀ k, k ≠ 4 → k ≠ 5 → k < 27 ∨ 147 ≤ k → zlaid z R C tc k = z k := fun k => zlaid_o
  refine xInv_of I (xnn_ag (e 0 (by decide) (by decide) (by omega)) I.iA) (xnn_ag (e 1 (by decide) (by decide) (by omega)) I.iS) (xnn_ag (e 2 (by decide) (by decide) (by omega)) I.iH) (xnn_ag (e 3 (by decide) (by decide) (by omega)) I.iD) (xnn_k zlaid_4 (by omega) h1 h2) (xnn_k zlaid_5 (by omega) h3 h4) (e 6 (by decide) (by decide) (by omega)) (e 7 (by decide) (by decide) (by omega)) (fun k hk => e k (by omega) (by omega) (by omega)) (fun r c hr hc => ?_)
  rw [zI_k (zlaid_4 (w := z) (C := C) (tc := tc)) (by omega)] at hr
  rw [zI_k (zlaid_5 (w := z) (R := R) (tc := tc)) (by omega)] at hc
  obtain ⟨j, j1, j2⟩ := h r c hr hc
  exact xnn_k ((zlaid_c hr hc h2 h4).trans j2) (by omega) (Nat.zero_le _) j1
theorem zrM_6 {m : Nat} (h : 6 ≤ m) : zrM m = 6 := if_pos h
theorem zrM_l {m : Nat} (h : ¬ 6 ≤ m) : zrM m = m + 1 := if_neg h
section Q39_3
variable {w z : Nat → Int32} {sv : Nat → Nat → Int32} {q n l : Nat} {co hi : Nat → Int32}
theorem zbuy_inv {c : Nat} {v : Int32} (I : xInv z) (hc : c < 6) : xInv (zbuy z c v) := by
  have e : ∀ k, k < 9 ∨ 27 ≤ k → zbuy z c v k = z k := fun k hk => by unfold zbuy; rw [upd_ne (by omega), upd_ne (by omega)]
  have i4 : zI (zbuy z c v) 4 = zI z 4 := by unfold zI; rw [e 4 (by omega)]
  have i5 : zI (zbuy z c v) 5 = zI z 5 := by unfold zI; rw [e 5 (by omega)]
  refine xInv_of I (xnn_ag (e 0 (by omega)) I.iA) (xnn_ag (e 1 (by omega)) I.iS) (xnn_ag (e 2 (by omega)) I.iH) (xnn_ag (e 3 (by omega)) I.iD) (xnn_ag (e 4 (by omega)) I.iR) (xnn_ag (e 5 (by omega)) I.iC) (e 6 (by omega)) (e 7 (by omega)) (fun k hk => e k (by omega)) (fun r c hr hc => ?_)
  rw [i4] at hr
  rw [i5] at hc
  exact xnn_ag (e _ (by omega)) (I.ic r c hr hc)
theorem zrec_c {a b r c : Nat} (I : xInv z) (hab : ¬ a = b) (hr : r < zI z 4) (hc : c < zI z 5) : zrec z a b (27 + (r * 12 + c)) = xsw (nI a) (nI b) (z (27 + (r * 12 + c))) := by
  have hR := I.iR.2.2
  have hC := I.iC.2.2
  unfold zrec
  rw [if_neg hab, zcel_c (by omega)]
  unfold xlay
  rw [show (r * 12 + c) / 12 = r by omega, show (r * 12 + c) % 12 = c by omega, if_pos ⟨hr, hc⟩]
  show xsw (nI a) (nI b) (xsl z 27 120 (r * 12 + c)) = _
  rw [xsl_at (by omega)]
theorem zrec_o {a b k : Nat} (h : k < 27 ∨ 147 ≤ k) : zrec z a b k = z k := by
  unfold zrec
  by_cases hab : a = b
  · rw [if_pos hab]
  · rw [if_neg hab, zcel_o h]
theorem zrec_inv {a b : Nat} (I : xInv z) (ha : a < 6) (hb : b < 6) : xInv (zrec z a b) := by
  have i4 : zI (zrec z a b) 4 = zI z 4 := by unfold zI; rw [zrec_o (by omega)]
  have i5 : zI (zrec z a b) 5 = zI z 5 := by unfold zI; rw [zrec_o (by omega)]
  refine xInv_of I (xnn_ag (zrec_o (by omega)) I.iA) (xnn_ag (zrec_o (by omega)) I.iS) (xnn_ag (zrec_o (by omega)) I.iH) (xnn_ag (zrec_o (by omega)) I.iD) (xnn_ag (zrec_o (by omega)) I.iR) (xnn_ag (zrec_o (by omega)) I.iC) (zrec_o (by omega)) (zrec_o (by omega)) (fun k hk => zrec_o (by omega)) (fun r c hr hc => ?_)
  rw [i4] at hr
  rw [i5] at hc
  have hcell := I.ic r c hr hc
  by_cases hab : a = b
  · have e : zrec z a b = z := if_pos hab
    rw [e]; exact hcell
  · have e := zrec_c I hab hr hc
    unfold xsw at e
    by_cases h1 : z (27 + (r * 12 + c)) = nI a
    · rw [if_pos h1] at e; exact xnn_k e (by omega) (by omega) (by omega)
    · rw [if_neg h1] at e
      by_cases h2 : z (27 + (r * 12 + c)) = nI b
      · rw [if_pos h2] at e; exact xnn_k e (by omega) (by omega) (by omega)
      · rw [if_neg h2] at e; exact xnn_ag e hcell
theorem xTxt_0 : xTxt co 0 := ⟨Nat.zero_le _, fun i hi => absurd hi (Nat.not_lt_zero _)⟩
theorem zcrush_c {b c : Nat} (hc : c < 6) : zcrush z b (21 + c) = if c = zI z (147 + b) then z (21 + c) + nI 1 else z (21 + c) := by
  rw [zcrush_v (by omega) (by omega), zdn_at _ _ (by omega)]
  unfold zcr
  rw [zsh_at _ (by omega)]
  by_cases e : c = zI z (147 + b)
  · rw [if_pos e, e, upd_at]
  · rw [if_neg e, upd_ne (by omega)]
/-- an unpicked work's numbers -/
theorem zunp_6 {m : Nat} : zunp z m 6 = nI (zI z 6 - m) := by
  unfold zunp zoff2 zoff1
  rw [upd_ne (by decide), upd_ne (by decide), upd_at]
theorem zunp_7 {m : Nat} : zunp z m 7 = nI (1 + xct (fun i => decide (zI z (387 + (i + 1)) ≤ zI z 6 - m)) (zI z 7 - 1)) := upd_at
theorem zunp_8 {m : Nat} (hc : ∀ j, j < m → zI z (147 + (zI z 6 - m + j)) < 6) : zunp z m 8 = z 8 + nI m := by
  unfold zunp zoff2
  rw [upd_ne (by decide), upd_at]
  unfold zoff1
  rw [upd_ne (by decide), zoff_o _ _ _ hc (by omega)]
theorem zunp_o {m k : Nat} (hc : ∀ j, j < m → zI z (147 + (zI z 6 - m + j)) < 6) (h : k < 6 ∨ 15 ≤ k) : zunp z m k = z k := by
  unfold zunp zoff2 zoff1
  rw [upd_ne (by omega), upd_ne (by omega), upd_ne (by omega), zoff_o _ _ _ hc (by omega)]
theorem zunp_c {m c : Nat} (hc : ∀ j, j < m → zI z (147 + (zI z 6 - m + j)) < 6) : zunp z m (9 + c) = z (9 + c) + nI (xct (fun j => decide (zI z (147 + (zI z 6 - m + j)) = c)) m) := by
  unfold zunp zoff2 zoff1
  rw [upd_ne (by omega), upd_ne (by omega), upd_ne (by omega), zoff_c hc]
theorem zunp_inv {m : Nat} (I : xInv z) (hm : m ≤ zI z 6) : xInv (zunp z m) := by
  have hM := I.iM.2.2
  have hK := I.iK.2.2
  have hK1 := I.iK.2.1
  have hcz : ∀ j, j < m → zI z (147 + (zI z 6 - m + j)) < 6 := fun j hj => Nat.lt_succ_of_le (I.ib _ (by omega)).2.2
  have hxl : xct (fun i => decide (zI z (387 + (i + 1)) ≤ zI z 6 - m)) (zI z 7 - 1) ≤ zI z 7 - 1 := xct_le _ _
  have hxd : xct (fun i => decide (zI z (387 + (i + 1)) ≤ zI z 6 - m)) (zI z 7 - 1) = xdown (fun s => decide (zI z (387 + s) ≤ zI z 6 - m)) (zI z 7 - 1) := by
    refine xct_xdown (p := fun s => decide (zI z (387 + s) ≤ zI z 6 - m)) fun k hk h => ?_
    have h1 := I.im k (by omega)
    have h2 : zI z (387 + (k + 1)) ≤ zI z 6 - m := of_decide_eq_true h
    exact decide_eq_true (by omega)
  have hp : zI z (387 + xdown (fun s => decide (zI z (387 + s) ≤ zI z 6 - m)) (zI z 7 - 1)) ≤ zI z 6 - m :=
    of_decide_eq_true (xdown_p (p := fun s => decide (zI z (387 + s) ≤ zI z 6 - m)) (decide_eq_true (by have := I.i0; show zI z (387 + 0) ≤ _; rw [Nat.add_zero, this]; exact Nat.zero_le _)) _)
  rw [← hxd] at hp
  have e6 : zI (zunp z m) 6 = zI z 6 - m := zI_k zunp_6 (by omega)
  have e7 : zI (zunp z m) 7 = 1 + xct (fun i => decide (zI z (387 + (i + 1)) ≤ zI z 6 - m)) (zI z 7 - 1) := zI_k zunp_7 (by omega)
  have eo : ∀ k, k < 6 ∨ 15 ≤ k → zunp z m k = z k := fun k hk => zunp_o hcz hk
  have io : ∀ k, k < 6 ∨ 15 ≤ k → zI (zunp z m) k = zI z k := fun k hk => by unfold zI; rw [eo k hk]
  have mono : ∀ (d s : Nat), s + d < zI z 7 → zI z (387 + s) ≤ zI z (387 + (s + d)) := by
    intro d
    induction d with
    | zero => intro s _; exact Nat.le_refl _
    | succ d ih =>
      intro s hd
      have := I.im (s + d) (by omega)
      have := ih s (by omega)
      rw [← Nat.add_assoc s d 1]
      omega
  refine ⟨xnn_ag (eo 0 (by omega)) I.iA, xnn_ag (eo 1 (by omega)) I.iS, xnn_ag (eo 2 (by omega)) I.iH, xnn_ag (eo 3 (by omega)) I.iD, xnn_ag (eo 4 (by omega)) I.iR, xnn_ag (eo 5 (by omega)) I.iC, xnn_k zunp_6 (by omega) (by omega) (by omega), xnn_k zunp_7 (by omega) (by omega) (by omega), fun k hk => ?_, ?_, fun k hk => ?_, fun k hk => ?_, fun r c hr hc => ?_⟩
  · rw [e7] at hk
    rw [e6]
    have h1 := xnn_ag (eo (387 + k) (by omega)) (I.iB k (by omega))
    have h2 := mono (xct (fun i => decide (zI z (387 + (i + 1)) ≤ zI z 6 - m)) (zI z 7 - 1) - k) k (by omega)
    rw [show k + (xct (fun i => decide (zI z (387 + (i + 1)) ≤ zI z 6 - m)) (zI z 7 - 1) - k) = xct (fun i => decide (zI z (387 + (i + 1)) ≤ zI z 6 - m)) (zI z 7 - 1) by omega] at h2
    refine ⟨h1.1, Nat.zero_le _, ?_⟩
    rw [io _ (by omega)]
    omega
  · rw [io 387 (by omega)]
    exact I.i0
  · rw [e7] at hk
    rw [io _ (by omega), io _ (by omega)]
    exact I.im k (by omega)
  · rw [e6] at hk
    exact xnn_ag (eo _ (by omega)) (I.ib k (by omega))
  · rw [io 4 (by omega)] at hr
    rw [io 5 (by omega)] at hc
    exact xnn_ag (eo _ (by omega)) (I.ic r c hr hc)
end Q39_3

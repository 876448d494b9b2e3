/-! ===== the model: a bead crushed ===== -/
theorem xdown_p {p : Nat → Bool} (h0 : p 0 = true) : ∀ k, p (xdown p k) = true
  | 0 => h0
  | k + 1 => by
    unfold xdown
    by_cases e : p (k + 1) = true
    · rw [if_pos e]; exact e
    · rw [if_neg e]; exact xdown_p h0 k
theorem xdown_max {p : Nat → Bool} : ∀ {k j : Nat}, xdown p k < j → j ≤ k → p j = false
  | 0, j, h, hj => by omega
  | k + 1, j, h, hj => by
    unfold xdown at h
    by_cases e : p (k + 1) = true
    · rw [if_pos e] at h; omega
    · rw [if_neg e] at h
      by_cases q : j = k + 1
      · subst q; simpa using e
      · exact xdown_max h (by omega)
theorem zstr_le {z : Nat → Int32} (I : xInv z) (b : Nat) : zI z (387 + zstr z b) ≤ b :=
  of_decide_eq_true (xdown_p (p := fun s => decide (zI z (387 + s) ≤ b)) (decide_eq_true (by have := I.i0; show zI z (387 + 0) ≤ b; rw [Nat.add_zero, this]; exact Nat.zero_le _)) _)
theorem zstr_gt {z : Nat → Int32} {b s : Nat} (h : zstr z b < s) (hs : s < zI z 7) : b < zI z (387 + s) := by
  have := xdown_max (p := fun s => decide (zI z (387 + s) ≤ b)) h (show s ≤ zI z 7 - 1 by omega)
  have := of_decide_eq_false this
  omega
theorem zdn_lo {w : Nat → Int32} {a i k : Nat} (h : k < a) : zdn false w a i k = w k := by
  simp only [zdn]
  rw [if_neg (by decide), if_neg (by omega)]
theorem zdn_in {w : Nat → Int32} {a i k : Nat} (h : a ≤ k) (h2 : k < a + i) : zdn false w a i k = w k - nI 1 := by
  simp only [zdn]
  rw [if_neg (by decide), if_pos ⟨h, h2⟩]
theorem zdn_int {w : Nat → Int32} {a i k : Nat} (h : a ≤ k + 1) (h2 : k + 1 < a + i) : zdn true w a i k = w (k + 1) - nI 1 := by
  simp only [zdn]
  rw [if_pos trivial, if_pos ⟨h, h2⟩]
theorem zsh_in {w : Nat → Int32} {a i k : Nat} (h : a ≤ k) (h2 : k < a + i) : zsh w a i k = w (k + 1) := if_pos ⟨h, h2⟩
def mcr1 (z : Nat → Int32) (b : Nat) : Nat → Int32 := upd (upd z (21 + zI z (147 + b)) (z (21 + zI z (147 + b)) + nI 1)) 6 (nI (zI z 6 - 1))
def mcr2 (z : Nat → Int32) (b : Nat) : Nat → Int32 := zsh (mcr1 z b) (147 + b) (zI z 6 - 1 - b)
def mcr3 (z : Nat → Int32) (b : Nat) : Nat → Int32 := zdn false (mcr2 z b) (387 + (zstr z b + 1)) (zI z 7 - 1 - zstr z b)
def mcrush (z : Nat → Int32) (b : Nat) : Nat → Int32 := if zgo z b = true then zsh (upd (mcr3 z b) 7 (nI (zI z 7 - 1))) (387 + zstr z b) (zI z 7 - 1 - zstr z b) else mcr3 z b
theorem mcr2_eq {z : Nat → Int32} {b : Nat} : mcr2 z b = upd (zcr z b) 6 (nI (zI z 6 - 1)) := by
  funext k
  unfold mcr2 zcr mcr1
  by_cases h6 : k = 6
  · subst h6
    rw [upd_at, zsh_at _ (by omega), upd_at]
  · rw [upd_ne h6]
    unfold zsh
    by_cases h : 147 + b ≤ k ∧ k < 147 + b + (zI z 6 - 1 - b)
    · rw [if_pos h, if_pos h, upd_ne (by omega)]
    · rw [if_neg h, if_neg h, upd_ne h6]
theorem zdn_upd {g : Bool} {w : Nat → Int32} {a n i : Nat} {v : Int32} (h : i + 1 < a) : zdn g (upd w i v) a n = upd (zdn g w a n) i v := by
  funext k
  by_cases e : k = i
  · subst e
    rw [upd_at, zdn_at g _ (by omega), upd_at]
  · rw [upd_ne e]
    simp only [zdn]
    cases g
    · simp only [Bool.false_eq_true, if_false]
      by_cases q : a ≤ k ∧ k < a + n
      · rw [if_pos q, if_pos q, upd_ne e]
      · rw [if_neg q, if_neg q, upd_ne e]
    · simp only [if_true]
      by_cases q : a ≤ k + 1 ∧ k + 1 < a + n
      · rw [if_pos q, if_pos q, upd_ne (by omega)]
      · rw [if_neg q, if_neg q, upd_ne e]
theorem mcr3_eq {z : Nat → Int32} {b : Nat} : mcr3 z b = upd (zdn false (zcr z b) (387 + (zstr z b + 1)) (zI z 7 - 1 - zstr z b)) 6 (nI (zI z 6 - 1)) := by
  unfold mcr3
  rw [mcr2_eq, zdn_upd (by omega)]
theorem mcrush_n {z : Nat → Int32} {b : Nat} (h : ¬ zgo z b = true) : mcrush z b = zcrush z b := by
  have e : zgo z b = false := by simpa using h
  unfold mcrush zcrush
  rw [if_neg h, mcr3_eq]
  try dsimp only
  rw [if_neg h, e]
theorem mcrush_y {z : Nat → Int32} {b k : Nat} (hK : zstr z b + 1 < zI z 7) (h : zgo z b = true) (hk : k < 387 + (zI z 7 - 1)) : mcrush z b k = zcrush z b k := by
  unfold mcrush zcrush
  rw [if_pos h, mcr3_eq]
  try dsimp only
  rw [if_pos h, h]
  by_cases h1 : k < 387 + zstr z b
  · rw [zsh_at _ (by omega)]
    by_cases h7 : k = 7
    · subst h7; rw [upd_at, upd_at]
    · rw [upd_ne h7, upd_ne h7]
      by_cases h6 : k = 6
      · subst h6; rw [upd_at, upd_at]
      · rw [upd_ne h6, upd_ne h6, zdn_lo (by omega), zdn_at true _ (by omega)]
  · rw [zsh_in (by omega) (by omega), upd_ne (by omega), upd_ne (by omega), upd_ne (by omega), upd_ne (by omega), zdn_in (by omega) (by omega), zdn_int (by omega) (by omega)]
theorem zgo_is {z : Nat → Int32} {b : Nat} (h : zgo z b = true) : zlen z (zstr z b) = 1 ∧ zstr z b + 1 < zI z 7 := of_decide_eq_true h
theorem zcrush_7 {z : Nat → Int32} {b : Nat} (I : xInv z) : zcrush z b 7 = nI (if zgo z b = true then zI z 7 - 1 else zI z 7) := by
  unfold zcrush
  try dsimp only
  by_cases h : zgo z b = true
  · rw [if_pos h, if_pos h, upd_at]
  · rw [if_neg h, if_neg h, upd_ne (by decide), zdn_at _ _ (by omega)]
    unfold zcr
    have := I.iK.1
    rw [zsh_at _ (by omega), upd_ne (by omega)]
    exact this
theorem mcrush_ag {z : Nat → Int32} {b : Nat} (I : xInv z) (hb : b < zI z 6) : xag (mcrush z b) (zcrush z b) := by
  by_cases h : zgo z b = true
  · obtain ⟨g1, g2⟩ := zgo_is h
    have e7 : zI (zcrush z b) 7 = zI z 7 - 1 := by
      have := zcrush_7 (b := b) I
      rw [if_pos h] at this
      exact zI_k this (by have := I.iK.2.2; omega)
    have e6 : zI (zcrush z b) 6 = zI z 6 - 1 := by
      refine zI_k (k := zI z 6 - 1) ?_ (by have := I.iM.2.2; omega)
      unfold zcrush
      try dsimp only
      rw [if_pos h, upd_ne (by decide), upd_at]
    have e4 : zI (zcrush z b) 4 = zI z 4 := by
      unfold zI zcrush zcr
      try dsimp only
      rw [if_pos h, upd_ne (by decide), upd_ne (by decide), zdn_at _ _ (by omega), zsh_at _ (by omega), upd_ne (by omega)]
    have e5 : zI (zcrush z b) 5 = zI z 5 := by
      unfold zI zcrush zcr
      try dsimp only
      rw [if_pos h, upd_ne (by decide), upd_ne (by decide), zdn_at _ _ (by omega), zsh_at _ (by omega), upd_ne (by omega)]
    have hM := I.iM.2.2
    have hR := I.iR.2.2
    have hC := I.iC.2.2
    exact ⟨fun k hk => mcrush_y g2 h (by omega), fun r c hr hc => mcrush_y g2 h (by omega), fun k hk => mcrush_y g2 h (by omega), fun k hk => mcrush_y g2 h (by omega)⟩
  · rw [mcrush_n h]
    exact xag_refl _
/-- the numbers of a crushed work -/
theorem zcrush_v {z : Nat → Int32} {b k : Nat} (h6 : k ≠ 6) (h7 : k ≠ 7) : zcrush z b k = zdn (zgo z b) (zcr z b) (387 + (zstr z b + 1)) (zI z 7 - 1 - zstr z b) k := by
  unfold zcrush
  try dsimp only
  by_cases h : zgo z b = true
  · rw [if_pos h, upd_ne h7, upd_ne h6]
  · rw [if_neg h, upd_ne h6]
theorem zcrush_6 {z : Nat → Int32} {b : Nat} : zcrush z b 6 = nI (zI z 6 - 1) := by
  unfold zcrush
  try dsimp only
  by_cases h : zgo z b = true
  · rw [if_pos h, upd_ne (by decide), upd_at]
  · rw [if_neg h, upd_at]
theorem zcrush_o {z : Nat → Int32} {b k : Nat} (I : xInv z) (hb : b < zI z 6) (h6 : k ≠ 6) (h7 : k ≠ 7) (hk : k < 21 ∨ (27 ≤ k ∧ k < 147 + b)) : zcrush z b k = z k := by
  have hM := I.iM.2.2
  have hcc := (I.ib b hb).2.2
  rw [zcrush_v h6 h7, zdn_at _ _ (by omega)]
  unfold zcr
  rw [zsh_at _ (by omega), upd_ne (by omega)]
theorem zcrush_b {z : Nat → Int32} {b k : Nat} (I : xInv z) (hb : b < zI z 6) (h1 : b ≤ k) (h2 : k < zI z 6 - 1) : zcrush z b (147 + k) = z (147 + (k + 1)) := by
  have hM := I.iM.2.2
  have hcc := (I.ib b hb).2.2
  rw [zcrush_v (by omega) (by omega), zdn_at _ _ (by omega)]
  unfold zcr
  rw [zsh_in (by omega) (by omega), upd_ne (by omega)]
  exact congrArg z (by omega)
theorem zcrush_s0 {z : Nat → Int32} {b s : Nat} (I : xInv z) (hb : b < zI z 6) (h : s < zstr z b ∨ (s = zstr z b ∧ ¬ zgo z b = true)) : zcrush z b (387 + s) = z (387 + s) := by
  have hM := I.iM.2.2
  have hcc := (I.ib b hb).2.2
  have e : zcr z b (387 + s) = z (387 + s) := by
    unfold zcr
    rw [zsh_at _ (by omega), upd_ne (by omega)]
  rw [zcrush_v (by omega) (by omega)]
  rcases h with h | ⟨h, hg⟩
  · rw [zdn_at _ _ (by omega), e]
  · have hg2 : zgo z b = false := by simpa using hg
    rw [hg2, zdn_lo (by omega), e]
theorem zcrush_s1 {z : Nat → Int32} {b s : Nat} (I : xInv z) (hb : b < zI z 6) (hg : ¬ zgo z b = true) (h : zstr z b < s) (hs : s < zI z 7) : zcrush z b (387 + s) = nI (zI z (387 + s) - 1) := by
  have hM := I.iM.2.2
  have hcc := (I.ib b hb).2.2
  have hgt := zstr_gt h hs
  have hg2 : zgo z b = false := by simpa using hg
  have e : zcr z b (387 + s) = nI (zI z (387 + s)) := by
    unfold zcr
    rw [zsh_at _ (by omega), upd_ne (by omega)]
    exact (I.iB s hs).1
  rw [zcrush_v (by omega) (by omega), hg2, zdn_in (by omega) (by omega), e, nI_1s (by omega)]
theorem zcrush_s2 {z : Nat → Int32} {b s : Nat} (I : xInv z) (hb : b < zI z 6) (hg : zgo z b = true) (h : zstr z b ≤ s) (hs : s + 1 < zI z 7) : zcrush z b (387 + s) = nI (zI z (387 + (s + 1)) - 1) := by
  have hM := I.iM.2.2
  have hcc := (I.ib b hb).2.2
  have hgt := zstr_gt (s := s + 1) (show zstr z b < s + 1 by omega) hs
  have e : zcr z b (387 + (s + 1)) = nI (zI z (387 + (s + 1))) := by
    unfold zcr
    rw [zsh_at _ (by omega), upd_ne (by omega)]
    exact (I.iB (s + 1) hs).1
  rw [zcrush_v (by omega) (by omega), hg, zdn_int (by omega) (by omega), show 387 + s + 1 = 387 + (s + 1) by omega, e, nI_1s (by omega)]
theorem zcrush_inv {z : Nat → Int32} {b : Nat} (I : xInv z) (hb : b < zI z 6) : xInv (zcrush z b) := by
  have hM := I.iM.2.2
  have hK1 := I.iK.2.1
  have hK2 := I.iK.2.2
  have hR := I.iR.2.2
  have hC := I.iC.2.2
  have e6 : zI (zcrush z b) 6 = zI z 6 - 1 := zI_k zcrush_6 (by omega)
  have eo : ∀ k, k ≠ 6 → k ≠ 7 → (k < 21 ∨ (27 ≤ k ∧ k < 147 + b)) → zcrush z b k = z k := fun k => zcrush_o I hb
  have io : ∀ k, k ≠ 6 → k ≠ 7 → (k < 21 ∨ (27 ≤ k ∧ k < 147 + b)) → zI (zcrush z b) k = zI z k := fun k h1 h2 h3 => by unfold zI; rw [eo k h1 h2 h3]
  have hst := I.str b
  have hle := zstr_le I b
  obtain ⟨Bf, K', hK', e7, h7a, h7b, hBf, hbd, h0, hmo⟩ : ∃ (Bf : Nat → Nat) (K' : Nat), 1 ≤ K' ∧ zcrush z b 7 = nI K' ∧ K' ≤ 48 ∧ K' < 2 ^ 31 ∧ (∀ s, s < K' → zcrush z b (387 + s) = nI (Bf s)) ∧ (∀ s, s < K' → Bf s ≤ zI z 6 - 1) ∧ Bf 0 = 0 ∧ ∀ s, s + 1 < K' → Bf s ≤ Bf (s + 1) := by
    have e7 := zcrush_7 (b := b) I
    by_cases hg : zgo z b = true
    · obtain ⟨g1, g2⟩ := zgo_is hg
      rw [if_pos hg] at e7
      have hl : zI z (387 + (zstr z b + 1)) = zI z (387 + zstr z b) + 1 := by
        have h1 := (I.el (s := zstr z b) (by omega)).1
        unfold zlen at g1
        unfold zend at g1 h1
        rw [if_pos g2] at g1 h1
        omega
      refine ⟨fun s => if s < zstr z b then zI z (387 + s) else zI z (387 + (s + 1)) - 1, zI z 7 - 1, by omega, e7, by omega, by omega, fun s hs => ?_, fun s hs => ?_, ?_, fun s hs => ?_⟩
      · dsimp only
        by_cases h : s < zstr z b
        · rw [if_pos h, zcrush_s0 I hb (Or.inl h)]
          exact (I.iB s (by omega)).1
        · rw [if_neg h, zcrush_s2 I hb hg (by omega) (by omega)]
      · dsimp only
        by_cases h : s < zstr z b
        · rw [if_pos h]
          have mono : ∀ d, s + d < zI z 7 → zI z (387 + s) ≤ zI z (387 + (s + d)) := by
            intro d
            induction d with
            | zero => intro _; exact Nat.le_refl _
            | succ d ih =>
              intro hd
              have := I.im (s + d) (by omega)
              have := ih (by omega)
              rw [← Nat.add_assoc s d 1]
              omega
          have := mono (zstr z b - s) (by omega)
          rw [show s + (zstr z b - s) = zstr z b by omega] at this
          omega
        · rw [if_neg h]
          have := (I.iB (s + 1) (by omega)).2.2
          omega
      · dsimp only
        have h0 : zI z (387 + 0) = 0 := I.i0
        by_cases h : 0 < zstr z b
        · rw [if_pos h]; exact h0
        · rw [if_neg h]
          have e0 : zstr z b = 0 := by omega
          rw [e0] at hl
          omega
      · dsimp only
        have h1 := I.im s (by omega)
        have h2 := I.im (s + 1) (by omega)
        by_cases h : s + 1 < zstr z b
        · rw [if_pos (by omega), if_pos h]; exact h1
        · by_cases h3 : s < zstr z b
          · rw [if_pos h3, if_neg h]
            have e : s + 1 = zstr z b := by omega
            rw [← e] at hl
            omega
          · rw [if_neg h3, if_neg h]
            omega
    · rw [if_neg hg] at e7
      refine ⟨fun s => if s ≤ zstr z b then zI z (387 + s) else zI z (387 + s) - 1, zI z 7, by omega, e7, by omega, by omega, fun s hs => ?_, fun s hs => ?_, ?_, fun s hs => ?_⟩
      · dsimp only
        by_cases h : s ≤ zstr z b
        · rw [if_pos h, zcrush_s0 I hb (by
            by_cases e : s = zstr z b
            · exact Or.inr ⟨e, hg⟩
            · exact Or.inl (by omega))]
          exact (I.iB s hs).1
        · rw [if_neg h, zcrush_s1 I hb hg (by omega) hs]
      · dsimp only
        by_cases h : s ≤ zstr z b
        · rw [if_pos h]
          have mono : ∀ d, s + d < zI z 7 → zI z (387 + s) ≤ zI z (387 + (s + d)) := by
            intro d
            induction d with
            | zero => intro _; exact Nat.le_refl _
            | succ d ih =>
              intro hd
              have := I.im (s + d) (by omega)
              have := ih (by omega)
              rw [← Nat.add_assoc s d 1]
              omega
          have := mono (zstr z b - s) (by omega)
          rw [show s + (zstr z b - s) = zstr z b by omega] at this
          omega
        · rw [if_neg h]
          have := (I.iB s hs).2.2
          omega
      · dsimp only
        rw [if_pos (Nat.zero_le _)]
        exact I.i0
      · dsimp only
        have h1 := I.im s hs
        by_cases h : s + 1 ≤ zstr z b
        · rw [if_pos (by omega), if_pos h]; exact h1
        · by_cases h3 : s ≤ zstr z b
          · rw [if_pos h3, if_neg h]
            have e : s = zstr z b := by omega
            have h4 := zstr_gt (z := z) (b := b) (s := s + 1) (by omega) hs
            rw [← e] at hle
            omega
          · rw [if_neg h3, if_neg h]
            omega
  have i7 : zI (zcrush z b) 7 = K' := zI_k e7 h7b
  refine ⟨xnn_ag (eo 0 (by decide) (by decide) (by omega)) I.iA, xnn_ag (eo 1 (by decide) (by decide) (by omega)) I.iS, xnn_ag (eo 2 (by decide) (by decide) (by omega)) I.iH, xnn_ag (eo 3 (by decide) (by decide) (by omega)) I.iD, xnn_ag (eo 4 (by decide) (by decide) (by omega)) I.iR, xnn_ag (eo 5 (by decide) (by decide) (by omega)) I.iC, xnn_k zcrush_6 (by omega) (by omega) (by omega), xnn_k e7 h7b hK' h7a, fun k hk => ?_, ?_, fun k hk => ?_, fun k hk => ?_, fun r c hr hc => ?_⟩
  · rw [i7] at hk
    rw [e6]
    have := hbd k hk
    exact xnn_k (hBf k hk) (by omega) (by omega) this
  · exact (zI_k (f := zcrush z b) (i := 387) (hBf 0 (by omega)) (by omega)).trans h0
  · rw [i7] at hk
    have a1 := hbd k (by omega)
    have a2 := hbd (k + 1) hk
    rw [zI_k (hBf k (by omega)) (by omega), zI_k (hBf (k + 1) hk) (by omega)]
    exact hmo k hk
  · rw [e6] at hk
    by_cases h : k < b
    · exact xnn_ag (eo _ (by omega) (by omega) (by omega)) (I.ib k (by omega))
    · have h1 := I.ib (k + 1) (by omega)
      have e := zcrush_b I hb (show b ≤ k by omega) hk
      unfold xnn zI at h1 ⊢
      rw [e]
      exact h1
  · rw [io 4 (by decide) (by decide) (by omega)] at hr
    rw [io 5 (by decide) (by decide) (by omega)] at hc
    exact xnn_ag (eo _ (by omega) (by omega) (by omega)) (I.ic r c hr hc)
def oCruM (m : xMS) (p : Int32) : (Nat × Int32) × xMS := if xlt p (zI m.1 6) then ((0, nI (zI m.1 6 - 1)), mSav m (mcrush m.1 (pN p)) m.2.2.2.1) else ((1, 0), m)
section P48
variable {G : xG} {x : Nat} {A T : List xE} {z hi tx ot wa pR pC pM fe kc : Nat → Int32} {s ln : Nat} {th oR oC ps rr ha nu : Int32} {hs : Int64}
theorem S_M_endOfL {hp : List xE} {st : Int32} {mo : List Value} {a e K : Nat} (O : hp[71]? = some (.inr (5, .ref 72 :: .int st :: mo))) (Z : hp[72]? = some (.inl (0, 435, .inl z))) (h7 : z 7 = nI K) (hs : a + 1 < K) (hK : K ≤ 48) (he : z (387 + (a + 1)) = nI e) : xMet G M_endOf [.ref 71, .int (nI a)] hp x 0 0 (xRetV (.int (nI e)) hp) := by
  refine xw_iload_n 1 dX5_endOf_0 rfl rfl ?_
  refine xw_aload_n 2 dX5_endOf_1 rfl rfl rfl ?_
  refine xw_get 5 dX5_endOf_2 rfl f_X5_7 (O) rfl ?_
  refine xw_bipush 7 (nI 7) dX5_endOf_5 rfl (by decide) ?_
  refine xw_ialv (j := 7) 8 dX5_endOf_7 rfl (Z) (rfl) (by decide) (by decide) (h7) ?_
  refine xw_iconst 9 (nI 1) dX5_endOf_8 rfl (xofI 1) ?_
  refine xw_isub 10 dX5_endOf_9 rfl ?_
  rw [nI_1s (by omega)]
  refine xw_icmp_ne 23 13 dX5_endOf_10 rfl rfl (fun h10 => ?_) (fun h10 => absurd h10 (fun q => by rw [nI_eq (by omega) (by omega)] at q; omega))
  refine xw_aload_n 24 dX5_endOf_23 rfl rfl rfl ?_
  refine xw_get 27 dX5_endOf_24 rfl f_X5_7 (O) rfl ?_
  refine xw_sipush 30 (nI 387) dX5_endOf_27 rfl (by decide) ?_
  refine xw_iload_n 31 dX5_endOf_30 rfl rfl ?_
  refine xw_iadd 32 dX5_endOf_31 rfl ?_
  rw [nI_add]
  refine xw_iconst 33 (nI 1) dX5_endOf_32 rfl (xofI 1) ?_
  refine xw_iadd 34 dX5_endOf_33 rfl ?_
  refine xw_ialv (j := _) 35 dX5_endOf_34 rfl (Z) (nI_add _ _) (by omega) (by omega) ((congrArg z (show 387 + a + 1 = 387 + (a + 1) by omega)).trans he) ?_
  exact xw_ireturn dX5_endOf_35 rfl (⟨rfl, rfl⟩)
theorem S_M_crush {p : Int32} (hA : A.length = 71) (I : xInv z) (hs6 : s ≤ 6) : xMet G M_crush [.ref 71, .int p] (mH A z (nI s) hi (nI ln) tx th ot oR oC wa pR pC pM ps rr ha nu fe kc hs T) x 0 0 (xQm A T (oCruM (z, hi, s, ln, tx) p).1 (oCruM (z, hi, s, ln, tx) p).2) := by
  have hA1 := I.iA.2.1
  have hA2 := I.iA.2.2
  have hS2 := I.iS.2.2
  have hR1 := I.iR.2.1
  have hR2 := I.iR.2.2
  have hC1 := I.iC.2.1
  have hC2 := I.iC.2.2
  have hM2 := I.iM.2.2
  have hK1 := I.iK.2.1
  have hK2 := I.iK.2.2
  unfold oCruM
  dsimp only
  by_cases g0 : xlt p (zI z 6)
  · have w0 : nI (if xlt p (zI z 6) then 1 else 0) = nI 1 := bIf g0
    rw [if_pos g0]
    obtain ⟨b, hb, rfl⟩ := xlt_y (by omega) g0
    rw [pN_k (by omega)]
    have hst := I.str b
    have hle := zstr_le I b
    have hbd := I.ib b hb
    have hbd2 := hbd.2.2
    have hBs := I.iB _ hst
    have m1o : ∀ k, k ≠ 6 → k ≠ 21 + (zI z (147 + b)) → mcr1 z b k = z k := fun k h1 h2 => by unfold mcr1; rw [upd_ne h1, upd_ne h2]
    have m16 : mcr1 z b 6 = nI (zI z 6 - 1) := upd_at
    have m2o : ∀ k, k ≠ 6 → k ≠ 21 + (zI z (147 + b)) → (k < 147 + b ∨ 387 ≤ k) → mcr2 z b k = z k := fun k h1 h2 h3 => by
      unfold mcr2
      rw [zsh_at _ (by omega), m1o k h1 h2]
    have m26 : mcr2 z b 6 = nI (zI z 6 - 1) := by
      unfold mcr2
      rw [zsh_at _ (by omega), m16]
    have m3o : ∀ k, k < 387 + ((zstr z b) + 1) → mcr3 z b k = mcr2 z b k := fun k h => zdn_lo h
    have m36 : mcr3 z b 6 = nI (zI z 6 - 1) := (m3o 6 (by omega)).trans m26
    have m37 : mcr3 z b 7 = nI (zI z 7) := ((m3o 7 (by omega)).trans (m2o 7 (by decide) (by omega) (by omega))).trans I.iK.1
    have m3s : mcr3 z b (387 + (zstr z b)) = nI (zI z (387 + (zstr z b))) := ((m3o _ (by omega)).trans (m2o _ (by omega) (by omega) (by omega))).trans hBs.1
    have tail : xW G M_crush (xQm A T (0, nI (zI z 6 - 1)) (mSav (z, hi, s, ln, tx) (mcrush z b) ln)) 145 [(2, .int (nI (zstr z b))), (0, .ref 71), (1, .int (nI b))] [] (mH A (mcr3 z b) (nI (zrM s)) (mhis z hi s) (nI ln) tx (nI 0) ot oR oC wa pR pC pM ps rr ha nu fe kc hs T) x 0 0 := by
      by_cases hl : (zstr z b) + 1 < zI z 7
      · have hBn := I.iB _ hl
        have hgt := zstr_gt (z := z) (b := b) (s := (zstr z b) + 1) (by omega) hl
        have m3n : mcr3 z b (387 + ((zstr z b) + 1)) = nI (zI z (387 + ((zstr z b) + 1)) - 1) := by
          show zdn false _ _ _ _ = _
          rw [zdn_in (by omega) (by omega), m2o _ (by omega) (by omega) (by omega), hBn.1, nI_1s (by omega)]
        have hend : zend z (zstr z b) = zI z (387 + ((zstr z b) + 1)) := if_pos hl
        have hM3 := hBn.2.2
        by_cases hg : zI z (387 + ((zstr z b) + 1)) - 1 = zI z (387 + (zstr z b))
        · have hgo : zgo z b = true := decide_eq_true ⟨by unfold zlen; rw [hend]; omega, hl⟩
          have em : mcrush z b = (zsh (upd (mcr3 z b) 7 (nI (zI z 7 - 1))) (387 + (zstr z b)) (zI z 7 - 1 - (zstr z b))) := if_pos hgo
          rw [em]
          have u7 : ∀ i, (zsh (upd (mcr3 z b) 7 (nI (zI z 7 - 1))) (387 + (zstr z b)) i) 7 = nI (zI z 7 - 1) := fun i => by rw [zsh_at _ (by omega), upd_at]
          have u6 : ∀ i, (zsh (upd (mcr3 z b) 7 (nI (zI z 7 - 1))) (387 + (zstr z b)) i) 6 = nI (zI z 6 - 1) := fun i => by rw [zsh_at _ (by omega), upd_ne (by decide), m36]
          have loop3 : ∀ (t i : Nat), i + t = zI z 7 - 1 - (zstr z b) → xW G M_crush (xQm A T (0, nI (zI z 6 - 1)) (mSav (z, hi, s, ln, tx) (zsh (upd (mcr3 z b) 7 (nI (zI z 7 - 1))) (387 + (zstr z b)) (zI z 7 - 1 - (zstr z b))) ln)) 189 [(3, .int (nI ((zstr z b) + i))), (0, .ref 71), (1, .int (nI b)), (2, .int (nI (zstr z b)))] [] (mH A (zsh (upd (mcr3 z b) 7 (nI (zI z 7 - 1))) (387 + (zstr z b)) i) (nI (zrM s)) (mhis z hi s) (nI ln) tx (nI 0) ot oR oC wa pR pC pM ps rr ha nu fe kc hs T) x 0 0 := by
            intro t
            induction t with
            | zero =>
              intro i hi9
              have e1 : i = zI z 7 - 1 - (zstr z b) := by omega
              refine xw_iload_n 190 dX5_crush_189 rfl rfl ?_
              refine xw_aload_n 191 dX5_crush_190 rfl rfl rfl ?_
              refine xw_get 194 dX5_crush_191 rfl f_X5_7 (xA hA rfl) rfl ?_
              refine xw_bipush 196 (nI 7) dX5_crush_194 rfl (by decide) ?_
              refine xw_ialv (j := 7) 197 dX5_crush_196 rfl (xA hA rfl) (rfl) (by decide) (by decide) (u7 i) ?_
              refine xw_icmp_ge 228 200 dX5_crush_197 rfl rfl (fun h197 => ?_) (fun h197 => absurd (nI_le (by omega) (by omega)) h197)
              refine xw_aload_n 229 dX5_crush_228 rfl rfl rfl ?_
              refine xw_get 232 dX5_crush_229 rfl f_X5_7 (xA hA rfl) rfl ?_
              refine xw_bipush 234 (nI 6) dX5_crush_232 rfl (by decide) ?_
              refine xw_ialv (j := 6) 235 dX5_crush_234 rfl (xA hA rfl) (rfl) (by decide) (by decide) (u6 i) ?_
              exact xw_ireturn dX5_crush_235 rfl (by rw [e1]; exact ⟨rfl, (ot, oR, oC, wa, pR, pC, pM, ps, rr, ha, nu, fe, kc, hs), rfl⟩)
            | succ t ih =>
              intro i hi9
              have ih := ih (i + 1) (by omega)
              rw [← zsh_s] at ih
              have er : (zsh (upd (mcr3 z b) 7 (nI (zI z 7 - 1))) (387 + (zstr z b)) i) (387 + (zstr z b) + i + 1) = upd (mcr3 z b) 7 (nI (zI z 7 - 1)) (387 + (zstr z b) + i + 1) := zsh_at _ (by omega)
              refine xw_iload_n 190 dX5_crush_189 rfl rfl ?_
              refine xw_aload_n 191 dX5_crush_190 rfl rfl rfl ?_
              refine xw_get 194 dX5_crush_191 rfl f_X5_7 (xA hA rfl) rfl ?_
              refine xw_bipush 196 (nI 7) dX5_crush_194 rfl (by decide) ?_
              refine xw_ialv (j := 7) 197 dX5_crush_196 rfl (xA hA rfl) (rfl) (by decide) (by decide) (u7 i) ?_
              refine xw_icmp_ge 228 200 dX5_crush_197 rfl rfl (fun h197 => absurd h197 (nI_ge (by omega) (by omega))) (fun h197 => ?_)
              refine xw_aload_n 201 dX5_crush_200 rfl rfl rfl ?_
              refine xw_get 204 dX5_crush_201 rfl f_X5_7 (xA hA rfl) rfl ?_
              refine xw_sipush 207 (nI 387) dX5_crush_204 rfl (by decide) ?_
              refine xw_iload_n 208 dX5_crush_207 rfl rfl ?_
              refine xw_iadd 209 dX5_crush_208 rfl ?_
              refine xw_aload_n 210 dX5_crush_209 rfl rfl rfl ?_
              refine xw_get 213 dX5_crush_210 rfl f_X5_7 (xA hA rfl) rfl ?_
              refine xw_sipush 216 (nI 387) dX5_crush_213 rfl (by decide) ?_
              refine xw_iload_n 217 dX5_crush_216 rfl rfl ?_
              refine xw_iadd 218 dX5_crush_217 rfl ?_
              refine xw_iconst 219 (nI 1) dX5_crush_218 rfl (xofI 1) ?_
              refine xw_iadd 220 dX5_crush_219 rfl ?_
              rw [nI_add, nI_add]
              refine xw_ialv (j := 387 + (zstr z b) + i + 1) 221 dX5_crush_220 rfl (xA hA rfl) (congrArg nI (by omega)) (by omega) (by omega) (er) ?_
              refine xw_iastore (j := 387 + (zstr z b) + i) 222 dX5_crush_221 rfl (xA hA rfl) (congrArg nI (by omega)) (by omega) (by omega) (xAs hA rfl) ?_
              refine xw_iinc (ls' := [(3, _), (0, _), (1, _), (2, _)]) 225 _ dX5_crush_222 rfl rfl (xnI_inc _) rfl rfl ?_
              refine xw_goto 189 dX5_crush_225 rfl ?_
              exact xW.pick [0, 1, 2, 3] rfl (ih)
          have h9 := loop3 (zI z 7 - 1 - (zstr z b)) 0 (by omega)
          rw [zsh_0] at h9
          refine xw_iload_n 146 dX5_crush_145 rfl rfl ?_
          refine xw_aload_n 147 dX5_crush_146 rfl rfl rfl ?_
          refine xw_get 150 dX5_crush_147 rfl f_X5_7 (xA hA rfl) rfl ?_
          refine xw_bipush 152 (nI 7) dX5_crush_150 rfl (by decide) ?_
          refine xw_ialv (j := 7) 153 dX5_crush_152 rfl (xA hA rfl) (rfl) (by decide) (by decide) (m37) ?_
          refine xw_iconst 154 (nI 1) dX5_crush_153 rfl (xofI 1) ?_
          refine xw_isub 155 dX5_crush_154 rfl ?_
          rw [nI_1s (by omega)]
          refine xw_icmp_ge 228 158 dX5_crush_155 rfl rfl (fun h155 => absurd h155 (nI_ge (by omega) (by omega))) (fun h155 => ?_)
          refine xw_aload_n 159 dX5_crush_158 rfl rfl rfl ?_
          refine xw_iload_n 160 dX5_crush_159 rfl rfl ?_
          refine xw_pV 163 dX5_crush_160 rfl ok_M_endOf s_X5_146 (S_M_endOfL (xA hA rfl) (xA hA rfl) m37 hl hK2 m3n) (mH_len) (xA hA rfl) rfl rfl rfl rfl rfl rfl rfl ?_
          refine xw_aload_n 164 dX5_crush_163 rfl rfl rfl ?_
          refine xw_get 167 dX5_crush_164 rfl f_X5_7 (xA hA rfl) rfl ?_
          refine xw_sipush 170 (nI 387) dX5_crush_167 rfl (by decide) ?_
          refine xw_iload_n 171 dX5_crush_170 rfl rfl ?_
          refine xw_iadd 172 dX5_crush_171 rfl ?_
          refine xw_ialv (j := _) 173 dX5_crush_172 rfl (xA hA rfl) (nI_add _ _) (by omega) (by omega) (m3s) ?_
          refine xw_icmp_ne 228 176 dX5_crush_173 rfl rfl (fun h173 => absurd (congrArg nI hg) h173) (fun h173 => ?_)
          refine xw_aload_n 177 dX5_crush_176 rfl rfl rfl ?_
          refine xw_get 180 dX5_crush_177 rfl f_X5_7 (xA hA rfl) rfl ?_
          refine xw_bipush 182 (nI 7) dX5_crush_180 rfl (by decide) ?_
          refine xw_dup2 183 dX5_crush_182 rfl rfl rfl ?_
          refine xw_ialv (j := 7) 184 dX5_crush_183 rfl (xA hA rfl) (rfl) (by omega) (by omega) (m37) ?_
          refine xw_iconst 185 (nI 1) dX5_crush_184 rfl (xofI 1) ?_
          refine xw_isub 186 dX5_crush_185 rfl ?_
          rw [nI_1s (by omega)]
          refine xw_iastore (j := 7) (hp' := (mH A (upd (mcr3 z b) 7 (nI (zI z 7 - 1))) (nI (zrM s)) (mhis z hi s) (nI ln) tx (nI 0) ot oR oC wa pR pC pM ps rr ha nu fe kc hs T)) 187 dX5_crush_186 rfl (xA hA rfl) (rfl) (by decide) (by decide) (xAs hA rfl) ?_
          refine xw_iload_n 188 dX5_crush_187 rfl rfl ?_
          refine xw_istore_n (ls' := [(3, _), (2, _), (0, _), (1, _)]) 189 dX5_crush_188 rfl rfl rfl ?_
          exact xW.pick [0, 2, 3, 1] rfl h9
        · have hgo : ¬ zgo z b = true := fun q => by
            have q1 := (zgo_is q).1
            unfold zlen at q1
            rw [hend] at q1
            omega
          have em : mcrush z b = mcr3 z b := if_neg hgo
          rw [em]
          refine xw_iload_n 146 dX5_crush_145 rfl rfl ?_
          refine xw_aload_n 147 dX5_crush_146 rfl rfl rfl ?_
          refine xw_get 150 dX5_crush_147 rfl f_X5_7 (xA hA rfl) rfl ?_
          refine xw_bipush 152 (nI 7) dX5_crush_150 rfl (by decide) ?_
          refine xw_ialv (j := 7) 153 dX5_crush_152 rfl (xA hA rfl) (rfl) (by decide) (by decide) (m37) ?_
          refine xw_iconst 154 (nI 1) dX5_crush_153 rfl (xofI 1) ?_
          refine xw_isub 155 dX5_crush_154 rfl ?_
          rw [nI_1s (by omega)]
          refine xw_icmp_ge 228 158 dX5_crush_155 rfl rfl (fun h155 => absurd h155 (nI_ge (by omega) (by omega))) (fun h155 => ?_)
          refine xw_aload_n 159 dX5_crush_158 rfl rfl rfl ?_
          refine xw_iload_n 160 dX5_crush_159 rfl rfl ?_
          refine xw_pV 163 dX5_crush_160 rfl ok_M_endOf s_X5_146 (S_M_endOfL (xA hA rfl) (xA hA rfl) m37 hl hK2 m3n) (mH_len) (xA hA rfl) rfl rfl rfl rfl rfl rfl rfl ?_
          refine xw_aload_n 164 dX5_crush_163 rfl rfl rfl ?_
          refine xw_get 167 dX5_crush_164 rfl f_X5_7 (xA hA rfl) rfl ?_
          refine xw_sipush 170 (nI 387) dX5_crush_167 rfl (by decide) ?_
          refine xw_iload_n 171 dX5_crush_170 rfl rfl ?_
          refine xw_iadd 172 dX5_crush_171 rfl ?_
          refine xw_ialv (j := _) 173 dX5_crush_172 rfl (xA hA rfl) (nI_add _ _) (by omega) (by omega) (m3s) ?_
          refine xw_icmp_ne 228 176 dX5_crush_173 rfl rfl (fun h173 => ?_) (fun h173 => absurd h173 (fun q => by rw [nI_eq (by omega) (by omega)] at q; exact hg q))
          refine xw_aload_n 229 dX5_crush_228 rfl rfl rfl ?_
          refine xw_get 232 dX5_crush_229 rfl f_X5_7 (xA hA rfl) rfl ?_
          refine xw_bipush 234 (nI 6) dX5_crush_232 rfl (by decide) ?_
          refine xw_ialv (j := 6) 235 dX5_crush_234 rfl (xA hA rfl) (rfl) (by decide) (by decide) (m36) ?_
          exact xw_ireturn dX5_crush_235 rfl (⟨rfl, (ot, oR, oC, wa, pR, pC, pM, ps, rr, ha, nu, fe, kc, hs), rfl⟩)
      · have hgo : ¬ zgo z b = true := fun q => hl (zgo_is q).2
        have em : mcrush z b = mcr3 z b := if_neg hgo
        rw [em]
        refine xw_iload_n 146 dX5_crush_145 rfl rfl ?_
        refine xw_aload_n 147 dX5_crush_146 rfl rfl rfl ?_
        refine xw_get 150 dX5_crush_147 rfl f_X5_7 (xA hA rfl) rfl ?_
        refine xw_bipush 152 (nI 7) dX5_crush_150 rfl (by decide) ?_
        refine xw_ialv (j := 7) 153 dX5_crush_152 rfl (xA hA rfl) (rfl) (by decide) (by decide) (m37) ?_
        refine xw_iconst 154 (nI 1) dX5_crush_153 rfl (xofI 1) ?_
        refine xw_isub 155 dX5_crush_154 rfl ?_
        rw [nI_1s (by omega)]
        refine xw_icmp_ge 228 158 dX5_crush_155 rfl rfl (fun h155 => ?_) (fun h155 => absurd (nI_le (by omega) (by omega)) h155)
        refine xw_aload_n 229 dX5_crush_228 rfl rfl rfl ?_
        refine xw_get 232 dX5_crush_229 rfl f_X5_7 (xA hA rfl) rfl ?_
        refine xw_bipush 234 (nI 6) dX5_crush_232 rfl (by decide) ?_
        refine xw_ialv (j := 6) 235 dX5_crush_234 rfl (xA hA rfl) (rfl) (by decide) (by decide) (m36) ?_
        exact xw_ireturn dX5_crush_235 rfl (⟨rfl, (ot, oR, oC, wa, pR, pC, pM, ps, rr, ha, nu, fe, kc, hs), rfl⟩)
    have loop2 : ∀ (t i : Nat), i + t = zI z 7 - 1 - (zstr z b) → xW G M_crush (xQm A T (0, nI (zI z 6 - 1)) (mSav (z, hi, s, ln, tx) (mcrush z b) ln)) 114 [(3, .int (nI ((zstr z b) + 1 + i))), (0, .ref 71), (1, .int (nI b)), (2, .int (nI (zstr z b)))] [] (mH A (zdn false (mcr2 z b) (387 + ((zstr z b) + 1)) i) (nI (zrM s)) (mhis z hi s) (nI ln) tx (nI 0) ot oR oC wa pR pC pM ps rr ha nu fe kc hs T) x 0 0 := by
      intro t
      induction t with
      | zero =>
        intro i hi9
        have e1 : i = zI z 7 - 1 - (zstr z b) := by omega
        have k7 : (zdn false (mcr2 z b) (387 + ((zstr z b) + 1)) i) 7 = nI (zI z 7) := ((zdn_lo (by omega)).trans (m2o 7 (by decide) (by omega) (by omega))).trans I.iK.1
        refine xw_iload_n 115 dX5_crush_114 rfl rfl ?_
        refine xw_aload_n 116 dX5_crush_115 rfl rfl rfl ?_
        refine xw_get 119 dX5_crush_116 rfl f_X5_7 (xA hA rfl) rfl ?_
        refine xw_bipush 121 (nI 7) dX5_crush_119 rfl (by decide) ?_
        refine xw_ialv (j := 7) 122 dX5_crush_121 rfl (xA hA rfl) (rfl) (by decide) (by decide) (k7) ?_
        refine xw_icmp_ge 145 125 dX5_crush_122 rfl rfl (fun h122 => ?_) (fun h122 => absurd (nI_le (by omega) (by omega)) h122)
        rw [e1]
        exact xW.pick [3, 1, 2] rfl tail
      | succ t ih =>
        intro i hi9
        have ih := ih (i + 1) (by omega)
        have k7 : (zdn false (mcr2 z b) (387 + ((zstr z b) + 1)) i) 7 = nI (zI z 7) := ((zdn_lo (by omega)).trans (m2o 7 (by decide) (by omega) (by omega))).trans I.iK.1
        have ks := zdn_s false (mcr2 z b) (a := 387 + ((zstr z b) + 1)) (i := i) (by omega)
        rw [if_neg (by decide)] at ks
        rw [← ks] at ih
        have er : (zdn false (mcr2 z b) (387 + ((zstr z b) + 1)) i) (387 + ((zstr z b) + 1) + i) = mcr2 z b (387 + ((zstr z b) + 1) + i) := zdn_at _ _ (by omega)
        refine xw_iload_n 115 dX5_crush_114 rfl rfl ?_
        refine xw_aload_n 116 dX5_crush_115 rfl rfl rfl ?_
        refine xw_get 119 dX5_crush_116 rfl f_X5_7 (xA hA rfl) rfl ?_
        refine xw_bipush 121 (nI 7) dX5_crush_119 rfl (by decide) ?_
        refine xw_ialv (j := 7) 122 dX5_crush_121 rfl (xA hA rfl) (rfl) (by decide) (by decide) (k7) ?_
        refine xw_icmp_ge 145 125 dX5_crush_122 rfl rfl (fun h122 => absurd h122 (nI_ge (by omega) (by omega))) (fun h122 => ?_)
        refine xw_aload_n 126 dX5_crush_125 rfl rfl rfl ?_
        refine xw_get 129 dX5_crush_126 rfl f_X5_7 (xA hA rfl) rfl ?_
        refine xw_sipush 132 (nI 387) dX5_crush_129 rfl (by decide) ?_
        refine xw_iload_n 133 dX5_crush_132 rfl rfl ?_
        refine xw_iadd 134 dX5_crush_133 rfl ?_
        refine xw_dup2 135 dX5_crush_134 rfl rfl rfl ?_
        refine xw_ialv (j := 387 + ((zstr z b) + 1) + i) 136 dX5_crush_135 rfl (xA hA rfl) ((nI_add _ _).trans (congrArg nI (by omega))) (by omega) (by omega) (er) ?_
        refine xw_iconst 137 (nI 1) dX5_crush_136 rfl (xofI 1) ?_
        refine xw_isub 138 dX5_crush_137 rfl ?_
        refine xw_iastore (j := 387 + ((zstr z b) + 1) + i) 139 dX5_crush_138 rfl (xA hA rfl) ((nI_add _ _).trans (congrArg nI (by omega))) (by omega) (by omega) (xAs hA rfl) ?_
        refine xw_iinc (ls' := [(3, _), (0, _), (1, _), (2, _)]) 142 _ dX5_crush_139 rfl rfl (xnI_inc _) rfl rfl ?_
        refine xw_goto 114 dX5_crush_142 rfl ?_
        exact xW.pick [0, 1, 2, 3] rfl (ih)
    have loop1 : ∀ (t i : Nat), i + t = zI z 6 - 1 - b → xW G M_crush (xQm A T (0, nI (zI z 6 - 1)) (mSav (z, hi, s, ln, tx) (mcrush z b) ln)) 71 [(3, .int (nI (b + i))), (0, .ref 71), (1, .int (nI b)), (2, .int (nI (zstr z b)))] [] (mH A (zsh (mcr1 z b) (147 + b) i) (nI (zrM s)) (mhis z hi s) (nI ln) tx (nI 0) ot oR oC wa pR pC pM ps rr ha nu fe kc hs T) x 0 0 := by
      intro t
      induction t with
      | zero =>
        intro i hi9
        have e1 : i = zI z 6 - 1 - b := by omega
        have k6 : (zsh (mcr1 z b) (147 + b) i) 6 = nI (zI z 6 - 1) := (zsh_at _ (by omega)).trans m16
        have h9 := loop2 (zI z 7 - 1 - (zstr z b)) 0 (by omega)
        rw [zdn_0] at h9
        refine xw_iload_n 72 dX5_crush_71 rfl rfl ?_
        refine xw_aload_n 73 dX5_crush_72 rfl rfl rfl ?_
        refine xw_get 76 dX5_crush_73 rfl f_X5_7 (xA hA rfl) rfl ?_
        refine xw_bipush 78 (nI 6) dX5_crush_76 rfl (by decide) ?_
        refine xw_ialv (j := 6) 79 dX5_crush_78 rfl (xA hA rfl) (rfl) (by decide) (by decide) (k6) ?_
        refine xw_icmp_ge 110 82 dX5_crush_79 rfl rfl (fun h79 => ?_) (fun h79 => absurd (nI_le (by omega) (by omega)) h79)
        refine xw_iload_n 111 dX5_crush_110 rfl rfl ?_
        refine xw_iconst 112 (nI 1) dX5_crush_111 rfl (xofI 1) ?_
        refine xw_iadd 113 dX5_crush_112 rfl ?_
        rw [nI_add]
        refine xw_istore_n (ls' := [(3, _), (0, _), (1, _), (2, _)]) 114 dX5_crush_113 rfl rfl rfl ?_
        rw [e1]
        exact xW.pick [0, 1, 2, 3] rfl h9
      | succ t ih =>
        intro i hi9
        have ih := ih (i + 1) (by omega)
        have k6 : (zsh (mcr1 z b) (147 + b) i) 6 = nI (zI z 6 - 1) := (zsh_at _ (by omega)).trans m16
        rw [← zsh_s] at ih
        have er : (zsh (mcr1 z b) (147 + b) i) (147 + b + i + 1) = mcr1 z b (147 + b + i + 1) := zsh_at _ (by omega)
        refine xw_iload_n 72 dX5_crush_71 rfl rfl ?_
        refine xw_aload_n 73 dX5_crush_72 rfl rfl rfl ?_
        refine xw_get 76 dX5_crush_73 rfl f_X5_7 (xA hA rfl) rfl ?_
        refine xw_bipush 78 (nI 6) dX5_crush_76 rfl (by decide) ?_
        refine xw_ialv (j := 6) 79 dX5_crush_78 rfl (xA hA rfl) (rfl) (by decide) (by decide) (k6) ?_
        refine xw_icmp_ge 110 82 dX5_crush_79 rfl rfl (fun h79 => absurd h79 (nI_ge (by omega) (by omega))) (fun h79 => ?_)
        refine xw_aload_n 83 dX5_crush_82 rfl rfl rfl ?_
        refine xw_get 86 dX5_crush_83 rfl f_X5_7 (xA hA rfl) rfl ?_
        refine xw_sipush 89 (nI 147) dX5_crush_86 rfl (by decide) ?_
        refine xw_iload_n 90 dX5_crush_89 rfl rfl ?_
        refine xw_iadd 91 dX5_crush_90 rfl ?_
        refine xw_aload_n 92 dX5_crush_91 rfl rfl rfl ?_
        refine xw_get 95 dX5_crush_92 rfl f_X5_7 (xA hA rfl) rfl ?_
        refine xw_sipush 98 (nI 147) dX5_crush_95 rfl (by decide) ?_
        refine xw_iload_n 99 dX5_crush_98 rfl rfl ?_
        refine xw_iadd 100 dX5_crush_99 rfl ?_
        refine xw_iconst 101 (nI 1) dX5_crush_100 rfl (xofI 1) ?_
        refine xw_iadd 102 dX5_crush_101 rfl ?_
        rw [nI_add, nI_add]
        refine xw_ialv (j := 147 + b + i + 1) 103 dX5_crush_102 rfl (xA hA rfl) (congrArg nI (by omega)) (by omega) (by omega) (er) ?_
        refine xw_iastore (j := 147 + b + i) 104 dX5_crush_103 rfl (xA hA rfl) (congrArg nI (by omega)) (by omega) (by omega) (xAs hA rfl) ?_
        refine xw_iinc (ls' := [(3, _), (0, _), (1, _), (2, _)]) 107 _ dX5_crush_104 rfl rfl (xnI_inc _) rfl rfl ?_
        refine xw_goto 71 dX5_crush_107 rfl ?_
        exact xW.pick [0, 1, 2, 3] rfl (ih)
    have u6 : (upd z (21 + (zI z (147 + b))) (z (21 + (zI z (147 + b))) + nI 1)) 6 = nI (zI z 6) := (upd_ne (by omega)).trans I.iM.1
    have h9 := loop1 (zI z 6 - 1 - b) 0 (by omega)
    rw [zsh_0] at h9
    refine xw_aload_n 1 dX5_crush_0 rfl rfl rfl ?_
    refine xw_aload_n 2 dX5_crush_1 rfl rfl rfl ?_
    refine xw_iload_n 3 dX5_crush_2 rfl rfl ?_
    refine xw_pV 6 dX5_crush_3 rfl ok_M_isBead s_X5_140 (S_M_isBead (xA hA rfl) (xA hA rfl) I) (mH_len) (xA hA rfl) rfl rfl rfl rfl rfl rfl rfl ?_
    refine xw_if_eq 13 9 dX5_crush_6 rfl rfl (fun h6 => absurd h6 (by rw [w0]; decide)) (fun h6 => ?_)
    refine xw_iconst 10 (nI 0) dX5_crush_9 rfl (xofI 0) ?_
    refine xw_goto 14 dX5_crush_10 rfl ?_
    refine xw_put (hp' := (mH A z (nI s) hi (nI ln) tx (nI 0) ot oR oC wa pR pC pM ps rr ha nu fe kc hs T)) 17 dX5_crush_14 rfl f_X5_40 (xA hA rfl) ⟨rfl, rfl⟩ rfl rfl (xAs hA rfl) ?_
    refine xw_aload_n 18 dX5_crush_17 rfl rfl rfl ?_
    refine xw_get 21 dX5_crush_18 rfl f_X5_40 (xA hA rfl) rfl ?_
    refine xw_if_le 26 24 dX5_crush_21 rfl rfl (fun h21 => ?_) (fun h21 => absurd (by decide) h21)
    refine xw_aload_n 27 dX5_crush_26 rfl rfl rfl ?_
    refine xw_pVv 30 dX5_crush_27 rfl ok_M_save s_X5_95 (S_M_save hA hs6) (mH_len) (xA hA rfl) rfl rfl rfl rfl rfl rfl rfl ?_
    refine xw_aload_n 31 dX5_crush_30 rfl rfl rfl ?_
    refine xw_iload_n 32 dX5_crush_31 rfl rfl ?_
    refine xw_pV 35 dX5_crush_32 rfl ok_M_stringOf s_X5_143 (S_M_stringOf (xA hA rfl) (xA hA rfl) I (by omega)) (mH_len) (xA hA rfl) rfl rfl rfl rfl rfl rfl rfl ?_
    refine xw_istore_n (ls' := [(2, _), (0, _), (1, _)]) 36 dX5_crush_35 rfl rfl rfl ?_
    refine xw_aload_n 37 dX5_crush_36 rfl rfl rfl ?_
    refine xw_get 40 dX5_crush_37 rfl f_X5_7 (xA hA rfl) rfl ?_
    refine xw_bipush 42 (nI 21) dX5_crush_40 rfl (by decide) ?_
    refine xw_aload_n 43 dX5_crush_42 rfl rfl rfl ?_
    refine xw_get 46 dX5_crush_43 rfl f_X5_7 (xA hA rfl) rfl ?_
    refine xw_sipush 49 (nI 147) dX5_crush_46 rfl (by decide) ?_
    refine xw_iload_n 50 dX5_crush_49 rfl rfl ?_
    refine xw_iadd 51 dX5_crush_50 rfl ?_
    refine xw_ialv (j := _) 52 dX5_crush_51 rfl (xA hA rfl) (nI_add _ _) (by omega) (by omega) (hbd.1) ?_
    refine xw_iadd 53 dX5_crush_52 rfl ?_
    refine xw_dup2 54 dX5_crush_53 rfl rfl rfl ?_
    refine xw_iaload (j := 21 + (zI z (147 + b))) 55 dX5_crush_54 rfl (xA hA rfl) (nI_add _ _) (by omega) (by omega) ?_
    refine xw_iconst 56 (nI 1) dX5_crush_55 rfl (xofI 1) ?_
    refine xw_iadd 57 dX5_crush_56 rfl ?_
    refine xw_iastore (j := 21 + (zI z (147 + b))) (hp' := (mH A (upd z (21 + (zI z (147 + b))) (z (21 + (zI z (147 + b))) + nI 1)) (nI (zrM s)) (mhis z hi s) (nI ln) tx (nI 0) ot oR oC wa pR pC pM ps rr ha nu fe kc hs T)) 58 dX5_crush_57 rfl (xA hA rfl) (nI_add _ _) (by omega) (by omega) (xAs hA rfl) ?_
    refine xw_aload_n 59 dX5_crush_58 rfl rfl rfl ?_
    refine xw_get 62 dX5_crush_59 rfl f_X5_7 (xA hA rfl) rfl ?_
    refine xw_bipush 64 (nI 6) dX5_crush_62 rfl (by decide) ?_
    refine xw_dup2 65 dX5_crush_64 rfl rfl rfl ?_
    refine xw_ialv (j := 6) 66 dX5_crush_65 rfl (xA hA rfl) (rfl) (by omega) (by omega) (u6) ?_
    refine xw_iconst 67 (nI 1) dX5_crush_66 rfl (xofI 1) ?_
    refine xw_isub 68 dX5_crush_67 rfl ?_
    rw [nI_1s (by omega)]
    refine xw_iastore (j := 6) (hp' := (mH A (mcr1 z b) (nI (zrM s)) (mhis z hi s) (nI ln) tx (nI 0) ot oR oC wa pR pC pM ps rr ha nu fe kc hs T)) 69 dX5_crush_68 rfl (xA hA rfl) (rfl) (by decide) (by decide) (xAs hA rfl) ?_
    refine xw_iload_n 70 dX5_crush_69 rfl rfl ?_
    refine xw_istore_n (ls' := [(3, _), (2, _), (0, _), (1, _)]) 71 dX5_crush_70 rfl rfl rfl ?_
    exact xW.pick [0, 2, 3, 1] rfl h9
  · have w0 : nI (if xlt p (zI z 6) then 1 else 0) = nI 0 := bIfn g0
    rw [if_neg g0]
    refine xw_aload_n 1 dX5_crush_0 rfl rfl rfl ?_
    refine xw_aload_n 2 dX5_crush_1 rfl rfl rfl ?_
    refine xw_iload_n 3 dX5_crush_2 rfl rfl ?_
    refine xw_pV 6 dX5_crush_3 rfl ok_M_isBead s_X5_140 (S_M_isBead (xA hA rfl) (xA hA rfl) I) (mH_len) (xA hA rfl) rfl rfl rfl rfl rfl rfl rfl ?_
    refine xw_if_eq 13 9 dX5_crush_6 rfl rfl (fun h6 => ?_) (fun h6 => absurd (w0) h6)
    refine xw_iconst 14 (nI 1) dX5_crush_13 rfl (xofI 1) ?_
    refine xw_put (hp' := (mH A z (nI s) hi (nI ln) tx (nI 1) ot oR oC wa pR pC pM ps rr ha nu fe kc hs T)) 17 dX5_crush_14 rfl f_X5_40 (xA hA rfl) ⟨rfl, rfl⟩ rfl rfl (xAs hA rfl) ?_
    refine xw_aload_n 18 dX5_crush_17 rfl rfl rfl ?_
    refine xw_get 21 dX5_crush_18 rfl f_X5_40 (xA hA rfl) rfl ?_
    refine xw_if_le 26 24 dX5_crush_21 rfl rfl (fun h21 => absurd h21 (by decide)) (fun h21 => ?_)
    refine xw_iconst 25 (nI 0) dX5_crush_24 rfl (xofI 0) ?_
    exact xw_ireturn dX5_crush_25 rfl (⟨rfl, (ot, oR, oC, wa, pR, pC, pM, ps, rr, ha, nu, fe, kc, hs), rfl⟩)
end P48

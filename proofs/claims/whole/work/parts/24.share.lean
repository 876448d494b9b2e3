/-! ===== doubles: a share is a number ===== -/
theorem fpR2 {num den n : Nat} {e Q : Int} (h0 : num ≠ 0) (hl : FP.Core.leading num den + e - 52 = Q) (hQ : -1074 ≤ Q) (hQ2 : Q ≤ 900) (hn : FP.Core.nearest (num * 2 ^ (e - Q).toNat) (den * 2 ^ (Q - e).toNat) = n) (h1 : 4503599627370496 ≤ n) (h2 : n ≤ 9007199254740992) : ∃ (n' : Nat) (Q' : Int), FP.Core.roundRatio FP.Core.b64 false num den e = .fin false n' Q' ∧ 4503599627370496 ≤ n' ∧ n' < 9007199254740992 ∧ Q ≤ Q' ∧ Q' ≤ Q + 1 := by
  by_cases hc : n < 9007199254740992
  · exact ⟨n, Q, fpR h0 hl hQ (by omega) hn hc, h1, hc, Int.le_refl _, by omega⟩
  · refine ⟨4503599627370496, Q + 1, ?_, by decide, by decide, by omega, Int.le_refl _⟩
    have hq : FP.Core.b64.qmin = -1074 := by decide
    have hm : FP.Core.b64.qmax = 971 := by decide
    have ht : FP.Core.b64.tails = 4503599627370496 := by decide
    have hqu : FP.Core.quantum FP.Core.b64 num den e = Q := by
      unfold FP.Core.quantum
      rw [hq]
      show max (-1074) (FP.Core.leading num den + e - ((53 : Int) - 1)) = Q
      omega
    unfold FP.Core.roundRatio
    rw [if_neg h0, hqu]
    unfold FP.Core.roundAt FP.Core.unitsNum FP.Core.unitsDen FP.Core.settle FP.Core.bound
    rw [hn, if_neg (show ¬ n < 2 ^ FP.Core.b64.p from hc), hm, if_pos (by omega), ht]
theorem fp_l53 {c : Nat} (h1 : 4503599627370496 ≤ c) (h2 : c < 9007199254740992) : c.log2 = 52 := by
  have h0 : c ≠ 0 := by omega
  have a := (Nat.le_log2 h0 (k := 52)).mpr h1
  have b := (Nat.log2_lt h0 (k := 53)).mpr h2
  omega
theorem fp_near {N D : Nat} (hD : 0 < D) (h1 : D * 4503599627370496 ≤ N) (h2 : N < D * 9007199254740992) : 4503599627370496 ≤ FP.Core.nearest N D ∧ FP.Core.nearest N D ≤ 9007199254740992 := by
  have a : 4503599627370496 ≤ N / D := (Nat.le_div_iff_mul_le hD).mpr (by rw [Nat.mul_comm]; exact h1)
  have b : N / D < 9007199254740992 := (Nat.div_lt_iff_lt_mul hD).mpr (by rw [Nat.mul_comm]; exact h2)
  unfold FP.Core.nearest
  generalize N / D = v at a b
  split
  · omega
  · split <;> omega
theorem fp_quo {c d : Nat} {e : Int} (h1 : 4503599627370496 ≤ c) (h2 : c < 9007199254740992) (g1 : 4503599627370496 ≤ d) (g2 : d < 9007199254740992) (he : -20 ≤ e) (he0 : e ≤ 0) (hcd : e = 0 → c ≤ d) : ∃ (n : Nat) (Q : Int), FP.Core.roundRatio FP.Core.b64 false c d e = .fin false n Q ∧ 4503599627370496 ≤ n ∧ n < 9007199254740992 ∧ -100 ≤ Q ∧ Q ≤ -52 := by
  have l1 := fp_l53 h1 h2
  have l2 := fp_l53 g1 g2
  by_cases hdc : d ≤ c
  · have hl : FP.Core.leading c d = 0 := by
      unfold FP.Core.leading
      rw [l1, l2]
      show (if d * 1 ≤ c * 1 then (0 : Int) else _) = 0
      rw [if_pos (by omega)]
    have e1 : (e - (e - 52)).toNat = 52 := by omega
    have e2 : (e - 52 - e).toNat = 0 := by omega
    by_cases heq : c = d
    · subst heq
      refine ⟨4503599627370496, e - 52, fpR (by omega) (by rw [hl]; omega) (by omega) (by omega) ?_ (by decide), by decide, by decide, by omega, by omega⟩
      rw [e1, e2, Nat.mul_comm]
      show FP.Core.nearest (4503599627370496 * c) (c * 1) = _
      rw [Nat.mul_one]
      exact fpN (by omega)
    · have nr := fp_near (N := c * 4503599627370496) (D := d) (by omega) (by omega) (by omega)
      obtain ⟨n, Q, k1, k2, k3, k4, k5⟩ := fpR2 (n := FP.Core.nearest (c * 4503599627370496) d) (num := c) (den := d) (e := e) (Q := e - 52) (by omega) (by rw [hl]; omega) (by omega) (by omega) (by rw [e1, e2]; show FP.Core.nearest (c * 4503599627370496) (d * 1) = _; rw [Nat.mul_one]) nr.1 nr.2
      exact ⟨n, Q, k1, k2, k3, by omega, by have : e ≠ 0 := (fun q => by have := hcd q; omega); omega⟩
  · have hl : FP.Core.leading c d = -1 := by
      unfold FP.Core.leading
      rw [l1, l2]
      show (if d * 1 ≤ c * 1 then (0 : Int) else (0 : Int) - 1) = -1
      rw [if_neg (by omega)]
      rfl
    have e1 : (e - (e - 53)).toNat = 53 := by omega
    have e2 : (e - 53 - e).toNat = 0 := by omega
    have nr := fp_near (N := c * 9007199254740992) (D := d) (by omega) (by omega) (by omega)
    obtain ⟨n, Q, k1, k2, k3, k4, k5⟩ := fpR2 (n := FP.Core.nearest (c * 9007199254740992) d) (num := c) (den := d) (e := e) (Q := e - 53) (by omega) (by rw [hl]; omega) (by omega) (by omega) (by rw [e1, e2]; show FP.Core.nearest (c * 9007199254740992) (d * 1) = _; rw [Nat.mul_one]) nr.1 nr.2
    exact ⟨n, Q, k1, k2, k3, by omega, by omega⟩
theorem fp_i2d {a : Nat} (h0 : 1 ≤ a) (ha : a ≤ 240) : ∃ L : Nat, L ≤ 7 ∧ 2 ^ L ≤ a ∧ a < 2 ^ (L + 1) ∧ 4503599627370496 ≤ a * 2 ^ (52 - L) ∧ a * 2 ^ (52 - L) < 9007199254740992 ∧ FP.i2d (nI a) = fpU (a * 2 ^ (52 - L)) ((L : Int) - 52) := by
  have a1 : 2 ^ a.log2 ≤ a := Nat.log2_self_le (by omega)
  have a2 : a < 2 ^ (a.log2 + 1) := Nat.lt_log2_self
  generalize a.log2 = L at a1 a2
  have hL : L ≤ 7 := by
    by_cases h : L ≤ 7
    · exact h
    · have : 2 ^ 8 ≤ 2 ^ L := Nat.pow_le_pow_right (by decide) (by omega)
      omega
  have b1 : 4503599627370496 ≤ a * 2 ^ (52 - L) := by
    have : 2 ^ L * 2 ^ (52 - L) = 4503599627370496 := by
      rw [← Nat.pow_add, show L + (52 - L) = 52 by omega]
    rw [← this]
    exact Nat.mul_le_mul_right _ a1
  have b2 : a * 2 ^ (52 - L) < 9007199254740992 := by
    have : 2 ^ (L + 1) * 2 ^ (52 - L) = 9007199254740992 := by
      rw [← Nat.pow_add, show L + 1 + (52 - L) = 53 by omega]
    rw [← this]
    exact Nat.mul_lt_mul_of_pos_right a2 (Nat.two_pow_pos _)
  refine ⟨L, hL, a1, a2, b1, b2, ?_⟩
  show UInt64.ofNat (FP.Core.fromInt FP.Core.b64 (nI a).toInt) = _
  rw [show (nI a).toInt = (a : Int) from nI_toInt (by omega)]
  unfold FP.Core.fromInt FP.Core.ofInt
  rw [decide_eq_false (by omega), Int.natAbs_natCast]
  show UInt64.ofNat (FP.Core.encode FP.Core.b64 (FP.Core.roundRatio FP.Core.b64 false a 1 0)) = _
  rw [fpR (c := a * 2 ^ (52 - L)) (Q := (L : Int) - 52) (by omega) (by rw [fpL a1 a2]; omega) (by omega) (by omega) ?_ b2, fpEnc b1 (by omega)]
  · rfl
  · rw [show (0 - ((L : Int) - 52)).toNat = 52 - L by omega, show ((L : Int) - 52 - 0).toNat = 0 by omega]
    have := fpN (c := a * 2 ^ (52 - L)) (d := 1) (by decide)
    rw [Nat.mul_one] at this
    exact this
theorem fp_share {a b : Nat} (h0 : 1 ≤ a) (hab : a ≤ b) (hb : b ≤ 240) : ∃ (n : Nat) (Q : Int), FP.ddiv (FP.i2d (nI a)) (FP.i2d (nI b)) = fpU n Q ∧ 4503599627370496 ≤ n ∧ n < 9007199254740992 ∧ -100 ≤ Q ∧ Q ≤ -52 := by
  obtain ⟨L, a1, a2, a3, a4, a5, a6⟩ := fp_i2d h0 (show a ≤ 240 by omega)
  obtain ⟨K, b1, b2, b3, b4, b5, b6⟩ := fp_i2d (show 1 ≤ b by omega) hb
  have hLK : L ≤ K := by
    by_cases h : L ≤ K
    · exact h
    · have : 2 ^ (K + 1) ≤ 2 ^ L := Nat.pow_le_pow_right (by decide) (by omega)
      omega
  have hcd : ((L : Int) - 52 - ((K : Int) - 52) = 0) → a * 2 ^ (52 - L) ≤ b * 2 ^ (52 - K) := by
    intro q
    rw [show K = L by omega]
    exact Nat.mul_le_mul_right _ hab
  obtain ⟨n, Q, k1, k2, k3, k4, k5⟩ := fp_quo (e := (L : Int) - 52 - ((K : Int) - 52)) a4 a5 b4 b5 (by omega) (by omega) hcd
  refine ⟨n, Q, ?_, k2, k3, k4, k5⟩
  rw [a6, b6]
  show UInt64.ofNat (FP.Core.encode FP.Core.b64 (FP.Core.quotient FP.Core.b64 (FP.Core.decode FP.Core.b64 (fpU (a * 2 ^ (52 - L)) ((L : Int) - 52)).toNat) (FP.Core.decode FP.Core.b64 (fpU (b * 2 ^ (52 - K)) ((K : Int) - 52)).toNat))) = _
  rw [fpU_dec a4 a5 (by omega) (by omega), fpU_dec b4 b5 (by omega) (by omega)]
  unfold FP.Core.quotient
  dsimp only
  rw [if_neg (by omega)]
  show UInt64.ofNat (FP.Core.encode FP.Core.b64 (FP.Core.roundRatio FP.Core.b64 false (a * 2 ^ (52 - L)) (b * 2 ^ (52 - K)) ((L : Int) - 52 - ((K : Int) - 52)))) = _
  rw [k1, fpEnc k2 (by omega)]
  rfl
theorem fp_share0 : fpAl (fun b => decide (FP.ddiv (FP.i2d (nI 0)) (FP.i2d (nI (b + 1))) = FP.dconst0)) 240 = true := by decide +kernel
/-- the share of the wrong beads -/
def zshare (z : Nat → Int32) : UInt64 := if zI z 6 = 0 then FP.dconst0 else FP.ddiv (FP.i2d (nI (xctr (zwr z) 0 (zI z 6)))) (FP.i2d (nI (zI z 6)))
/-- it is 0 or a number whose bits are told -/
theorem zshare_is {z : Nat → Int32} (I : xInv z) : zshare z = FP.dconst0 ∨ ∃ (n : Nat) (Q : Int), zshare z = fpU n Q ∧ 4503599627370496 ≤ n ∧ n < 9007199254740992 ∧ -100 ≤ Q ∧ Q ≤ -52 := by
  obtain ⟨m1, m2, m3⟩ := I.iM
  unfold zshare
  by_cases h : zI z 6 = 0
  · rw [if_pos h]; exact Or.inl rfl
  · rw [if_neg h]
    have hw : xctr (zwr z) 0 (zI z 6) ≤ zI z 6 := xct_le _ _
    generalize xctr (zwr z) 0 (zI z 6) = a at hw
    by_cases h0 : a = 0
    · subst h0
      have := of_decide_eq_true (fpAl_of fp_share0 (zI z 6 - 1) (by omega))
      rw [show zI z 6 - 1 + 1 = zI z 6 by omega] at this
      exact Or.inl this
    · exact Or.inr (fp_share (by omega) hw m3)
theorem zshare_nn {z : Nat → Int32} (I : xInv z) : vf_n64 (zshare z) := by
  rcases zshare_is I with h | ⟨n, Q, h, h1, h2, h3, h4⟩
  · rw [h]; unfold vf_n64; decide
  · rw [h]; exact fpU_nn h2 (by omega)
theorem zshare_self {z : Nat → Int32} (I : xInv z) : FP.dcmp (zshare z) (zshare z) = some .eq := by
  rcases zshare_is I with h | ⟨n, Q, h, h1, h2, h3, h4⟩
  · rw [h]; decide +kernel
  · rw [h]; exact fp_self h1 h2 (by omega) (by omega)
theorem S_B_bitsZ {G : xG} {hp : List xE} {x : Nat} {z : Nat → Int32} (I : xInv z) : xMet G B_bitsOf [.double (zshare z)] hp x 0 0 (xRetV (.long (zshare z).toInt64) hp) := by
  rcases zshare_is I with h | ⟨n, Q, h, h1, h2, h3, h4⟩
  · rw [h]; exact S_B_bitsOf_0
  · rw [h]; exact S_B_bitsOf h1 h2 h3 h4

/-! ===== doubles: a share, its bits ===== -/
def fpE (c : Nat) (q : Int) : Nat := ((q + 1074).toNat + 1) * 4503599627370496 + (c - 4503599627370496)
theorem fpE_lt {c : Nat} {q : Int} (h2 : c < 9007199254740992) (h4 : q ≤ 971) : fpE c q < 9218868437227405312 := by
  unfold fpE
  have : (q + 1074).toNat ≤ 2045 := by omega
  omega
def fpU (c : Nat) (q : Int) : UInt64 := UInt64.ofNat (fpE c q)
theorem fpU_nat {c : Nat} {q : Int} (h2 : c < 9007199254740992) (h4 : q ≤ 971) : (fpU c q).toNat = fpE c q := by
  unfold fpU
  have := fpE_lt h2 h4
  rw [UInt64.toNat_ofNat']
  exact Nat.mod_eq_of_lt (by omega)
theorem fpD {c : Nat} {q : Int} (h1 : 4503599627370496 ≤ c) (h2 : c < 9007199254740992) (h3 : -1074 ≤ q) (h4 : q ≤ 971) : FP.Core.decode FP.Core.b64 (fpE c q) = .fin false c q := by
  obtain ⟨k, rfl⟩ : ∃ k : Nat, q = (k : Int) - 1074 := ⟨(q + 1074).toNat, by omega⟩
  have ht : FP.Core.b64.tails = 4503599627370496 := by decide
  have he : FP.Core.b64.exps = 2048 := by decide
  have hq : FP.Core.b64.qmin = -1074 := by decide
  have hk : ((k : Int) - 1074 + 1074).toNat = k := by omega
  have e1 : FP.Core.fieldE FP.Core.b64 (fpE c ((k : Int) - 1074)) = k + 1 := by
    unfold FP.Core.fieldE fpE
    rw [ht, he, hk]
    omega
  have e2 : FP.Core.fieldT FP.Core.b64 (fpE c ((k : Int) - 1074)) = c - 4503599627370496 := by
    unfold FP.Core.fieldT fpE
    rw [ht, hk]
    omega
  have e3 : FP.Core.fieldS FP.Core.b64 (fpE c ((k : Int) - 1074)) = false := by
    unfold FP.Core.fieldS fpE
    rw [ht, he, hk]
    have : ((k + 1) * 4503599627370496 + (c - 4503599627370496)) / 4503599627370496 / 2048 % 2 = 0 := by omega
    rw [this]
    rfl
  unfold FP.Core.decode
  rw [e1, e2, e3, he, ht, hq, if_neg (by omega), if_neg (by omega)]
  rw [show 4503599627370496 + (c - 4503599627370496) = c by omega, show (-1074 : Int) + (((k + 1 : Nat) : Int) - 1) = (k : Int) - 1074 by omega]
theorem fpEnc {c : Nat} {q : Int} (h1 : 4503599627370496 ≤ c) (h3 : -1074 ≤ q) : FP.Core.encode FP.Core.b64 (.fin false c q) = fpE c q := by
  have ht : FP.Core.b64.tails = 4503599627370496 := by decide
  have hq : FP.Core.b64.qmin = -1074 := by decide
  have he : FP.Core.b64.exps = 2048 := by decide
  show (if c < FP.Core.b64.tails then _ else FP.Core.assemble FP.Core.b64 false ((q - FP.Core.b64.qmin).toNat + 1) (c - FP.Core.b64.tails)) = _
  rw [ht, hq, if_neg (by omega)]
  unfold FP.Core.assemble fpE
  rw [ht, he, show (q - -1074).toNat = (q + 1074).toNat by omega]
  show (0 * 2048 + _) * _ + _ = _
  omega
theorem fpR {s : Bool} {num den c : Nat} {e Q : Int} (h0 : num ≠ 0) (hl : FP.Core.leading num den + e - 52 = Q) (hQ : -1074 ≤ Q) (hQ2 : Q ≤ 971) (hn : FP.Core.nearest (num * 2 ^ (e - Q).toNat) (den * 2 ^ (Q - e).toNat) = c) (hc : c < 9007199254740992) : FP.Core.roundRatio FP.Core.b64 s num den e = .fin s c Q := by
  have hq : FP.Core.b64.qmin = -1074 := by decide
  have hm : FP.Core.b64.qmax = 971 := by decide
  have hqu : FP.Core.quantum FP.Core.b64 num den e = Q := by
    unfold FP.Core.quantum
    rw [hq]
    show max (-1074) (FP.Core.leading num den + e - ((53 : Int) - 1)) = Q
    omega
  unfold FP.Core.roundRatio
  rw [if_neg h0, hqu]
  unfold FP.Core.roundAt FP.Core.unitsNum FP.Core.unitsDen FP.Core.settle FP.Core.bound
  rw [hn, if_pos (show c < 2 ^ FP.Core.b64.p from hc), hm, if_pos hQ2]
theorem fpL {num L : Nat} (h1 : 2 ^ L ≤ num) (h2 : num < 2 ^ (L + 1)) : FP.Core.leading num 1 = L := by
  have h0 : num ≠ 0 := by have := Nat.two_pow_pos L; omega
  have hl : num.log2 = L := by
    have a := (Nat.le_log2 h0 (k := L)).mpr h1
    have b := (Nat.log2_lt h0 (k := L + 1)).mpr h2
    omega
  have h1l : Nat.log2 1 = 0 := by decide
  unfold FP.Core.leading
  rw [hl, h1l]
  show (if 1 * 2 ^ ((L : Int) - ((0 : Nat) : Int)).toNat ≤ num * 2 ^ (-((L : Int) - ((0 : Nat) : Int))).toNat then _ else _) = _
  have e1 : ((L : Int) - ((0 : Nat) : Int)).toNat = L := by omega
  have e2 : (-((L : Int) - ((0 : Nat) : Int))).toNat = 0 := by omega
  rw [e1, e2, if_pos (by omega)]
  omega
theorem fpN {c d : Nat} (hd : 0 < d) : FP.Core.nearest (c * d) d = c := by
  unfold FP.Core.nearest
  rw [Nat.mul_mod_left, if_pos (by omega), Nat.mul_div_cancel _ hd]
theorem fp_mul {c d : Nat} {q r : Int} (h1 : 4503599627370496 ≤ c) (h2 : c < 9007199254740992) (h3 : -1074 ≤ q) (h4 : q ≤ 971) (hd : FP.Core.decode FP.Core.b64 d = .fin false 4503599627370496 r) (h5 : -1074 ≤ q + r + 52) (h6 : q + r + 52 ≤ 971) : FP.Core.mul FP.Core.b64 (fpE c q) d = fpE c (q + r + 52) := by
  unfold FP.Core.mul
  rw [fpD h1 h2 h3 h4, hd]
  show FP.Core.encode FP.Core.b64 (FP.Core.roundRatio FP.Core.b64 false (c * 4503599627370496) 1 (q + r)) = _
  have p1 : (2 : Nat) ^ 104 = 20282409603651670423947251286016 := by decide
  have p2 : (2 : Nat) ^ (104 + 1) = 40564819207303340847894502572032 := by decide
  have hl : FP.Core.leading (c * 4503599627370496) 1 = (104 : Nat) := fpL (by rw [p1]; omega) (by rw [p2]; omega)
  rw [fpR (c := c) (Q := q + r + 52) (by omega) (by rw [hl]; omega) h5 h6 ?_ h2, fpEnc h1 h5]
  rw [show (q + r - (q + r + 52)).toNat = 0 by omega, show (q + r + 52 - (q + r)).toNat = 52 by omega]
  show FP.Core.nearest (c * 4503599627370496 * 1) (1 * 4503599627370496) = c
  rw [Nat.mul_one, Nat.one_mul]
  exact fpN (by decide)
theorem fpEnc0 {s : Bool} : FP.Core.encode FP.Core.b64 (.fin false 0 FP.Core.b64.qmin) = 0 := by decide
theorem fp_one : FP.Core.decode FP.Core.b64 4607182418800017408 = .fin false 4503599627370496 (-52) := by decide +kernel
theorem fp_su {c K : Nat} (h1 : K ≤ c) : FP.Core.sumUnits false c (-52) true K (-52) (-52) = ((c - K : Nat) : Int) := by
  have h00 : ((-52 : Int) - -52).toNat = 0 := by decide
  simp only [FP.Core.sumUnits, FP.Core.inUnits, FP.Core.signed, h00, Nat.pow_zero, Nat.mul_one]
  rw [if_neg (by decide), if_pos trivial]
  omega
theorem fp_ss {n : Nat} : FP.Core.sumSign false true (n : Int) = false := by
  unfold FP.Core.sumSign
  by_cases h : (n : Int) = 0
  · rw [if_pos h]; rfl
  · rw [if_neg h]; exact decide_eq_false (by omega)
theorem fp_xs {c K : Nat} (h1 : K ≤ c) : FP.Core.exactSum (.fin false c (-52)) (FP.Core.negate (.fin false K (-52))) = .fin false (c - K) (-52) := by
  have hmin : min (-52 : Int) (-52) = -52 := by decide
  simp only [FP.Core.negate, FP.Core.exactSum, hmin, Bool.not_false, fp_su h1, fp_ss, Int.natAbs_natCast]
/-- less one -/
theorem fp_sub1 {c : Nat} (h1 : 4503599627370496 ≤ c) (h2 : c < 9007199254740992) : FP.Core.sub FP.Core.b64 (fpE c (-52)) 4607182418800017408 = FP.Core.encode FP.Core.b64 (FP.Core.roundRatio FP.Core.b64 false (c - 4503599627370496) 1 (-52)) := by
  unfold FP.Core.sub
  rw [fpD h1 h2 (by decide) (by decide), fp_one, fp_xs h1, FP.Core.round]
/-- a number below 2^52, in units of 2^-52 -/
theorem fp_small {t : Nat} (h0 : t ≠ 0) (ht : t < 4503599627370496) : ∃ L : Nat, L ≤ 51 ∧ 4503599627370496 ≤ t * 2 ^ (52 - L) ∧ t * 2 ^ (52 - L) < 9007199254740992 ∧ FP.Core.encode FP.Core.b64 (FP.Core.roundRatio FP.Core.b64 false t 1 (-52)) = fpE (t * 2 ^ (52 - L)) ((L : Int) - 104) := by
  have a1 : 2 ^ t.log2 ≤ t := Nat.log2_self_le h0
  have a2 : t < 2 ^ (t.log2 + 1) := Nat.lt_log2_self
  generalize t.log2 = L at a1 a2
  have hL : L ≤ 51 := by
    by_cases h : L ≤ 51
    · exact h
    · have : 2 ^ 52 ≤ 2 ^ L := Nat.pow_le_pow_right (by decide) (by omega)
      have p52 : (2 : Nat) ^ 52 = 4503599627370496 := by decide
      omega
  have b1 : 4503599627370496 ≤ t * 2 ^ (52 - L) := by
    have : 2 ^ L * 2 ^ (52 - L) = 4503599627370496 := by
      rw [← Nat.pow_add, show L + (52 - L) = 52 by omega]
    rw [← this]
    exact Nat.mul_le_mul_right _ a1
  have b2 : t * 2 ^ (52 - L) < 9007199254740992 := by
    have : 2 ^ (L + 1) * 2 ^ (52 - L) = 9007199254740992 := by
      rw [← Nat.pow_add, show L + 1 + (52 - L) = 53 by omega]
    rw [← this]
    exact Nat.mul_lt_mul_of_pos_right a2 (Nat.two_pow_pos _)
  refine ⟨L, hL, b1, b2, ?_⟩
  rw [fpR (c := t * 2 ^ (52 - L)) (Q := (L : Int) - 104) h0 (by rw [fpL a1 a2]; omega) (by omega) (by omega) ?_ b2, fpEnc b1 (by omega)]
  rw [show (-52 - ((L : Int) - 104)).toNat = 52 - L by omega, show ((L : Int) - 104 - -52).toNat = 0 by omega]
  have := fpN (c := t * 2 ^ (52 - L)) (d := 1) (by decide)
  rw [Nat.mul_one] at this
  exact this

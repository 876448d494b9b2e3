/-! ===== doubles: a share, its bits ===== -/
def fpE (c : Nat) (q : Int) : Nat := ((q + 1074).toNat + 1) * 4503599627370496 + (c - 4503599627370496)
theorem fpE_lt {c : Nat} {q : Int} (h2 : c < 9007199254740992) (h4 : q ≤ 971) : fpE c q < 9218868437227405312 := by
  unfold fpE
  have : (q + 1074).toNat ≤ 2045 := by omega
  omega
def fpU (c : Nat) (q : Int) : UInt64 := UInt64.ofNat (fpE c q)
theorem fpU_nat {c : Nat} {q : Int} (h2 : c < 9007199254740992) (h4 : q ≤ 971) : (fpU c q).toNat = fpE c q := by
  unfold fpU
  have := fpE_lt h2 h4
  rw [UInt64.toNat_ofNat']
  exact Nat.mod_eq_of_lt (by omega)
theorem fpD {c : Nat} {q : Int} (h1 : 4503599627370496 ≤ c) (h2 : c < 9007199254740992) (h3 : -1074 ≤ q) (h4 : q ≤ 971) : FP.Core.decode FP.Core.b64 (fpE c q) = .fin false c q := by
  obtain ⟨k, rfl⟩ : ∃ k : Nat, q = (k : Int) - 1074 := ⟨(q + 1074).toNat, by omega⟩
  have ht : FP.Core.b64.tails = 4503599627370496 := by decide
  have he : FP.Core.b64.exps = 2048 := by decide
  have hq : FP.Core.b64.qmin = -1074 := by decide
  have hk : ((k : Int) - 1074 + 1074).toNat = k := by omega
  have e1 : FP.Core.fieldE FP.Core.b64 (fpE c ((k : Int) - 1074)) = k + 1 := by
    unfold FP.Core.fieldE fpE
    rw [ht, he, hk]
    omega
  have e2 : FP.Core.fieldT FP.Core.b64 (fpE c ((k : Int) - 1074)) = c - 4503599627370496 := by
    unfold FP.Core.fieldT fpE
    rw [ht, hk]
    omega
  have e3 : FP.Core.fieldS FP.Core.b64 (fpE c ((k : Int) - 1074)) = false := by
    unfold FP.Core.fieldS fpE
    rw [ht, he, hk]
    have : ((k + 1) * 4503599627370496 + (c - 4503599627370496)) / 4503599627370496 / 2048 % 2 = 0 := by omega
    rw [this]
    rfl
  unfold FP.Core.decode
  rw [e1, e2, e3, he, ht, hq, if_neg (by omega), if_neg (by omega)]
  rw [show 4503599627370496 + (c - 4503599627370496) = c by omega, show (-1074 : Int) + (((k + 1 : Nat) : Int) - 1) = (k : Int) - 1074 by omega]
theorem fpEnc {c : Nat} {q : Int} (h1 : 4503599627370496 ≤ c) (h3 : -1074 ≤ q) : FP.Core.encode FP.Core.b64 (.fin false c q) = fpE c q := by
  have ht : FP.Core.b64.tails = 4503599627370496 := by decide
  have hq : FP.Core.b64.qmin = -1074 := by decide
  have he : FP.Core.b64.exps = 2048 := by decide
  show (if c < FP.Core.b64.tails then _ else FP.Core.assemble FP.Core.b64 false ((q - FP.Core.b64.qmin).toNat + 1) (c - FP.Core.b64.tails)) = _
  rw [ht, hq, if_neg (by omega)]
  unfold FP.Core.assemble fpE
  rw [ht, he, show (q - -1074).toNat = (q + 1074).toNat by omega]
  show (0 * 2048 + _) * _ + _ = _
  omega
theorem fpR {s : Bool} {num den c : Nat} {e Q : Int} (h0 : num ≠ 0) (hl : FP.Core.leading num den + e - 52 = Q) (hQ : -1074 ≤ Q) (hQ2 : Q ≤ 971) (hn : FP.Core.nearest (num * 2 ^ (e - Q).toNat) (den * 2 ^ (Q - e).toNat) = c) (hc : c < 9007199254740992) : FP.Core.roundRatio FP.Core.b64 s num den e = .fin s c Q := by
  have hq : FP.Core.b64.qmin = -1074 := by decide
  have hm : FP.Core.b64.qmax = 971 := by decide
  have hqu : FP.Core.quantum FP.Core.b64 num den e = Q := by
    unfold FP.Core.quantum
    rw [hq]
    show max (-1074) (FP.Core.leading num den + e - ((53 : Int) - 1)) = Q
    omega
  unfold FP.Core.roundRatio
  rw [if_neg h0, hqu]
  unfold FP.Core.roundAt FP.Core.unitsNum FP.Core.unitsDen FP.Core.settle FP.Core.bound
  rw [hn, if_pos (show c < 2 ^ FP.Core.b64.p from hc), hm, if_pos hQ2]
theorem fpL {num L : Nat} (h1 : 2 ^ L ≤ num) (h2 : num < 2 ^ (L + 1)) : FP.Core.leading num 1 = L := by
  have h0 : num ≠ 0 := by have := Nat.two_pow_pos L; omega
  have hl : num.log2 = L := by
    have a := (Nat.le_log2 h0 (k := L)).mpr h1
    have b := (Nat.log2_lt h0 (k := L + 1)).mpr h2
    omega
  have h1l : Nat.log2 1 = 0 := by decide
  unfold FP.Core.leading
  rw [hl, h1l]
  show (if 1 * 2 ^ ((L : Int) - ((0 : Nat) : Int)).toNat ≤ num * 2 ^ (-((L : Int) - ((0 : Nat) : Int))).toNat then _ else _) = _
  have e1 : ((L : Int) - ((0 : Nat) : Int)).toNat = L := by omega
  have e2 : (-((L : Int) - ((0 : Nat) : Int))).toNat = 0 := by omega
  rw [e1, e2, if_pos (by omega)]
  omega
theorem fpN {c d : Nat} (hd : 0 < d) : FP.Core.nearest (c * d) d = c := by
  unfold FP.Core.nearest
  rw [Nat.mul_mod_left, if_pos (by omega), Nat.mul_div_cancel _ hd]
theorem fp_mul {c d : Nat} {q r : Int} (h1 : 4503599627370496 ≤ c) (h2 : c < 9007199254740992) (h3 : -1074 ≤ q) (h4 : q ≤ 971) (hd : FP.Core.decode FP.Core.b64 d = .fin false 4503599627370496 r) (h5 : -1074 ≤ q + r + 52) (h6 : q + r + 52 ≤ 971) : FP.Core.mul FP.Core.b64 (fpE c q) d = fpE c (q + r + 52) := by
  unfold FP.Core.mul
  rw [fpD h1 h2 h3 h4, hd]
  show FP.Core.encode FP.Core.b64 (FP.Core.roundRatio FP.Core.b64 false (c * 4503599627370496) 1 (q + r)) = _
  have p1 : (2 : Nat) ^ 104 = 20282409603651670423947251286016 := by decide
  have p2 : (2 : Nat) ^ (104 + 1) = 40564819207303340847894502572032 := by decide
  have hl : FP.Core.leading (c * 4503599627370496) 1 = (104 : Nat) := fpL (by rw [p1]; omega) (by rw [p2]; omega)
  rw [fpR (c := c) (Q := q + r + 52) (by omega) (by rw [hl]; omega) h5 h6 ?_ h2, fpEnc h1 h5]
  rw [show (q + r - (q + r + 52)).toNat = 0 by omega, show (q + r + 52 - (q + r)).toNat = 52 by omega]
  show FP.Core.nearest (c * 4503599627370496 * 1) (1 * 4503599627370496) = c
  rw [Nat.mul_one, Nat.one_mul]
  exact fpN (by decide)
theorem fpEnc0 {s : Bool} : FP.Core.encode FP.Core.b64 (.fin false 0 FP.Core.b64.qmin) = 0 := by decide
theorem fp_one : FP.Core.decode FP.Core.b64 4607182418800017408 = .fin false 4503599627370496 (-52) := by decide +kernel
theorem fp_su {c K : Nat} (h1 : K ≤ c) : FP.Core.sumUnits false c (-52) true K (-52) (-52) = ((c - K : Nat) : Int) := by
  have h00 : ((-52 : Int) - -52).toNat = 0 := by decide
  simp only [FP.Core.sumUnits, FP.Core.inUnits, FP.Core.signed, h00, Nat.pow_zero, Nat.mul_one]
  rw [if_neg (by decide), if_pos trivial]
  omega
theorem fp_ss {n : Nat} : FP.Core.sumSign false true (n : Int) = false := by
  unfold FP.Core.sumSign
  by_cases h : (n : Int) = 0
  · rw [if_pos h]; rfl
  · rw [if_neg h]; exact decide_eq_false (by omega)
theorem fp_xs {c K : Nat} (h1 : K ≤ c) : FP.Core.exactSum (.fin false c (-52)) (FP.Core.negate (.fin false K (-52))) = .fin false (c - K) (-52) := by
  have hmin : min (-52 : Int) (-52) = -52 := by decide
  simp only [FP.Core.negate, FP.Core.exactSum, hmin, Bool.not_false, fp_su h1, fp_ss, Int.natAbs_natCast]
/-- less one -/
theorem fp_sub1 {c : Nat} (h1 : 4503599627370496 ≤ c) (h2 : c < 9007199254740992) : FP.Core.sub FP.Core.b64 (fpE c (-52)) 4607182418800017408 = FP.Core.encode FP.Core.b64 (FP.Core.roundRatio FP.Core.b64 false (c - 4503599627370496) 1 (-52)) := by
  unfold FP.Core.sub
  rw [fpD h1 h2 (by decide) (by decide), fp_one, fp_xs h1, FP.Core.round]
/-- a number below 2^52, in units of 2^-52 -/
theorem fp_small {t : Nat} (h0 : t ≠ 0) (ht : t < 4503599627370496) : ∃ L : Nat, L ≤ 51 ∧ 4503599627370496 ≤ t * 2 ^ (52 - L) ∧ t * 2 ^ (52 - L) < 9007199254740992 ∧ FP.Core.encode FP.Core.b64 (FP.Core.roundRatio FP.Core.b64 false t 1 (-52)) = fpE (t * 2 ^ (52 - L)) ((L : Int) - 104) := by
  have a1 : 2 ^ t.log2 ≤ t := Nat.log2_self_le h0
  have a2 : t < 2 ^ (t.log2 + 1) := Nat.lt_log2_self
  generalize t.log2 = L at a1 a2
  have hL : L ≤ 51 := by
    by_cases h : L ≤ 51
    · exact h
    · have : 2 ^ 52 ≤ 2 ^ L := Nat.pow_le_pow_right (by decide) (by omega)
      have p52 : (2 : Nat) ^ 52 = 4503599627370496 := by decide
      omega
  have b1 : 4503599627370496 ≤ t * 2 ^ (52 - L) := by
    have : 2 ^ L * 2 ^ (52 - L) = 4503599627370496 := by
      rw [← Nat.pow_add, show L + (52 - L) = 52 by omega]
    rw [← this]
    exact Nat.mul_le_mul_right _ a1
  have b2 : t * 2 ^ (52 - L) < 9007199254740992 := by
    have : 2 ^ (L + 1) * 2 ^ (52 - L) = 9007199254740992 := by
      rw [← Nat.pow_add, show L + 1 + (52 - L) = 53 by omega]
    rw [← this]
    exact Nat.mul_lt_mul_of_pos_right a2 (Nat.two_pow_pos _)
  refine ⟨L, hL, b1, b2, ?_⟩
  rw [fpR (c := t * 2 ^ (52 - L)) (Q := (L : Int) - 104) h0 (by rw [fpL a1 a2]; omega) (by omega) (by omega) ?_ b2, fpEnc b1 (by omega)]
  rw [show (-52 - ((L : Int) - 104)).toNat = 52 - L by omega, show ((L : Int) - 104 - -52).toNat = 0 by omega]
  have := fpN (c := t * 2 ^ (52 - L)) (d := 1) (by decide)
  rw [Nat.mul_one] at this
  exact this
/-- doubles as the machine has them -/
theorem fpU_dec {c : Nat} {q : Int} (h1 : 4503599627370496 ≤ c) (h2 : c < 9007199254740992) (h3 : -1074 ≤ q) (h4 : q ≤ 971) : FP.Core.decode FP.Core.b64 (fpU c q).toNat = .fin false c q := by
  rw [fpU_nat h2 h4, fpD h1 h2 h3 h4]
theorem fp_nn {n : UInt64} (h : n.toNat ≤ 9218868437227405312) : vf_n64 n := by
  unfold vf_n64
  rw [UInt64.le_iff_toNat_le, UInt64.toNat_and]
  have e1 : (0x7fffffffffffffff : UInt64).toNat = 2 ^ 63 - 1 := by decide
  have e2 : (0x7ff0000000000000 : UInt64).toNat = 9218868437227405312 := by decide
  rw [e1, e2, Nat.and_two_pow_sub_one_eq_mod]
  exact Nat.le_trans (Nat.mod_le _ _) h
theorem fpU_nn {c : Nat} {q : Int} (h2 : c < 9007199254740992) (h4 : q ≤ 971) : vf_n64 (fpU c q) :=
  fp_nn (by rw [fpU_nat h2 h4]; exact Nat.le_of_lt (fpE_lt h2 h4))
theorem fp_two : FP.Core.decode FP.Core.b64 4611686018427387904 = .fin false 4503599627370496 (-51) := by decide +kernel
theorem fp_p52 : FP.Core.decode FP.Core.b64 4841369599423283200 = .fin false 4503599627370496 0 := by decide +kernel
theorem fp_dbl {c : Nat} {q : Int} (h1 : 4503599627370496 ≤ c) (h2 : c < 9007199254740992) (h3 : -1074 ≤ q) (h4 : q ≤ 900) : FP.dmul (fpU c q) 4611686018427387904 = fpU c (q + 1) := by
  show UInt64.ofNat (FP.Core.mul FP.Core.b64 (fpU c q).toNat (4611686018427387904 : UInt64).toNat) = _
  rw [fpU_nat h2 (by omega), show (4611686018427387904 : UInt64).toNat = 4611686018427387904 from by decide, fp_mul h1 h2 h3 (by omega) fp_two (by omega) (by omega), show q + -51 + 52 = q + 1 by omega]
  rfl
theorem fp_cmpI {a b : Int} : compare a b = if a < b then .lt else if a = b then .eq else .gt := by
  simp only [compare, compareOfLessAndEq]
theorem fp_lt1 {c : Nat} {q : Int} (h1 : 4503599627370496 ≤ c) (h2 : c < 9007199254740992) (h3 : -1074 ≤ q) (h4 : q ≤ -53) : FP.dcmp (fpU c q) FP.dconst1 = some .lt := by
  show FP.Core.order (FP.Core.decode FP.Core.b64 (fpU c q).toNat) (FP.Core.decode FP.Core.b64 (4607182418800017408 : UInt64).toNat) = _
  rw [fpU_dec h1 h2 h3 (by omega), show (4607182418800017408 : UInt64).toNat = 4607182418800017408 from by decide, fp_one]
  have hmin : min q (-52) = q := by omega
  simp only [FP.Core.order, hmin, FP.Core.inUnits, FP.Core.signed]
  rw [show (q - q).toNat = 0 by omega, fp_cmpI, if_pos]
  obtain ⟨d, hd⟩ : ∃ d : Nat, (-52 - q).toNat = d + 1 := ⟨(-52 - q).toNat - 1, by omega⟩
  rw [hd, Nat.pow_succ, Nat.pow_zero, Nat.mul_one, if_neg (by decide), if_neg (by decide)]
  have : 0 < 2 ^ d := Nat.two_pow_pos d
  generalize 2 ^ d = e at this
  have h9 : 4503599627370496 * 2 ≤ 4503599627370496 * (e * 2) := Nat.mul_le_mul_left _ (by omega)
  omega
theorem fp_ge1 {c : Nat} (h1 : 4503599627370496 ≤ c) (h2 : c < 9007199254740992) : FP.dcmp (fpU c (-52)) FP.dconst1 = some .eq ∨ FP.dcmp (fpU c (-52)) FP.dconst1 = some .gt := by
  have e : FP.dcmp (fpU c (-52)) FP.dconst1 = some (compare ((c : Nat) : Int) ((4503599627370496 : Nat) : Int)) := by
    show FP.Core.order (FP.Core.decode FP.Core.b64 (fpU c (-52)).toNat) (FP.Core.decode FP.Core.b64 (4607182418800017408 : UInt64).toNat) = _
    rw [fpU_dec h1 h2 (by decide) (by decide), show (4607182418800017408 : UInt64).toNat = 4607182418800017408 from by decide, fp_one]
    have hmin : min (-52 : Int) (-52) = -52 := by decide
    have h00 : ((-52 : Int) - -52).toNat = 0 := by decide
    simp only [FP.Core.order, hmin, FP.Core.inUnits, FP.Core.signed, h00, Nat.pow_zero, Nat.mul_one]
    rw [if_neg (by decide), if_neg (by decide)]
  rw [e, fp_cmpI, if_neg (by omega)]
  by_cases h : ((c : Nat) : Int) = ((4503599627370496 : Nat) : Int)
  · rw [if_pos h]; exact Or.inl rfl
  · rw [if_neg h]; exact Or.inr rfl
theorem fp_zero : FP.Core.decode FP.Core.b64 0 = .fin false 0 (-1074) := by decide +kernel
theorem fp_pos {c : Nat} {q : Int} (h1 : 4503599627370496 ≤ c) (h2 : c < 9007199254740992) (h3 : -1074 ≤ q) (h4 : q ≤ 971) : FP.dcmp (fpU c q) FP.dconst0 = some .gt := by
  show FP.Core.order (FP.Core.decode FP.Core.b64 (fpU c q).toNat) (FP.Core.decode FP.Core.b64 (0 : UInt64).toNat) = _
  rw [fpU_dec h1 h2 h3 h4, show (0 : UInt64).toNat = 0 from by decide, fp_zero]
  have hmin : min q (-1074) = -1074 := by omega
  simp only [FP.Core.order, hmin, FP.Core.inUnits, FP.Core.signed]
  rw [if_neg (by decide), if_neg (by decide), Nat.zero_mul]
  have : 0 < c * 2 ^ (q - -1074).toNat := Nat.mul_pos (by omega) (Nat.two_pow_pos _)
  generalize c * 2 ^ (q - -1074).toNat = e at this
  rw [fp_cmpI, if_neg (by omega), if_neg (by omega)]
theorem fp_self {c : Nat} {q : Int} (h1 : 4503599627370496 ≤ c) (h2 : c < 9007199254740992) (h3 : -1074 ≤ q) (h4 : q ≤ 971) : FP.dcmp (fpU c q) (fpU c q) = some .eq := by
  show FP.Core.order (FP.Core.decode FP.Core.b64 (fpU c q).toNat) (FP.Core.decode FP.Core.b64 (fpU c q).toNat) = _
  rw [fpU_dec h1 h2 h3 h4]
  simp only [FP.Core.order]
  rw [fp_cmpI, if_neg (by omega), if_pos rfl]
/-- what is left of the bits -/
theorem fp_lowS {c t : Nat} (h1 : 4503599627370496 ≤ c) (h2 : c < 9007199254740992) (ht : c - 4503599627370496 = t) : FP.dsub (fpU c (-52)) FP.dconst1 = UInt64.ofNat (FP.Core.encode FP.Core.b64 (FP.Core.roundRatio FP.Core.b64 false t 1 (-52))) := by
  show UInt64.ofNat (FP.Core.sub FP.Core.b64 (fpU c (-52)).toNat (4607182418800017408 : UInt64).toNat) = _
  rw [fpU_nat h2 (by decide), show (4607182418800017408 : UInt64).toNat = 4607182418800017408 from by decide, fp_sub1 h1 h2, ht]
theorem fp_low0 : vf_n64 (UInt64.ofNat (FP.Core.encode FP.Core.b64 (FP.Core.roundRatio FP.Core.b64 false 0 1 (-52)))) ∧ vf_n64 (FP.dmul (UInt64.ofNat (FP.Core.encode FP.Core.b64 (FP.Core.roundRatio FP.Core.b64 false 0 1 (-52)))) 4841369599423283200) ∧ FP.d2l (FP.dmul (UInt64.ofNat (FP.Core.encode FP.Core.b64 (FP.Core.roundRatio FP.Core.b64 false 0 1 (-52)))) 4841369599423283200) = Int64.ofNat 0 := by
  refine ⟨?_, ?_, ?_⟩ <;> first | (unfold vf_n64; decide +kernel) | decide +kernel
theorem fp_lowU {t : Nat} (h0 : t ≠ 0) (h2 : t < 4503599627370496) : vf_n64 (UInt64.ofNat (FP.Core.encode FP.Core.b64 (FP.Core.roundRatio FP.Core.b64 false t 1 (-52)))) ∧ vf_n64 (FP.dmul (UInt64.ofNat (FP.Core.encode FP.Core.b64 (FP.Core.roundRatio FP.Core.b64 false t 1 (-52)))) 4841369599423283200) ∧ FP.d2l (FP.dmul (UInt64.ofNat (FP.Core.encode FP.Core.b64 (FP.Core.roundRatio FP.Core.b64 false t 1 (-52)))) 4841369599423283200) = Int64.ofNat t := by
  obtain ⟨L, hL, b1, b2, b3⟩ := fp_small (t := t) h0 h2
  rw [b3]
  generalize hk : t * 2 ^ (52 - L) = k at b1 b2
  have e2 : FP.dmul (fpU k ((L : Int) - 104)) 4841369599423283200 = fpU k ((L : Int) - 52) := by
    show UInt64.ofNat (FP.Core.mul FP.Core.b64 (fpU k ((L : Int) - 104)).toNat (4841369599423283200 : UInt64).toNat) = _
    rw [fpU_nat b2 (by omega), show (4841369599423283200 : UInt64).toNat = 4841369599423283200 from by decide, fp_mul b1 b2 (by omega) (by omega) fp_p52 (by omega) (by omega), show (L : Int) - 104 + 0 + 52 = (L : Int) - 52 by omega]
    rfl
  have e3 : UInt64.ofNat (fpE k ((L : Int) - 104)) = fpU k ((L : Int) - 104) := rfl
  rw [e3, e2]
  refine ⟨fpU_nn b2 (by omega), fpU_nn b2 (by omega), ?_⟩
  show FP.Core.toL (FP.Core.decode FP.Core.b64 (fpU k ((L : Int) - 52)).toNat) = _
  rw [fpU_dec b1 b2 (by omega) (by omega)]
  have ht : FP.Core.truncate false k ((L : Int) - 52) = (t : Int) := by
    simp only [FP.Core.truncate, FP.Core.signed]
    rw [if_neg (by decide), show ((L : Int) - 52).toNat = 0 by omega, show (-((L : Int) - 52)).toNat = 52 - L by omega, Nat.pow_zero, Nat.mul_one, ← hk, Nat.mul_div_cancel _ (Nat.two_pow_pos _)]
  unfold FP.Core.toL
  simp only [FP.Core.toInt, ht]
  have p63 : (2 : Int) ^ 63 = 9223372036854775808 := by decide
  rw [p63, show max (-9223372036854775808) (min (9223372036854775808 - 1) (t : Int)) = (t : Int) by omega]
  rfl
theorem fp_low {c : Nat} (h1 : 4503599627370496 ≤ c) (h2 : c < 9007199254740992) : vf_n64 (FP.dsub (fpU c (-52)) FP.dconst1) ∧ vf_n64 (FP.dmul (FP.dsub (fpU c (-52)) FP.dconst1) 4841369599423283200) ∧ FP.d2l (FP.dmul (FP.dsub (fpU c (-52)) FP.dconst1) 4841369599423283200) = Int64.ofNat (c - 4503599627370496) := by
  generalize ht : c - 4503599627370496 = t
  rw [fp_lowS h1 h2 ht]
  by_cases h0 : t = 0
  · rw [h0]
    exact fp_low0
  · exact fp_lowU h0 (by omega)
def fpAl (p : Nat → Bool) : Nat → Bool
  | 0 => true
  | n + 1 => p n && fpAl p n
theorem fpAl_of {p : Nat → Bool} : ∀ {n : Nat}, fpAl p n = true → ∀ k, k < n → p k = true
  | 0, _, k, hk => absurd hk (Nat.not_lt_zero k)
  | n + 1, h, k, hk => by
    unfold fpAl at h
    rw [Bool.and_eq_true] at h
    by_cases e : k = n
    · rw [e]; exact h.1
    · exact fpAl_of h.2 k (by omega)
theorem fp_shl0 : fpAl (fun E => decide ((Int64.ofNat E) <<< ((nI 52).toInt64 &&& 63) = Int64.ofNat (E * 4503599627370496))) 1100 = true := by decide +kernel
theorem fp_shl {E t : Nat} (h : E < 1100) : (Int64.ofNat E) <<< ((nI 52).toInt64 &&& 63) + Int64.ofNat t = (UInt64.ofNat (E * 4503599627370496 + t)).toInt64 := by
  rw [of_decide_eq_true (fpAl_of fp_shl0 E h), ← Int64.ofNat_add]
  rfl
theorem fp_1 (n : Nat) : Int64.ofNat (n + 1) - 1 = Int64.ofNat n := by
  rw [Int64.ofNat_add]
  exact Int64.add_sub_cancel _ _
section P23
variable {G : xG} {hp : List xE} {x : Nat}
theorem S_B_bitsOf_0 : xMet G B_bitsOf [.double FP.dconst0] hp x 0 0 (xRetV (.long (0 : UInt64).toInt64) hp) := by
  refine xw_dload_n 1 dX4_bitsOf_0 rfl rfl ?_
  refine xw_dconst0 2 dX4_bitsOf_1 rfl ?_
  refine xw_dcmp 3 dX4_bitsOf_2 rfl ?_
  refine xw_if_gt 8 6 dX4_bitsOf_3 rfl rfl (fun h3 => absurd h3 (by decide +kernel)) (fun h3 => ?_)
  refine xw_lconst 7 0 dX4_bitsOf_6 rfl rfl ?_
  exact xw_lreturn dX4_bitsOf_7 rfl (⟨rfl, rfl⟩)
theorem S_B_bitsOf {c : Nat} {q : Int} (h1 : 4503599627370496 ≤ c) (h2 : c < 9007199254740992) (h3 : -100 ≤ q) (h4 : q ≤ -52) : xMet G B_bitsOf [.double (fpU c q)] hp x 0 0 (xRetV (.long (fpU c q).toInt64) hp) := by
  have loop : ∀ (t i : Nat) (r : Int) (e : Int64), r + t = -52 → i + t ≤ 60 → q ≤ r → e = Int64.ofNat ((q + 1075).toNat + t) → xW G B_bitsOf (xRetV (.long (fpU c q).toInt64) hp) 18 [(6, .int (nI i)), (4, .long e), (2, .double (fpU c r)), (0, .double (fpU c q))] [] hp x 0 0 := by
    intro t
    induction t with
    | zero =>
      intro i r e hr hi hq he
      have er : r = -52 := by omega
      subst er
      obtain ⟨n1, n2, n3⟩ := fp_low h1 h2
      have hgt : ¬ Op.cmpValue (FP.dcmp (fpU c (-52)) FP.dconst1) .g < 0 := by
        rcases fp_ge1 h1 h2 with h | h <;> rw [h] <;> decide
      have hret : e <<< ((nI 52).toInt64 &&& 63) + FP.d2l (FP.dmul (FP.dsub (fpU c (-52)) FP.dconst1) 4841369599423283200) = (fpU c q).toInt64 := by
        rw [he, n3, Nat.add_zero, fp_shl (by omega)]
        unfold fpU fpE
        rw [show (q + 1075).toNat = (q + 1074).toNat + 1 by omega]
      refine xw_iload 20 dX4_bitsOf_18 rfl rfl ?_
      refine xw_bipush 22 (nI 64) dX4_bitsOf_20 rfl (by decide) ?_
      refine xw_icmp_ge 49 25 dX4_bitsOf_22 rfl rfl (fun h22 => absurd h22 (nI_ge (by omega) (by decide))) (fun h22 => ?_)
      refine xw_dload_n 26 dX4_bitsOf_25 rfl rfl ?_
      refine xw_dconst1 27 dX4_bitsOf_26 rfl ?_
      refine xw_dcmp 28 dX4_bitsOf_27 rfl ?_
      refine xw_if_ge 49 31 dX4_bitsOf_28 rfl rfl (fun h28 => ?_) (fun h28 => absurd (by rw [Int32.not_lt] at hgt; exact hgt) h28)
      refine xw_lload 51 dX4_bitsOf_49 rfl rfl ?_
      refine xw_bipush 53 (nI 52) dX4_bitsOf_51 rfl (by decide) ?_
      refine xw_lshl 54 dX4_bitsOf_53 rfl ?_
      refine xw_dload_n 55 dX4_bitsOf_54 rfl rfl ?_
      refine xw_dconst1 56 dX4_bitsOf_55 rfl ?_
      refine xw_dsub 57 dX4_bitsOf_56 rfl (n1) ?_
      refine xw_ldc2d 60 dX4_bitsOf_57 rfl k_X4_355 ?_
      refine xw_dmul 61 dX4_bitsOf_60 rfl (n2) ?_
      refine xw_d2l 62 dX4_bitsOf_61 rfl ?_
      refine xw_ladd 63 dX4_bitsOf_62 rfl ?_
      exact xw_lreturn dX4_bitsOf_63 rfl (⟨by rw [hret], rfl⟩)
    | succ t ih =>
      intro i r e hr hi hq he
      have ih := ih (i + 1) (r + 1) (e - 1) (by omega) (by omega) (by omega) (by rw [he, ← Nat.add_assoc, fp_1])
      have hlt : ¬ (0 : Int32) ≤ Op.cmpValue (FP.dcmp (fpU c r) FP.dconst1) .g := by
        rw [fp_lt1 h1 h2 (by omega) (by omega)]
        decide
      have hd := fp_dbl h1 h2 (show -1074 ≤ r by omega) (show r ≤ 900 by omega)
      refine xw_iload 20 dX4_bitsOf_18 rfl rfl ?_
      refine xw_bipush 22 (nI 64) dX4_bitsOf_20 rfl (by decide) ?_
      refine xw_icmp_ge 49 25 dX4_bitsOf_22 rfl rfl (fun h22 => absurd h22 (nI_ge (by omega) (by decide))) (fun h22 => ?_)
      refine xw_dload_n 26 dX4_bitsOf_25 rfl rfl ?_
      refine xw_dconst1 27 dX4_bitsOf_26 rfl ?_
      refine xw_dcmp 28 dX4_bitsOf_27 rfl ?_
      refine xw_if_ge 49 31 dX4_bitsOf_28 rfl rfl (fun h28 => absurd h28 (hlt)) (fun h28 => ?_)
      refine xw_dload_n 32 dX4_bitsOf_31 rfl rfl ?_
      refine xw_ldc2d 35 dX4_bitsOf_32 rfl k_X4_353 ?_
      refine xw_dmul 36 dX4_bitsOf_35 rfl (by rw [hd]; exact fpU_nn h2 (by omega)) ?_
      rw [hd]
      refine xw_dstore_n (ls' := [(2, _), (6, _), (4, _), (0, _)]) 37 dX4_bitsOf_36 rfl rfl rfl ?_
      refine xw_lload 39 dX4_bitsOf_37 rfl rfl ?_
      refine xw_lconst 40 1 dX4_bitsOf_39 rfl rfl ?_
      refine xw_lsub 41 dX4_bitsOf_40 rfl ?_
      refine xw_lstore (ls' := [(4, _), (2, _), (6, _), (0, _)]) 43 dX4_bitsOf_41 rfl rfl rfl ?_
      refine xw_iinc (ls' := [(6, _), (4, _), (2, _), (0, _)]) 46 _ dX4_bitsOf_43 rfl rfl (xnI_inc _) rfl rfl ?_
      refine xw_goto 18 dX4_bitsOf_46 rfl ?_
      exact xW.pick [0, 1, 2, 3] rfl (ih)
  have hgt : (0 : Int32) < Op.cmpValue (FP.dcmp (fpU c q) FP.dconst0) .g := by
    rw [fp_pos h1 h2 (by omega) (by omega)]
    decide
  have h9 := loop (-52 - q).toNat 0 q 1023 (by omega) (by omega) (Int.le_refl _) (by rw [show (q + 1075).toNat + (-52 - q).toNat = 1023 by omega]; rfl)
  refine xw_dload_n 1 dX4_bitsOf_0 rfl rfl ?_
  refine xw_dconst0 2 dX4_bitsOf_1 rfl ?_
  refine xw_dcmp 3 dX4_bitsOf_2 rfl ?_
  refine xw_if_gt 8 6 dX4_bitsOf_3 rfl rfl (fun h3 => ?_) (fun h3 => absurd (hgt) h3)
  refine xw_dload_n 9 dX4_bitsOf_8 rfl rfl ?_
  refine xw_dstore_n (ls' := [(2, _), (0, _)]) 10 dX4_bitsOf_9 rfl rfl rfl ?_
  refine xw_ldc2 13 dX4_bitsOf_10 rfl k_X4_351 ?_
  refine xw_lstore (ls' := [(4, _), (2, _), (0, _)]) 15 dX4_bitsOf_13 rfl rfl rfl ?_
  refine xw_iconst 16 (nI 0) dX4_bitsOf_15 rfl (xofI 0) ?_
  refine xw_istore (ls' := [(6, _), (4, _), (2, _), (0, _)]) 18 dX4_bitsOf_16 rfl rfl rfl ?_
  exact xW.pick [0, 1, 2, 3] rfl (h9)
end P23

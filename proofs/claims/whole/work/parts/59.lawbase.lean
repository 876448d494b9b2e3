/-! ===== the law: what its cases stand on ===== -/
theorem lTO_len {s : xCS} {sx : xSx} {M : List xE} {f : Nat → Int64} : (cHp s sx (lTO M f)).length = 71 + (M.length + 1) := by
  show (cHp s sx [] ++ (M ++ [_])).length = _
  rw [List.length_append, List.length_append]
  rfl
section P59a
variable {G : xG} {Y : xM} {Qx : xO → List xE → Prop} {pc : Nat} {ls : List (Nat × Value)} {st : List Value} {hp : List xE} {x kc ks : Nat}
variable {Y' : xM} {n idx : Nat} {ar : List Value} {rest : List Value} {r : Nat × Int32} {s s' : xCS} {sx : xSx} {M : List xE} {f : Nat → Int64}
theorem xw_lS (pc' : Nat) {kc0 ks0 : Nat} (hd : decode (xmB Y) pc = .ok (.invokestatic idx, 3)) (hpc : pc + 3 = pc') (hok : xMokH Y' n) (hw : Cond.methodLink (xmN Y).cls idx (xmN Y') ∈ lw_tbl ∧ Cond.static (xmN Y') ∈ lw_tbl) (hM : xMet G Y' ar (cHp s sx (lTO M f)) x 1 6 (xQw M r s' f)) (hn : ar.length = n) (ha : Nat.ble (lg_sl ar).length (xmL Y') = true) (hst : st = ar.reverse ++ rest) (hcat : Nat.ble (rest.map fun v => v.category).sum 8 = true) (hfr : Nat.ble (xmF Y' + 1) (xmF Y) = true) (hlo : Nat.ble (8 + (xmL Y' + 11) + xmW Y') (xmW Y) = true) (hkc : kc = kc0 + 1) (hks : ks = ks0 + 6)
    (kk : ∀ w' sx', xag w' s'.1 → xW G Y Qx pc' ls (.int (nI r.1) :: rest) (cHp (w', s'.2) sx' (lTO M (if r.1 = 0 then vp_updL f 0 r.2.toInt64 else f))) (x + 1) kc0 ks0) : xW G Y Qx pc ls st (cHp s sx (lTO M f)) x kc ks := by
  subst hpc
  refine xw_callSW (x' := x + 1) (kc0 := kc0) (ks0 := ks0) hd hok hw hM (fun E hp' h => by cases h.1) hn ha hst hcat hfr hlo (hkc.trans (Nat.add_comm _ _)) (hks.trans (Nat.add_comm _ _)) (fun o hp' h => ?_) (fun ov hp' h => ?_)
  · obtain ⟨_, w', sx', _, rfl⟩ := h
    rw [lTO_len, lTO_len]
    omega
  · obtain ⟨h1, w', sx', h2, rfl⟩ := h
    cases h1
    exact kk w' sx' h2
end P59a
theorem lg_cmp_self (a : Int64) : lg_cmp a a = 0 := (lg_cmp_eq a a).mpr rfl
/-- the model's things, by its state -/
def mCq (m : xMS) (th : Int32) (c : mS) (T : List xE) : List xE :=
  mC m.1 (nI m.2.2.1) m.2.1 (nI m.2.2.2.1) m.2.2.2.2 th c.1 c.2.1 c.2.2.1 c.2.2.2.1 c.2.2.2.2.1 c.2.2.2.2.2.1 c.2.2.2.2.2.2.1 c.2.2.2.2.2.2.2.1 c.2.2.2.2.2.2.2.2.1 c.2.2.2.2.2.2.2.2.2.1 c.2.2.2.2.2.2.2.2.2.2.1 c.2.2.2.2.2.2.2.2.2.2.2.1 c.2.2.2.2.2.2.2.2.2.2.2.2.1 c.2.2.2.2.2.2.2.2.2.2.2.2.2 T
/-- all that the law has -/
def lHp (s : xCS) (sx : xSx) (m : xMS) (th : Int32) (c : mS) (f : Nat → Int64) : List xE := cHp s sx (lTO (mCq m th c []) f)
theorem lHp_m {s : xCS} {sx : xSx} {m : xMS} {th : Int32} {c : mS} {f : Nat → Int64} : mHq (cHp s sx []) m.1 (nI m.2.2.1) m.2.1 (nI m.2.2.2.1) m.2.2.2.2 th c [.inl (2, 1, .inr (.inl f))] = lHp s sx m th c f := rfl
theorem xRel_w {s : xCS} {m : xMS} {w' : Nat → Int32} (R : xRel s m) (h : xag w' s.1) : xRel (w', s.2) m := by
  obtain ⟨I, A, r⟩ := R
  exact ⟨I, h.trans A, r⟩
def lQ : xO → List xE → Prop := fun o _ => o = .inl (some (.int 1))
section P59
variable {w z : Nat → Int32} {sv : Nat → Nat → Int32} {q n l : Nat} {co hi : Nat → Int32} {p r : Int32}
theorem K_le {a : Int32} {k b : Nat} (h : k ≤ b) : ((k, a) : Nat × Int32).1 ≤ b := h
theorem K_tur : ((oTur (w, sv, q, n, l, co) p).1).1 ≤ 2 := by
  unfold oTur
  repeat' split
  all_goals first | exact Nat.zero_le _ | exact Nat.le_refl _ | (show 1 ≤ 2; decide)
theorem K_loa : ((oLoa (w, sv, q, n, l, co)).1).1 ≤ 2 := by
  unfold oLoa
  repeat' split
  all_goals first | exact Nat.zero_le _ | exact Nat.le_refl _ | (show 1 ≤ 2; decide)
theorem K_rec : ((oRec (w, sv, q, n, l, co) p r).1).1 ≤ 1 := by
  unfold oRec
  repeat' split
  all_goals first | exact Nat.zero_le _ | exact Nat.le_refl _ | (show 1 ≤ 2; decide)
theorem K_set : ((oSet (w, sv, q, n, l, co) p r).1).1 ≤ 2 := by
  unfold oSet
  repeat' split
  all_goals first | exact Nat.zero_le _ | exact Nat.le_refl _ | (show 1 ≤ 2; decide)
theorem K_buy : ((oBuy (w, sv, q, n, l, co) p r).1).1 ≤ 2 := by
  unfold oBuy
  repeat' split
  all_goals first | exact Nat.zero_le _ | exact Nat.le_refl _ | (show 1 ≤ 2; decide)
theorem K_str : ((oStr (w, sv, q, n, l, co) p r).1).1 ≤ 2 := by
  unfold oStr oFre
  repeat' split
  all_goals first | exact Nat.zero_le _ | exact Nat.le_refl _ | (show 1 ≤ 2; decide)
theorem K_nex : ((oNex (w, sv, q, n, l, co) p).1).1 ≤ 2 := by
  unfold oNex oFre
  repeat' split
  all_goals first | exact Nat.zero_le _ | exact Nat.le_refl _ | (show 1 ≤ 2; decide)
theorem K_row : ((oRow (w, sv, q, n, l, co)).1).1 ≤ 2 := by
  unfold oRow oFre
  repeat' split
  all_goals first | exact Nat.zero_le _ | exact Nat.le_refl _ | (show 1 ≤ 2; decide)
theorem K_joi : ((oJoi (w, sv, q, n, l, co)).1).1 ≤ 1 := by
  unfold oJoi
  repeat' split
  all_goals first | exact Nat.zero_le _ | exact Nat.le_refl _ | (show 1 ≤ 2; decide)
theorem K_cru : ((oCru (w, sv, q, n, l, co) p).1).1 ≤ 1 := by
  unfold oCru
  repeat' split
  all_goals first | exact Nat.zero_le _ | exact Nat.le_refl _ | (show 1 ≤ 2; decide)
theorem K_unp : ((oUnp (w, sv, q, n, l, co) p).1).1 ≤ 2 := by
  unfold oUnp
  repeat' split
  all_goals first | exact Nat.zero_le _ | exact Nat.le_refl _ | (show 1 ≤ 2; decide)
theorem K_app : ((oApp (w, sv, q, n, l, co) p).1).1 ≤ 2 := by
  unfold oApp
  repeat' split
  all_goals first | exact Nat.zero_le _ | exact Nat.le_refl _ | (show 1 ≤ 2; decide)
theorem K_und : ((oUnd (w, sv, q, n, l, co)).1).1 ≤ 1 := by
  unfold oUnd
  repeat' split
  all_goals first | exact Nat.zero_le _ | exact Nat.le_refl _ | (show 1 ≤ 2; decide)
theorem K_cell : (rCell z p r).1 ≤ 1 := by
  unfold rCell
  repeat' split
  all_goals first | exact Nat.zero_le _ | exact Nat.le_refl _ | (show 1 ≤ 2; decide)
theorem K_pat : (rPat z p r).1 ≤ 1 := by
  unfold rPat
  repeat' split
  all_goals first | exact Nat.zero_le _ | exact Nat.le_refl _ | (show 1 ≤ 2; decide)
theorem K_bead : (rBead z p r).1 ≤ 2 := by
  unfold rBead
  repeat' split
  all_goals first | exact Nat.zero_le _ | exact Nat.le_refl _ | (show 1 ≤ 2; decide)
theorem K_strn : (rStr z p r).1 ≤ 2 := by
  unfold rStr
  repeat' split
  all_goals first | exact Nat.zero_le _ | exact Nat.le_refl _ | (show 1 ≤ 2; decide)
theorem K_col : (rCol z p r).1 ≤ 1 := by
  unfold rCol
  repeat' split
  all_goals first | exact Nat.zero_le _ | exact Nat.le_refl _ | (show 1 ≤ 2; decide)
theorem K_cnt : (rCnt z (nI n) p).1 ≤ 1 := by
  unfold rCnt
  repeat' split
  all_goals first | exact Nat.zero_le _ | exact Nat.le_refl _ | (show 1 ≤ 2; decide)
theorem K_sett : (rSet z p).1 ≤ 1 := by
  unfold rSet
  repeat' split
  all_goals first | exact Nat.zero_le _ | exact Nat.le_refl _ | (show 1 ≤ 2; decide)
theorem K_nee : (rNee z p r).1 ≤ 1 := by
  unfold rNee
  repeat' split
  all_goals first | exact Nat.zero_le _ | exact Nat.le_refl _ | (show 1 ≤ 2; decide)
theorem K_plan : (rPlan z p r).1 ≤ 1 := by
  unfold rPlan
  repeat' split
  all_goals first | exact Nat.zero_le _ | exact Nat.le_refl _ | (show 1 ≤ 2; decide)
theorem T_cell (A : xag w z) (I : xInv z) : rCell w p r = rCell z p r := by
  have hR := I.iR.2.2
  have hC := I.iC.2.2
  unfold rCell
  rw [A.i (show 4 < 27 by decide), A.i (show 5 < 27 by decide)]
  by_cases g0 : xlt p (zI z 4)
  · rw [if_pos g0, if_pos g0]
    by_cases g1 : xlt r (zI z 5)
    · rw [if_pos g1, if_pos g1]
      obtain ⟨a, a1, rfl⟩ := xlt_y (by omega) g0
      obtain ⟨b, b1, rfl⟩ := xlt_y (by omega) g1
      rw [pN_k (by omega), pN_k (by omega), A.2.1 a b a1 b1]
    · rw [if_neg g1, if_neg g1]
  · rw [if_neg g0, if_neg g0]
theorem T_pat (A : xag w z) (I : xInv z) : rPat w p r = rPat z p r := by
  unfold rPat
  rw [A.pt I]
theorem T_bead (A : xag w z) (I : xInv z) : rBead w p r = rBead z p r := by
  have hM := I.iM.2.2
  unfold rBead
  rw [A.i (show 6 < 27 by decide)]
  by_cases g0 : xlt p (zI z 6)
  · rw [if_pos g0, if_pos g0]
    obtain ⟨a, a1, rfl⟩ := xlt_y (by omega) g0
    rw [pN_k (by omega), A.be I a1]
  · rw [if_neg g0, if_neg g0]
theorem T_strn (A : xag w z) (I : xInv z) : rStr w p r = rStr z p r := by
  have hK := I.iK.2.2
  unfold rStr
  rw [A.i (show 7 < 27 by decide)]
  by_cases g0 : xlt p (zI z 7)
  · rw [if_pos g0, if_pos g0]
    obtain ⟨a, a1, rfl⟩ := xlt_y (by omega) g0
    rw [pN_k (by omega), A.sn I a1]
  · rw [if_neg g0, if_neg g0]
theorem T_col (A : xag w z) (I : xInv z) : rCol w p r = rCol z p r := by
  unfold rCol
  by_cases g0 : xlt p 6
  · rw [if_pos g0, if_pos g0]
    obtain ⟨a, a1, rfl⟩ := xlt_y (by decide) g0
    rw [pN_k (by omega), A.co I a1]
  · rw [if_neg g0, if_neg g0]
theorem T_cnt (A : xag w z) (I : xInv z) : rCnt w (nI n) p = rCnt z (nI n) p := by
  unfold rCnt
  rw [A.nu I]
theorem T_sett (A : xag w z) (I : xInv z) : rSet w p = rSet z p := by
  unfold rSet
  by_cases g0 : xlt p 4
  · rw [if_pos g0, if_pos g0]
    obtain ⟨a, a1, rfl⟩ := xlt_y (by decide) g0
    rw [pN_k (by omega), A.1 a (by omega)]
  · rw [if_neg g0, if_neg g0]
theorem T_nee (A : xag w z) (I : xInv z) : rNee w p r = rNee z p r := by
  unfold rNee
  rw [A.ne I]
theorem T_plan (A : xag w z) (I : xInv z) : rPlan w p r = rPlan z p r := by
  unfold rPlan
  rw [A.pla I]
end P59
/-- a call that only tells, as one that may change -/
theorem xQr_c {G : xG} {Y : xM} {ar : List Value} {x : Nat} {s : xCS} {sx : xSx} {T : List xE} {r : Nat × Int32} {E1 E2 : String} (h : xMet G Y ar (cHp s sx T) x 1 6 (xQr (cHp s sx T) r E1 E2)) : xMet G Y ar (cHp s sx T) x 1 6 (xQc3 T r s E1 E2) :=
  xW.post h (fun o hp' h => ⟨h.1, s.1, sx, xag_refl _, h.2⟩)

/-! ===== the law's numbers and the state of the class ===== -/
def lwN (w : Nat → Int32) (m : Nat) (n : Nat → Int32) : Prop :=
  n 0 = w 4 ∧ n 1 = w 5 ∧ n 2 = w 0 ∧ n 3 = w 1 ∧ n 4 = w 2 ∧ n 5 = w 3 ∧ n 6 = w 6 ∧ n 7 = w 7 ∧ n 8 = w 8 ∧ n 9 = nI m ∧ (∀ c, c < 6 → n (10 + c) = w (9 + c)) ∧ (∀ c, c < 6 → n (16 + c) = w (15 + c)) ∧ (∀ c, c < 6 → n (22 + c) = w (21 + c))
def lwC (w ch : Nat → Int32) : Prop := ∀ r c, r < zI w 4 → c < zI w 5 → bcol ch (r * 12 + c) = w (27 + (r * 12 + c))
def lwB (w be : Nat → Int32) : Prop := ∀ k, k < zI w 6 → bcol be k = w (147 + k)
def lwS (w st : Nat → Int32) : Prop := ∀ k, k < zI w 7 → st k = w (387 + k)
/-- all beads bought are in the stock, strung or crushed -/
def lwU (w : Nat → Int32) : Prop := ∀ c, c < 6 → w (15 + c) = w (9 + c) + nI (xocc (fun k => w (147 + k)) (nI c) (zI w 6)) + w (21 + c)
section P42a
variable {w n ch be st : Nat → Int32} {m : Nat}
theorem lwN.v0 (I : xInv w) (N : lwN w m n) : n 0 = nI (zI w 4) := N.1.trans I.iR.1
theorem lwN.v1 (I : xInv w) (N : lwN w m n) : n 1 = nI (zI w 5) := N.2.1.trans I.iC.1
theorem lwN.v2 (I : xInv w) (N : lwN w m n) : n 2 = nI (zI w 0) := N.2.2.1.trans I.iA.1
theorem lwN.v3 (I : xInv w) (N : lwN w m n) : n 3 = nI (zI w 1) := N.2.2.2.1.trans I.iS.1
theorem lwN.v4 (I : xInv w) (N : lwN w m n) : n 4 = nI (zI w 2) := N.2.2.2.2.1.trans I.iH.1
theorem lwN.v5 (N : lwN w m n) : n 5 = w 3 := N.2.2.2.2.2.1
theorem lwN.v6 (I : xInv w) (N : lwN w m n) : n 6 = nI (zI w 6) := N.2.2.2.2.2.2.1.trans I.iM.1
theorem lwN.v7 (I : xInv w) (N : lwN w m n) : n 7 = nI (zI w 7) := N.2.2.2.2.2.2.2.1.trans I.iK.1
theorem lwN.v8 (N : lwN w m n) : n 8 = w 8 := N.2.2.2.2.2.2.2.2.1
theorem lwN.v9 (N : lwN w m n) : n 9 = nI m := N.2.2.2.2.2.2.2.2.2.1
theorem lwN.a (N : lwN w m n) {c : Nat} (h : c < 6) : n (10 + c) = w (9 + c) := N.2.2.2.2.2.2.2.2.2.2.1 c h
theorem lwN.b (N : lwN w m n) {c : Nat} (h : c < 6) : n (16 + c) = w (15 + c) := N.2.2.2.2.2.2.2.2.2.2.2.1 c h
theorem lwN.c (N : lwN w m n) {c : Nat} (h : c < 6) : n (22 + c) = w (21 + c) := N.2.2.2.2.2.2.2.2.2.2.2.2 c h
theorem lwC.p (I : xInv w) (C : lwC w ch) (b : Nat) : bcol ch (xpl (zI w 0) (zI w 1) (zI w 4) (zI w 5) b) = pcol w b :=
  C _ _ (Nat.mod_lt _ (show 0 < zI w 4 from I.iR.2.1)) (Nat.mod_lt _ (show 0 < zI w 5 from I.iC.2.1))
theorem lwB.o (B : lwB w be) (c : Int32) : ∀ {i : Nat}, i ≤ zI w 6 → xocc (bcol be) c i = xocc (fun k => w (147 + k)) c i := by
  intro i hi
  exact xocc_congr (fun k hk => B k (by omega))
theorem lw_wr (I : xInv w) (C : lwC w ch) (B : lwB w be) {b e : Nat} (he : e ≤ zI w 6) : xctr (fun k => decide (bcol be k ≠ bcol ch (xpl (zI w 0) (zI w 1) (zI w 4) (zI w 5) k))) b e = xctr (zwr w) b e := by
  refine xctr_congr (fun k h1 h2 => ?_)
  rw [lwC.p I C, B k (by omega)]
  rfl
theorem rCol_k {c k : Nat} (hc : c < 6) (hk : k < 6) : rCol w (nI c) (nI k) = (0, zcolour w c k) := by
  unfold rCol
  rw [if_pos (xlt_k (by decide) hc), if_pos (xlt_k (by decide) hk), pN_k (by omega), pN_k (by omega)]
theorem rStr_k (I : xInv w) {s k : Nat} (hs : s < zI w 7) (hk : k < 4) : rStr w (nI s) (nI k) = (0, zstrand w s k) := by
  have := I.iK.2.2
  unfold rStr
  rw [if_pos (xlt_k (by omega) hs), if_pos (xlt_k (by decide) hk), pN_k (by omega), pN_k (by omega)]
theorem rBead_k (I : xInv w) {s k : Nat} (hs : s < zI w 6) (hk : k < 4) : rBead w (nI s) (nI k) = (0, zbead w s k) := by
  have := I.iM.2.2
  unfold rBead
  rw [if_pos (xlt_k (by omega) hs), if_pos (xlt_k (by decide) hk), pN_k (by omega), pN_k (by omega)]
theorem rPat_k {s k : Nat} (hs : s < 240) (hk : k < 4) : rPat w (nI s) (nI k) = (0, zpat w s k) := by
  unfold rPat
  rw [if_pos (xlt_k (by decide) hs), if_pos (xlt_k (by decide) hk), pN_k (by omega), pN_k (by omega)]
theorem rCnt_k {many : Int32} {k : Nat} (hk : k < 13) : rCnt w many (nI k) = (0, znum w many k) := by
  unfold rCnt
  rw [if_pos (xlt_k (by decide) hk), pN_k (by omega)]
/-- cells counted along the rows -/
theorem xct_rows {p : Nat → Nat → Bool} {C : Nat} (hC : C ≤ 12) : ∀ R, xct (fun k => decide (k % 12 < C) && p (k / 12) (k % 12)) (12 * R) = xct2 p C R
  | 0 => rfl
  | R + 1 => by
    rw [show 12 * (R + 1) = 12 * R + 12 by omega, xct_add, xct_rows hC R, xct_congr (q := fun k => decide (k < C) && p R k) (n := 12) (fun k hk => by
      rw [show (12 * R + k) / 12 = R by omega, show (12 * R + k) % 12 = k by omega]), xct_row hC]
    rfl
theorem lwC.cells (I : xInv w) (C : lwC w ch) (c : Int32) : xct (fun k => decide (k % 12 < zI w 5) && decide (bcol ch k = c)) (12 * zI w 4) = xct2 (fun r d => decide (w (27 + (r * 12 + d)) = c)) (zI w 5) (zI w 4) := by
  rw [← xct_rows I.iC.2.2]
  refine xct_congr (fun k hk => ?_)
  by_cases h : k % 12 < zI w 5
  · have e := C (k / 12) (k % 12) (by omega) h
    rw [show k / 12 * 12 + k % 12 = k by omega] at e
    rw [show k / 12 * 12 + k % 12 = k by omega, e]
  · rw [decide_eq_false h]
    rfl
theorem i_abc (a b c : Int32) : a - b + c = a - (b - c) := by
  apply Int32.toBitVec_inj.mp
  show a.toBitVec - b.toBitVec + c.toBitVec = a.toBitVec - (b.toBitVec - c.toBitVec)
  bv_omega
end P42a
section P42
variable {G : xG} {x : Nat} {w n ch be st : Nat → Int32} {sv : Nat → Nat → Int32} {qo ql : Int32} {m : Nat} {co : Nat → Int32} {sx : xSx} {J : List xE} {qm : Int32}
theorem lT_o : (bHp w sv qo qm ql co sx (lT n ch be st J))[0]? = some (.inr (4, [.ref 1, .ref 10, .ref 66, .ref 68, .ref 70])) := rfl
theorem lT_n : (bHp w sv qo qm ql co sx (lT n ch be st J))[71]? = some (.inl (0, 28, .inl n)) := rfl
theorem lT_c : (bHp w sv qo qm ql co sx (lT n ch be st J))[72]? = some (.inl (0, 12, .inl ch)) := rfl
theorem lT_b : (bHp w sv qo qm ql co sx (lT n ch be st J))[73]? = some (.inl (0, 24, .inl be)) := rfl
theorem lT_s : (bHp w sv qo qm ql co sx (lT n ch be st J))[74]? = some (.inl (0, 50, .inl st)) := rfl
theorem lT_sn {n' : Nat → Int32} : (bHp w sv qo qm ql co sx (lT n ch be st J)).set 71 (.inl (0, 28, .inl n')) = bHp w sv qo qm ql co sx (lT n' ch be st J) := rfl
theorem lT_sc {n' : Nat → Int32} : (bHp w sv qo qm ql co sx (lT n ch be st J)).set 72 (.inl (0, 12, .inl n')) = bHp w sv qo qm ql co sx (lT n n' be st J) := rfl
theorem lT_sb {n' : Nat → Int32} : (bHp w sv qo qm ql co sx (lT n ch be st J)).set 73 (.inl (0, 24, .inl n')) = bHp w sv qo qm ql co sx (lT n ch n' st J) := rfl
theorem lT_ss {n' : Nat → Int32} : (bHp w sv qo qm ql co sx (lT n ch be st J)).set 74 (.inl (0, 50, .inl n')) = bHp w sv qo qm ql co sx (lT n ch be n' J) := rfl
end P42

/-! ===== the law's state beside the class's ===== -/
def lwA (w ch be st : Nat → Int32) : Prop := xInv w ∧ lwC w ch ∧ lwB w be ∧ lwS w st ∧ lwU w
def LR (s : xCS) (n ch be st : Nat → Int32) : Prop := s.2.2.1 < 6 ∧ s.2.2.2.1 ≤ 6 ∧ s.2.2.2.2.1 = 0 ∧ lwN s.1 s.2.2.2.1 n ∧ lwA s.1 ch be st
/-- the act is done -/
def lwQ : xO → List xE → Prop := fun o hp' => o = .inl (some (.int (nI 1))) ∧ ∃ (s : xCS) (sx : xSx) (n ch be st : Nat → Int32) (J : List xE), LR s n ch be st ∧ hp' = cHp s sx (lT n ch be st J)
section P44
variable {w z z' n n' ch ch' be be' st st' : Nat → Int32} {m : Nat}
theorem lwU.of (h6 : z 6 = w 6) (h9 : ∀ k, 9 ≤ k → k < 27 → z k = w k) (hb : ∀ k, 147 ≤ k → z k = w k) (U : lwU w) : lwU z := by
  intro c hc
  have e6 : zI z 6 = zI w 6 := by unfold zI; rw [h6]
  rw [h9 (15 + c) (by omega) (by omega), h9 (9 + c) (by omega) (by omega), h9 (21 + c) (by omega) (by omega), e6, U c hc, xocc_congr (f := fun k => z (147 + k)) (g := fun k => w (147 + k)) (fun k hk => hb (147 + k) (by omega))]
theorem lwA.ag (A : xag z w) (L : lwA w ch be st) : lwA z ch be st := by
  obtain ⟨I, C, B, S, U⟩ := L
  have e4 : zI z 4 = zI w 4 := A.i (by decide)
  have e5 : zI z 5 = zI w 5 := A.i (by decide)
  have e6 : zI z 6 = zI w 6 := A.i (by decide)
  have e7 : zI z 7 = zI w 7 := A.i (by decide)
  refine ⟨A.inv I, fun r c hr hc => ?_, fun k hk => ?_, fun k hk => ?_, fun c hc => ?_⟩
  · rw [e4] at hr
    rw [e5] at hc
    rw [C r c hr hc, A.2.1 r c hr hc]
  · rw [e6] at hk
    rw [B k hk, A.2.2.1 k hk]
  · rw [e7] at hk
    rw [S k hk, A.2.2.2 k hk]
  · rw [A.1 (15 + c) (by omega), A.1 (9 + c) (by omega), A.1 (21 + c) (by omega), e6, U c hc, xocc_congr (f := fun k => z (147 + k)) (g := fun k => w (147 + k)) (fun k hk => A.2.2.1 k hk)]
theorem lwN.ag (A : xag z w) (N : lwN w m n) : lwN z m n := by
  obtain ⟨h0, h1, h2, h3, h4, h5, h6, h7, h8, h9, ha, hb, hc⟩ := N
  refine ⟨?_, ?_, ?_, ?_, ?_, ?_, ?_, ?_, ?_, h9, fun c h => ?_, fun c h => ?_, fun c h => ?_⟩
  · rw [h0, A.1 4 (by decide)]
  · rw [h1, A.1 5 (by decide)]
  · rw [h2, A.1 0 (by decide)]
  · rw [h3, A.1 1 (by decide)]
  · rw [h4, A.1 2 (by decide)]
  · rw [h5, A.1 3 (by decide)]
  · rw [h6, A.1 6 (by decide)]
  · rw [h7, A.1 7 (by decide)]
  · rw [h8, A.1 8 (by decide)]
  · rw [ha c h, A.1 (9 + c) (by omega)]
  · rw [hb c h, A.1 (15 + c) (by omega)]
  · rw [hc c h, A.1 (21 + c) (by omega)]
theorem zrO_lt {q m : Nat} (hq : q < 6) : zrO q m < 6 := by
  unfold zrO
  split <;> omega
theorem zrM_le {m : Nat} : zrM m ≤ 6 := by
  unfold zrM
  split <;> omega
theorem lwQ_sav {w9 : Nat → Int32} {sv : Nat → Nat → Int32} {q ln : Nat} {co : Nat → Int32} {sx9 : xSx} {J : List xE} (hq : q < 6) (N' : lwN z (zrM m) n) (L' : lwA z ch be st) (A : xag w9 z) : lwQ (.inl (some (.int (nI 1)))) (cHp (w9, (cSav (w, sv, q, m, ln, co) z 0).2) sx9 (lT n ch be st J)) :=
  ⟨rfl, _, sx9, n, ch, be, st, J, ⟨zrO_lt hq, zrM_le, rfl, N'.ag A, L'.ag A⟩, rfl⟩
theorem lsave_ne {k : Nat} (h : k ≠ 9) : lsave n m k = n k := upd_ne h
theorem lsave_9 : lsave n m 9 = nI (zrM m) := upd_at
theorem lwN.sv (N : lwN w m n) : lwN w (zrM m) (lsave n m) := by
  obtain ⟨h0, h1, h2, h3, h4, h5, h6, h7, h8, h9, ha, hb, hc⟩ := N
  exact ⟨h0, h1, h2, h3, h4, h5, h6, h7, h8, lsave_9, fun c h => (lsave_ne (by omega)).trans (ha c h), fun c h => (lsave_ne (by omega)).trans (hb c h), fun c h => (lsave_ne (by omega)).trans (hc c h)⟩
/-- one of the law's numbers and the class's changed alike -/
theorem lwN.hist {m' : Nat} (N : lwN w m n) : lwN w m' (upd n 9 (nI m')) := by
  obtain ⟨h0, h1, h2, h3, h4, h5, h6, h7, h8, h9, ha, hb, hc⟩ := N
  exact ⟨h0, h1, h2, h3, h4, h5, h6, h7, h8, upd_at, fun c h => (upd_ne (by omega)).trans (ha c h), fun c h => (upd_ne (by omega)).trans (hb c h), fun c h => (upd_ne (by omega)).trans (hc c h)⟩
theorem lwN.set {k : Nat} {v : Int32} (N : lwN w m n) (hk : k < 4) : lwN (upd w k v) m (upd n (2 + k) v) := by
  obtain ⟨h0, h1, h2, h3, h4, h5, h6, h7, h8, h9, ha, hb, hc⟩ := N
  have e : ∀ i j, (i = 2 + k ↔ j = k) → n i = w j → upd n (2 + k) v i = upd w k v j := by
    intro i j h e
    by_cases g : j = k
    · rw [h.mpr g, g, upd_at, upd_at]
    · rw [upd_ne g, upd_ne (fun q => g (h.mp q)), e]
  refine ⟨e 0 4 (by omega) h0, e 1 5 (by omega) h1, e 2 0 (by omega) h2, e 3 1 (by omega) h3, e 4 2 (by omega) h4, e 5 3 (by omega) h5, e 6 6 (by omega) h6, e 7 7 (by omega) h7, e 8 8 (by omega) h8, ?_, fun c h => e _ _ (by omega) (ha c h), fun c h => e _ _ (by omega) (hb c h), fun c h => e _ _ (by omega) (hc c h)⟩
  rw [upd_ne (by omega), h9]
theorem lwN.k (N : lwN w m n) {k : Nat} (hk : k < 4) : n (2 + k) = w k := by
  obtain ⟨h0, h1, h2, h3, h4, h5, h6, h7, h8, h9, ha, hb, hc⟩ := N
  rcases (show k = 0 ∨ k = 1 ∨ k = 2 ∨ k = 3 by omega) with rfl | rfl | rfl | rfl
  · exact h2
  · exact h3
  · exact h4
  · exact h5
theorem lwA.lo (L : lwA w ch be st) (I' : xInv z) (h4 : ∀ k, 4 ≤ k → k < 8 → z k = w k) (hb : ∀ k, 27 ≤ k → z k = w k) (U' : lwU z) : lwA z ch be st := by
  obtain ⟨I, C, B, S, U⟩ := L
  have e4 : zI z 4 = zI w 4 := by unfold zI; rw [h4 4 (by decide) (by decide)]
  have e5 : zI z 5 = zI w 5 := by unfold zI; rw [h4 5 (by decide) (by decide)]
  have e6 : zI z 6 = zI w 6 := by unfold zI; rw [h4 6 (by decide) (by decide)]
  have e7 : zI z 7 = zI w 7 := by unfold zI; rw [h4 7 (by decide) (by decide)]
  refine ⟨I', fun r c hr hc => ?_, fun k hk => ?_, fun k hk => ?_, U'⟩
  · rw [e4] at hr
    rw [e5] at hc
    rw [C r c hr hc, hb _ (by omega)]
  · rw [e6] at hk
    rw [B k hk, hb _ (by omega)]
  · rw [e7] at hk
    rw [S k hk, hb _ (by omega)]
theorem lwA.set {k v : Nat} (L : lwA w ch be st) (hk : k < 4) (h1 : zlo k ≤ v) (h2 : v ≤ zhi k) : lwA (upd w k (nI v)) ch be st :=
  L.lo (zset_inv L.1 hk h1 h2) (fun j h3 h4 => upd_ne (by omega)) (fun j h3 => upd_ne (by omega)) (L.2.2.2.2.of (upd_ne (by omega)) (fun j h3 h4 => upd_ne (by omega)) (fun j h3 => upd_ne (by omega)))
theorem zbuy_ne {c k : Nat} {v : Int32} (h1 : k ≠ 15 + c) (h2 : k ≠ 9 + c) : zbuy w c v k = w k := by
  unfold zbuy
  rw [upd_ne h2, upd_ne h1]
theorem zbuy_b {c : Nat} {v : Int32} : zbuy w c v (15 + c) = w (15 + c) + v := by
  unfold zbuy
  rw [upd_ne (by omega), upd_at]
theorem zbuy_a {c : Nat} {v : Int32} : zbuy w c v (9 + c) = w (9 + c) + v := by
  unfold zbuy
  rw [upd_at, upd_ne (by omega)]
theorem i_abvc (a b c v : Int32) : a + b + c + v = a + v + b + c := by
  apply Int32.toBitVec_inj.mp
  show a.toBitVec + b.toBitVec + c.toBitVec + v.toBitVec = a.toBitVec + v.toBitVec + b.toBitVec + c.toBitVec
  bv_omega
theorem lwA.buy {c : Nat} {v : Int32} (L : lwA w ch be st) (hc : c < 6) : lwA (zbuy w c v) ch be st := by
  refine L.lo (zbuy_inv L.1 hc) (fun j h3 h4 => zbuy_ne (by omega) (by omega)) (fun j h3 => zbuy_ne (by omega) (by omega)) ?_
  intro d hd
  have U := L.2.2.2.2 d hd
  have e6 : zI (zbuy w c v) 6 = zI w 6 := by unfold zI; rw [zbuy_ne (by omega) (by omega)]
  rw [e6, zbuy_ne (k := 21 + d) (by omega) (by omega), xocc_congr (f := fun k => zbuy w c v (147 + k)) (g := fun k => w (147 + k)) (fun k hk => zbuy_ne (by omega) (by omega))]
  by_cases g : d = c
  · subst g
    rw [zbuy_a, zbuy_b, U]
    exact i_abvc _ _ _ _
  · rw [zbuy_ne (k := 15 + d) (by omega) (by omega), zbuy_ne (k := 9 + d) (by omega) (by omega), U]
theorem lwN.buy {c : Nat} {v : Int32} (N : lwN w m n) (hc : c < 6) : lwN (zbuy w c v) m (upd (upd n (10 + c) (n (10 + c) + v)) (16 + c) (upd n (10 + c) (n (10 + c) + v) (16 + c) + v)) := by
  have N' := N
  obtain ⟨h0, h1, h2, h3, h4, h5, h6, h7, h8, h9, ha, hb, hc'⟩ := N
  have o : ∀ i j, i ≠ 10 + c → i ≠ 16 + c → j ≠ 15 + c → j ≠ 9 + c → n i = w j → upd (upd n (10 + c) (n (10 + c) + v)) (16 + c) (upd n (10 + c) (n (10 + c) + v) (16 + c) + v) i = zbuy w c v j := by
    intro i j g1 g2 g3 g4 e
    rw [upd_ne g2, upd_ne g1, zbuy_ne g3 g4, e]
  refine ⟨o 0 4 (by omega) (by omega) (by omega) (by omega) h0, o 1 5 (by omega) (by omega) (by omega) (by omega) h1, o 2 0 (by omega) (by omega) (by omega) (by omega) h2, o 3 1 (by omega) (by omega) (by omega) (by omega) h3, o 4 2 (by omega) (by omega) (by omega) (by omega) h4, o 5 3 (by omega) (by omega) (by omega) (by omega) h5, o 6 6 (by omega) (by omega) (by omega) (by omega) h6, o 7 7 (by omega) (by omega) (by omega) (by omega) h7, o 8 8 (by omega) (by omega) (by omega) (by omega) h8, ?_, fun d hd => ?_, fun d hd => ?_, fun d hd => o _ _ (by omega) (by omega) (by omega) (by omega) (hc' d hd)⟩
  · rw [upd_ne (by omega), upd_ne (by omega), h9]
  · by_cases g : d = c
    · subst g
      rw [upd_ne (by omega), upd_at, zbuy_a, ha d hd]
    · exact o _ _ (by omega) (by omega) (by omega) (by omega) (ha d hd)
  · by_cases g : d = c
    · subst g
      rw [upd_at, upd_ne (by omega), zbuy_b, hb d hd]
    · exact o _ _ (by omega) (by omega) (by omega) (by omega) (hb d hd)
/-- the cells alone changed -/
theorem lwA.cells {R C : Nat} (L : lwA w ch be st) (I' : xInv z) (h6 : z 6 = w 6) (h7 : z 7 = w 7) (h9 : ∀ k, 9 ≤ k → k < 27 → z k = w k) (hb : ∀ k, 147 ≤ k → z k = w k) (h4 : zI z 4 = R) (h5 : zI z 5 = C) (hc : ∀ r c, r < R → c < C → bcol ch' (r * 12 + c) = z (27 + (r * 12 + c))) : lwA z ch' be st := by
  obtain ⟨I, C0, B, S, U⟩ := L
  have e6 : zI z 6 = zI w 6 := by unfold zI; rw [h6]
  have e7 : zI z 7 = zI w 7 := by unfold zI; rw [h7]
  refine ⟨I', fun r c hr hc2 => hc r c (by omega) (by omega), fun k hk => ?_, fun k hk => ?_, U.of h6 h9 hb⟩
  · rw [e6] at hk
    rw [B k hk, hb _ (by omega)]
  · rw [e7] at hk
    rw [S k hk, hb _ (by omega)]
theorem lwA.rec {a b : Nat} (L : lwA w ch be st) (ha : a < 6) (hb : b < 6) (h : ∀ j, j < 12 * zI w 4 → j % 12 < zI w 5 → bcol ch' j = if a = b then bcol ch j else xsw (nI a) (nI b) (bcol ch j)) : lwA (zrec w a b) ch' be st := by
  have I := L.1
  have hC2 := I.iC.2.2
  have e4 : zI (zrec w a b) 4 = zI w 4 := by unfold zI; rw [zrec_o (by omega)]
  have e5 : zI (zrec w a b) 5 = zI w 5 := by unfold zI; rw [zrec_o (by omega)]
  refine L.cells (zrec_inv I ha hb) (zrec_o (by omega)) (zrec_o (by omega)) (fun k h1 h2 => zrec_o (by omega)) (fun k h1 => zrec_o (by omega)) e4 e5 (fun r c hr hc => ?_)
  rw [h (r * 12 + c) (by omega) (by omega)]
  by_cases g : a = b
  · rw [if_pos g, L.2.1 r c hr hc]
    unfold zrec
    rw [if_pos g]
  · rw [if_neg g, L.2.1 r c hr hc, zrec_c I g hr hc]
theorem lwN.rec {a b : Nat} (N : lwN w m n) : lwN (zrec w a b) m n := by
  obtain ⟨h0, h1, h2, h3, h4, h5, h6, h7, h8, h9, ha, hb, hc⟩ := N
  have e : ∀ k, k < 27 → zrec w a b k = w k := fun k h => zrec_o (by omega)
  exact ⟨h0.trans (e 4 (by omega)).symm, h1.trans (e 5 (by omega)).symm, h2.trans (e 0 (by omega)).symm, h3.trans (e 1 (by omega)).symm, h4.trans (e 2 (by omega)).symm, h5.trans (e 3 (by omega)).symm, h6.trans (e 6 (by omega)).symm, h7.trans (e 7 (by omega)).symm, h8.trans (e 8 (by omega)).symm, h9, fun c h => (ha c h).trans (e _ (by omega)).symm, fun c h => (hb c h).trans (e _ (by omega)).symm, fun c h => (hc c h).trans (e _ (by omega)).symm⟩
theorem lwA.laid {R C : Nat} {tc : Nat → Nat → Int32} (L : lwA w ch be st) (h1 : 1 ≤ R) (h2 : R ≤ 10) (h3 : 1 ≤ C) (h4 : C ≤ 12) (h : ∀ r c, r < R → c < C → ∃ j, j ≤ 5 ∧ tc r c = nI j) (hb : ∀ r c, r < R → c < C → bcol ch' (r * 12 + c) = tc r c) : lwA (zlaid w R C tc) ch' be st := by
  refine L.cells (R := R) (C := C) (zlaid_inv L.1 h1 h2 h3 h4 h) (zlaid_o (by omega) (by omega) (by omega)) (zlaid_o (by omega) (by omega) (by omega)) (fun k g1 g2 => zlaid_o (by omega) (by omega) (by omega)) (fun k g1 => zlaid_o (by omega) (by omega) (by omega)) (zI_k zlaid_4 (by omega)) (zI_k zlaid_5 (by omega)) (fun r c hr hc => ?_)
  rw [zlaid_c hr hc h2 h4, hb r c hr hc]
theorem lwN.laid {R C : Nat} {tc : Nat → Nat → Int32} (N : lwN w m n) (h0' : n' 0 = nI R) (h1' : n' 1 = nI C) (ho : ∀ k, 2 ≤ k → n' k = n k) : lwN (zlaid w R C tc) m n' := by
  obtain ⟨h0, h1, h2, h3, h4, h5, h6, h7, h8, h9, ha, hb, hc⟩ := N
  have e : ∀ k, k < 27 → k ≠ 4 → k ≠ 5 → zlaid w R C tc k = w k := fun k g1 g2 g3 => zlaid_o g2 g3 (by omega)
  have o : ∀ i j, 2 ≤ i → j < 27 → j ≠ 4 → j ≠ 5 → n i = w j → n' i = zlaid w R C tc j := fun i j g0 g1 g2 g3 g4 => by rw [ho i g0, g4, e j g1 g2 g3]
  exact ⟨h0'.trans zlaid_4.symm, h1'.trans zlaid_5.symm, o 2 0 (by omega) (by omega) (by omega) (by omega) h2, o 3 1 (by omega) (by omega) (by omega) (by omega) h3, o 4 2 (by omega) (by omega) (by omega) (by omega) h4, o 5 3 (by omega) (by omega) (by omega) (by omega) h5, o 6 6 (by omega) (by omega) (by omega) (by omega) h6, o 7 7 (by omega) (by omega) (by omega) (by omega) h7, o 8 8 (by omega) (by omega) (by omega) (by omega) h8, (ho 9 (by omega)).trans h9, fun c h => o _ _ (by omega) (by omega) (by omega) (by omega) (ha c h), fun c h => o _ _ (by omega) (by omega) (by omega) (by omega) (hb c h), fun c h => o _ _ (by omega) (by omega) (by omega) (by omega) (hc c h)⟩
end P44

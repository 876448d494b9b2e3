/-! ===== the law's state: beads strung, joined, unpicked, crushed ===== -/
theorem i_m1 (a b : Int32) : a - b + (-1) = a - (b + nI 1) := by
  apply Int32.toBitVec_inj.mp
  show a.toBitVec - b.toBitVec + BitVec.ofInt 32 (-1) = a.toBitVec - (b.toBitVec + BitVec.ofNat 32 1)
  bv_omega
theorem i_s1 (a b : Int32) : a - b - nI 1 = a - (b + nI 1) := by
  apply Int32.toBitVec_inj.mp
  show a.toBitVec - b.toBitVec - BitVec.ofNat 32 1 = a.toBitVec - (b.toBitVec + BitVec.ofNat 32 1)
  bv_omega
theorem i_mv (a b c d : Int32) : a + b + d = a - c + (b + c) + d := by
  apply Int32.toBitVec_inj.mp
  show a.toBitVec + b.toBitVec + d.toBitVec = a.toBitVec - c.toBitVec + (b.toBitVec + c.toBitVec) + d.toBitVec
  bv_omega
theorem i_mv2 (a b c d : Int32) : a + (b + c) + d = a + c + b + d := by
  apply Int32.toBitVec_inj.mp
  show a.toBitVec + (b.toBitVec + c.toBitVec) + d.toBitVec = a.toBitVec + c.toBitVec + b.toBitVec + d.toBitVec
  bv_omega
theorem i_mv3 (a b c d : Int32) : a + (b + c) + d = a + b + (d + c) := by
  apply Int32.toBitVec_inj.mp
  show a.toBitVec + (b.toBitVec + c.toBitVec) + d.toBitVec = a.toBitVec + b.toBitVec + (d.toBitVec + c.toBitVec)
  bv_omega
section P48
variable {w z n n' ch be be' st st' : Nat → Int32} {m m' mm : Nat} {fc : Nat → Nat}
theorem lwN.of (N : lwN w m n) (ho : ∀ k, k < 6 → n' k = n k) (hz : ∀ k, k < 6 → z k = w k) (h6 : n' 6 = z 6) (h7 : n' 7 = z 7) (h8 : n' 8 = z 8) (h9 : n' 9 = nI m') (ha : ∀ c, c < 6 → n' (10 + c) = z (9 + c)) (hb : ∀ c, c < 6 → n' (16 + c) = z (15 + c)) (hc : ∀ c, c < 6 → n' (22 + c) = z (21 + c)) : lwN z m' n' := by
  obtain ⟨h0, h1, h2, h3, h4, h5, -⟩ := N
  exact ⟨(ho 0 (by decide)).trans (h0.trans (hz 4 (by decide)).symm), (ho 1 (by decide)).trans (h1.trans (hz 5 (by decide)).symm), (ho 2 (by decide)).trans (h2.trans (hz 0 (by decide)).symm), (ho 3 (by decide)).trans (h3.trans (hz 1 (by decide)).symm), (ho 4 (by decide)).trans (h4.trans (hz 2 (by decide)).symm), (ho 5 (by decide)).trans (h5.trans (hz 3 (by decide)).symm), h6, h7, h8, h9, ha, hb, hc⟩
theorem zon_c {c : Nat} (hc : c < 6) : ∀ {i : Nat}, (∀ j, j < i → fc j < 6) → zon w fc i (9 + c) = w (9 + c) - nI (zocc fc i c)
  | 0, _ => (Int32.sub_zero _).symm
  | i + 1, hf => by
    have ih := zon_c hc (i := i) (fun j hj => hf j (by omega))
    have h6 := hf i (by omega)
    unfold zon
    rw [zocc_s]
    by_cases e : fc i = c
    · rw [if_pos e, e, upd_at, ih, ← nI_add]
      exact i_m1 _ _
    · rw [if_neg e, upd_ne (by omega)]
      rw [upd_ne (by omega), ih, Nat.add_zero]
theorem xocc_take (hf : ∀ j, j < mm → fc j < 6) {c : Nat} (hc : c < 6) : ∀ i, i ≤ mm → xocc (fun k => ztake w fc mm (147 + k)) (nI c) (zI w 6 + i) = xocc (fun k => w (147 + k)) (nI c) (zI w 6) + zocc fc i c
  | 0, _ => by
    rw [Nat.add_zero, xocc_congr (f := fun k => ztake w fc mm (147 + k)) (g := fun k => w (147 + k)) (fun k hk => ztake_o hf (by omega))]
    rfl
  | i + 1, hi => by
    have ih := xocc_take hf hc i (by omega)
    have e : ztake w fc mm (147 + (zI w 6 + i)) = nI (fc i) := by
      unfold ztake
      rw [upd_ne (by omega), zon_b hf (by omega)]
    have h6 := hf i (by omega)
    rw [← Nat.add_assoc, zocc_s]
    show xocc _ _ (zI w 6 + i) + (if ztake w fc mm (147 + (zI w 6 + i)) = nI c then 1 else 0) = _
    rw [ih, e]
    by_cases g : fc i = c
    · rw [if_pos g, if_pos (congrArg nI g), Nat.add_assoc]
    · rw [if_neg g, if_neg (fun q => g ((nI_eq (by omega) (by omega)).mp q)), Nat.add_assoc]
theorem lwA.take (L : lwA w ch be st) (hM : zI w 6 + mm ≤ 240) (hf : ∀ j, j < mm → fc j < 6) (hb0 : ∀ j, j < zI w 6 → bcol be' j = bcol be j) (hb1 : ∀ j, j < mm → bcol be' (zI w 6 + j) = nI (fc j)) : lwA (ztake w fc mm) ch be' st := by
  obtain ⟨I, C, B, S, U⟩ := L
  have hR2 := I.iR.2.2
  have hC2 := I.iC.2.2
  have hK2 := I.iK.2.2
  have e4 : zI (ztake w fc mm) 4 = zI w 4 := by unfold zI; rw [ztake_o hf (by omega)]
  have e5 : zI (ztake w fc mm) 5 = zI w 5 := by unfold zI; rw [ztake_o hf (by omega)]
  have e7 : zI (ztake w fc mm) 7 = zI w 7 := by unfold zI; rw [ztake_o hf (by omega)]
  have e6 : zI (ztake w fc mm) 6 = zI w 6 + mm := zI_k ztake_6 (by omega)
  refine ⟨ztake_inv I hM hf, fun r c hr hc => ?_, fun k hk => ?_, fun k hk => ?_, fun c hc => ?_⟩
  · rw [e4] at hr
    rw [e5] at hc
    rw [C r c hr hc, ztake_o hf (by omega)]
  · rw [e6] at hk
    by_cases g : k < zI w 6
    · rw [hb0 k g, B k g, ztake_o hf (by omega)]
    · have h9 := hb1 (k - zI w 6) (by omega)
      have h8 := zon_b (w := w) hf (show k - zI w 6 < mm by omega)
      rw [show zI w 6 + (k - zI w 6) = k by omega] at h9 h8
      rw [h9, ← h8]
      unfold ztake
      rw [upd_ne (by omega)]
  · rw [e7] at hk
    rw [S k hk, ztake_o hf (by omega)]
  · rw [e6, xocc_take hf hc mm (Nat.le_refl _), ztake_o (k := 15 + c) hf (by omega), ztake_o (k := 21 + c) hf (by omega), U c hc, ← nI_add]
    have e9 : ztake w fc mm (9 + c) = w (9 + c) - nI (zocc fc mm c) := by
      unfold ztake
      rw [upd_ne (by omega), zon_c hc hf]
    rw [e9]
    exact i_mv _ _ _ _
theorem lwN.take (N : lwN w m n) (hf : ∀ j, j < mm → fc j < 6) (h6 : n' 6 = nI (zI w 6 + mm)) (h9 : n' 9 = nI m') (ho : ∀ k, k ≠ 6 → k ≠ 9 → (k < 10 ∨ 16 ≤ k) → n' k = n k) (ha : ∀ d, d < 6 → n' (10 + d) = w (9 + d) - nI (zocc fc mm d)) : lwN (ztake w fc mm) m' n' := by
  refine N.of (fun k hk => ho k (by omega) (by omega) (by omega)) (fun k hk => ztake_o hf (by omega)) (h6.trans ztake_6.symm) ?_ ?_ h9 (fun c hc => ?_) (fun c hc => ?_) (fun c hc => ?_)
  · rw [ho 7 (by decide) (by decide) (by decide), ztake_o hf (by omega)]
    exact N.2.2.2.2.2.2.2.1
  · rw [ho 8 (by decide) (by decide) (by decide), ztake_o hf (by omega)]
    exact N.v8
  · rw [ha c hc]
    unfold ztake
    rw [upd_ne (by omega), zon_c hc hf]
  · rw [ho _ (by omega) (by omega) (by omega), ztake_o hf (by omega)]
    exact N.b hc
  · rw [ho _ (by omega) (by omega) (by omega), ztake_o hf (by omega)]
    exact N.c hc
/-! join -/
theorem zjoin_o {k : Nat} (h7 : k ≠ 7) (h : k ≠ 387 + zI w 7) : zjoin w k = w k := by
  unfold zjoin
  rw [upd_ne h7, upd_ne h]
theorem zjoin_7 : zjoin w 7 = nI (zI w 7 + 1) := upd_at
theorem zjoin_k : zjoin w (387 + zI w 7) = w 6 := by
  unfold zjoin
  rw [upd_ne (by omega), upd_at]
theorem lwA.join (L : lwA w ch be st) (hK : zI w 7 < 48) : lwA (zjoin w) ch be (upd st (zI w 7) (w 6)) := by
  obtain ⟨I, C, B, S, U⟩ := L
  have hR2 := I.iR.2.2
  have hC2 := I.iC.2.2
  have hM2 := I.iM.2.2
  have e4 : zI (zjoin w) 4 = zI w 4 := by unfold zI; rw [zjoin_o (by omega) (by omega)]
  have e5 : zI (zjoin w) 5 = zI w 5 := by unfold zI; rw [zjoin_o (by omega) (by omega)]
  have e6 : zI (zjoin w) 6 = zI w 6 := by unfold zI; rw [zjoin_o (by omega) (by omega)]
  have e7 : zI (zjoin w) 7 = zI w 7 + 1 := zI_k zjoin_7 (by omega)
  refine ⟨zjoin_inv I hK, fun r c hr hc => ?_, fun k hk => ?_, fun k hk => ?_, fun c hc => ?_⟩
  · rw [e4] at hr
    rw [e5] at hc
    rw [C r c hr hc, zjoin_o (by omega) (by omega)]
  · rw [e6] at hk
    rw [B k hk, zjoin_o (by omega) (by omega)]
  · rw [e7] at hk
    by_cases g : k = zI w 7
    · rw [g, upd_at, zjoin_k]
    · rw [upd_ne g, S k (by omega), zjoin_o (by omega) (by omega)]
  · rw [e6, zjoin_o (k := 15 + c) (by omega) (by omega), zjoin_o (k := 9 + c) (by omega) (by omega), zjoin_o (k := 21 + c) (by omega) (by omega), U c hc, xocc_congr (f := fun k => zjoin w (147 + k)) (g := fun k => w (147 + k)) (fun k hk => zjoin_o (by omega) (by omega))]
theorem lwN.join (N : lwN w m n) (hK : zI w 7 < 48) (h7 : n' 7 = nI (zI w 7 + 1)) (h9 : n' 9 = nI m') (ho : ∀ k, k ≠ 7 → k ≠ 9 → n' k = n k) : lwN (zjoin w) m' n' := by
  refine N.of (fun k hk => ho k (by omega) (by omega)) (fun k hk => zjoin_o (by omega) (by omega)) ?_ (h7.trans zjoin_7.symm) ?_ h9 (fun c hc => ?_) (fun c hc => ?_) (fun c hc => ?_)
  · rw [ho 6 (by decide) (by decide), zjoin_o (by omega) (by omega)]
    exact N.2.2.2.2.2.2.1
  · rw [ho 8 (by decide) (by decide), zjoin_o (by omega) (by omega)]
    exact N.v8
  · rw [ho _ (by omega) (by omega), zjoin_o (by omega) (by omega)]
    exact N.a hc
  · rw [ho _ (by omega) (by omega), zjoin_o (by omega) (by omega)]
    exact N.b hc
  · rw [ho _ (by omega) (by omega), zjoin_o (by omega) (by omega)]
    exact N.c hc
theorem zjoin_pc (I : xInv w) (hK : zI w 7 < 48) (b : Nat) : pcol (zjoin w) b = pcol w b := by
  have h1 := I.pl b
  unfold pcol
  have e : ∀ k, k < 7 → zI (zjoin w) k = zI w k := fun k hk => by unfold zI; rw [zjoin_o (by omega) (by omega)]
  rw [e 0 (by decide), e 1 (by decide), e 4 (by decide), e 5 (by decide), zjoin_o (by omega) (by omega)]
theorem zhid_join (I : xInv w) (hK : zI w 7 < 48) : zhid (zjoin w) (zI w 7) = decide (pcol w (zI w 6) = w 3) := by
  unfold zhid
  have e : zI (zjoin w) (387 + zI w 7) = zI w 6 := congrArg Int32.toNatClampNeg zjoin_k
  rw [e, zjoin_pc I hK, zjoin_o (by omega) (by omega)]
/-! the strings begin one behind the other -/
theorem lw_mono (I : xInv w) {s : Nat} : ∀ d, s + d < zI w 7 → zI w (387 + s) ≤ zI w (387 + (s + d))
  | 0, _ => Nat.le_refl _
  | d + 1, h => Nat.le_trans (lw_mono I d (by omega)) (I.im (s + d) (by omega))
theorem lw_mono' (I : xInv w) {s t : Nat} (h : s ≤ t) (ht : t < zI w 7) : zI w (387 + s) ≤ zI w (387 + t) := by
  have := lw_mono I (s := s) (t - s) (by omega)
  rw [show s + (t - s) = t by omega] at this
  exact this
theorem lw_K (I : xInv w) {K' l : Nat} (h1 : 1 ≤ K') (h2 : K' ≤ zI w 7) (hlo : zI w (387 + (K' - 1)) ≤ l) (hhi : ∀ s, K' ≤ s → s < zI w 7 → l < zI w (387 + s)) : 1 + xct (fun i => decide (zI w (387 + (i + 1)) ≤ l)) (zI w 7 - 1) = K' := by
  have e := xct_add (fun i => decide (zI w (387 + (i + 1)) ≤ l)) (K' - 1) (zI w 7 - K')
  rw [show K' - 1 + (zI w 7 - K') = zI w 7 - 1 by omega] at e
  rw [e, xct_all (n := K' - 1) (fun k hk => decide_eq_true (Nat.le_trans (lw_mono' I (show k + 1 ≤ K' - 1 by omega) (by omega)) hlo)), xct_z (n := zI w 7 - K') (fun k hk => decide_eq_false (by
    have := hhi (K' - 1 + k + 1) (by omega) (by omega)
    omega))]
  omega
/-! unpick -/
theorem lw_hc (I : xInv w) (hm : mm ≤ zI w 6) : ∀ j, j < mm → zI w (147 + (zI w 6 - mm + j)) < 6 := fun j hj => by
  have := (I.ib (zI w 6 - mm + j) (by omega)).2.2
  omega
theorem xocc_unp (I : xInv w) (hm : mm ≤ zI w 6) {c : Nat} (hc : c < 6) : xocc (fun k => w (147 + k)) (nI c) (zI w 6) = xocc (fun k => w (147 + k)) (nI c) (zI w 6 - mm) + xct (fun j => decide (zI w (147 + (zI w 6 - mm + j)) = c)) mm := by
  have e := xct_add (fun k => decide (w (147 + k) = nI c)) (zI w 6 - mm) mm
  rw [show zI w 6 - mm + mm = zI w 6 by omega] at e
  rw [← xocc_xct, ← xocc_xct, e]
  congr 1
  refine xct_congr (fun j hj => ?_)
  have h1 := I.ib (zI w 6 - mm + j) (by omega)
  have h2 := h1.2.2
  by_cases g : zI w (147 + (zI w 6 - mm + j)) = c
  · rw [decide_eq_true g, decide_eq_true (h1.1.trans (congrArg nI g))]
  · rw [decide_eq_false g, decide_eq_false (fun q => g ((nI_eq (by omega) (by omega)).mp (h1.1.symm.trans q)))]
theorem lwA.unp (L : lwA w ch be st) (hm : mm ≤ zI w 6) : lwA (zunp w mm) ch be st := by
  obtain ⟨I, C, B, S, U⟩ := L
  have hM2 := I.iM.2.2
  have hK1 := I.iK.2.1
  have hK2 := I.iK.2.2
  have hc6 := lw_hc I hm
  have o : ∀ k, (k < 6 ∨ 15 ≤ k) → zunp w mm k = w k := fun k h => zunp_o hc6 h
  have e4 : zI (zunp w mm) 4 = zI w 4 := by unfold zI; rw [o 4 (by omega)]
  have e5 : zI (zunp w mm) 5 = zI w 5 := by unfold zI; rw [o 5 (by omega)]
  have e6 : zI (zunp w mm) 6 = zI w 6 - mm := zI_k zunp_6 (by omega)
  have hx := xct_le (fun i => decide (zI w (387 + (i + 1)) ≤ zI w 6 - mm)) (zI w 7 - 1)
  have e7 : zI (zunp w mm) 7 ≤ zI w 7 := by rw [zI_k zunp_7 (by omega)]; omega
  refine ⟨zunp_inv I hm, fun r c hr hc => ?_, fun k hk => ?_, fun k hk => ?_, fun c hc => ?_⟩
  · rw [e4] at hr
    rw [e5] at hc
    rw [C r c hr hc, o _ (by omega)]
  · rw [e6] at hk
    rw [B k (by omega), o _ (by omega)]
  · rw [S k (by omega), o _ (by omega)]
  · rw [e6, o (15 + c) (by omega), o (21 + c) (by omega), U c hc, zunp_c hc6, xocc_unp I hm hc, xocc_congr (f := fun k => zunp w mm (147 + k)) (g := fun k => w (147 + k)) (fun k hk => o _ (by omega)), ← nI_add]
    exact i_mv2 _ _ _ _
theorem lwN.unp (I : xInv w) (N : lwN w m n) (hm : mm ≤ zI w 6) {K' : Nat} (h6 : n' 6 = nI (zI w 6 - mm)) (h7 : n' 7 = nI K') (hK1 : 1 ≤ K') (hK2 : K' ≤ zI w 7) (hlo : zI w (387 + (K' - 1)) ≤ zI w 6 - mm) (hhi : ∀ s, K' ≤ s → s < zI w 7 → zI w 6 - mm < zI w (387 + s)) (h8 : n' 8 = w 8 + nI mm) (h9 : n' 9 = nI m') (ho : ∀ k, (k < 6 ∨ 16 ≤ k) → n' k = n k) (ha : ∀ d, d < 6 → n' (10 + d) = w (9 + d) + nI (xct (fun j => decide (zI w (147 + (zI w 6 - 1 - j)) = d)) mm)) : lwN (zunp w mm) m' n' := by
  have hc6 := lw_hc I hm
  have o : ∀ k, (k < 6 ∨ 15 ≤ k) → zunp w mm k = w k := fun k h => zunp_o hc6 h
  refine N.of (fun k hk => ho k (by omega)) (fun k hk => o k (by omega)) (h6.trans zunp_6.symm) ?_ ?_ h9 (fun c hc => ?_) (fun c hc => ?_) (fun c hc => ?_)
  · rw [h7, zunp_7, lw_K I hK1 hK2 hlo hhi]
  · rw [h8, zunp_8 hc6]
  · have e9 : xct (fun j => decide (zI w (147 + (zI w 6 - mm + j)) = c)) mm = xct (fun j => decide (zI w (147 + (zI w 6 - 1 - j)) = c)) mm :=
      (xct_rev _ mm).trans (xct_congr fun j hj => by
        show decide (zI w (147 + (zI w 6 - mm + (mm - 1 - j))) = c) = _
        rw [show zI w 6 - mm + (mm - 1 - j) = zI w 6 - 1 - j by omega])
    rw [ha c hc, zunp_c hc6, e9]
  · rw [ho _ (by omega), o _ (by omega)]
    exact N.b hc
  · rw [ho _ (by omega), o _ (by omega)]
    exact N.c hc
/-! crush -/
theorem xocc_rm {f g : Nat → Int32} {v : Int32} {b : Nat} (h1 : ∀ k, k < b → g k = f k) : ∀ t, (∀ k, b ≤ k → k < b + t → g k = f (k + 1)) → xocc f v (b + t + 1) = xocc g v (b + t) + if f b = v then 1 else 0
  | 0, _ => by
    show xocc f v b + _ = xocc g v b + _
    rw [xocc_congr (f := g) (g := f) h1]
  | t + 1, h2 => by
    have ih := xocc_rm (v := v) h1 t (fun k g1 g2 => h2 k g1 (by omega))
    show xocc f v (b + t + 1) + (if f (b + t + 1) = v then 1 else 0) = xocc g v (b + t) + (if g (b + t) = v then 1 else 0) + _
    rw [ih, h2 (b + t) (by omega) (by omega)]
    omega
theorem lwA.crush {b : Nat} (L : lwA w ch be st) (hb : b < zI w 6) (hbe : ∀ j, j < zI w 6 - 1 → bcol be' j = if b ≤ j then bcol be (j + 1) else bcol be j)
    (hs0 : ∀ s, s ≤ zstr w b → st' s = w (387 + s)) (hs1 : ¬ zgo w b = true → ∀ s, zstr w b < s → s < zI w 7 → st' s = nI (zI w (387 + s) - 1)) (hs2 : zgo w b = true → ∀ s, zstr w b < s → s + 1 < zI w 7 → st' s = nI (zI w (387 + (s + 1)) - 1)) : lwA (zcrush w b) ch be' st' := by
  obtain ⟨I, C, B, S, U⟩ := L
  have hM2 := I.iM.2.2
  have hK1 := I.iK.2.1
  have hK2 := I.iK.2.2
  have hR2 := I.iR.2.2
  have hC2 := I.iC.2.2
  have hst := I.str b
  have o : ∀ k, k ≠ 6 → k ≠ 7 → (k < 21 ∨ (27 ≤ k ∧ k < 147 + b)) → zcrush w b k = w k := fun k h6 h7 hk => zcrush_o I hb h6 h7 hk
  have e4 : zI (zcrush w b) 4 = zI w 4 := by unfold zI; rw [o 4 (by omega) (by omega) (by omega)]
  have e5 : zI (zcrush w b) 5 = zI w 5 := by unfold zI; rw [o 5 (by omega) (by omega) (by omega)]
  have e6 : zI (zcrush w b) 6 = zI w 6 - 1 := zI_k zcrush_6 (by omega)
  have e7 : zI (zcrush w b) 7 = if zgo w b = true then zI w 7 - 1 else zI w 7 := zI_k (zcrush_7 I) (by split <;> omega)
  refine ⟨zcrush_inv I hb, fun r c hr hc => ?_, fun k hk => ?_, fun k hk => ?_, fun c hc => ?_⟩
  · rw [e4] at hr
    rw [e5] at hc
    rw [C r c hr hc, o _ (by omega) (by omega) (by omega)]
  · rw [e6] at hk
    rw [hbe k hk]
    by_cases g : b ≤ k
    · rw [if_pos g, B _ (by omega), zcrush_b I hb g hk]
    · rw [if_neg g, B _ (by omega), o _ (by omega) (by omega) (by omega)]
  · rw [e7] at hk
    by_cases hg : zgo w b = true
    · rw [if_pos hg] at hk
      obtain ⟨g1, g2⟩ := zgo_is hg
      by_cases g : k < zstr w b
      · rw [hs0 k (by omega), zcrush_s0 I hb (Or.inl g)]
      · rw [zcrush_s2 I hb hg (by omega) (by omega)]
        by_cases g3 : k = zstr w b
        · subst g3
          rw [hs0 _ (Nat.le_refl _), (I.iB _ hst).1]
          congr 1
          have hz : zend w (zstr w b) = zI w (387 + (zstr w b + 1)) := if_pos g2
          have := (I.el hst).1
          unfold zlen at g1
          rw [hz] at g1 this
          omega
        · exact hs2 hg k (by omega) (by omega)
    · rw [if_neg hg] at hk
      by_cases g : k ≤ zstr w b
      · rw [hs0 k g, zcrush_s0 I hb (by rcases Nat.lt_or_ge k (zstr w b) with h | h; exact Or.inl h; exact Or.inr ⟨by omega, hg⟩)]
      · rw [hs1 hg k (by omega) hk, zcrush_s1 I hb hg (by omega) hk]
  · have hB := I.ib b hb
    have h5 := hB.2.2
    have hx := xocc_rm (f := fun k => w (147 + k)) (g := fun k => zcrush w b (147 + k)) (v := nI c) (b := b) (fun k hk => o _ (by omega) (by omega) (by omega)) (zI w 6 - 1 - b) (fun k g1 g2 => zcrush_b I hb g1 (by omega))
    rw [show b + (zI w 6 - 1 - b) + 1 = zI w 6 by omega, show b + (zI w 6 - 1 - b) = zI w 6 - 1 by omega] at hx
    rw [e6, o (15 + c) (by omega) (by omega) (by omega), o (9 + c) (by omega) (by omega) (by omega), zcrush_c hc, U c hc, hx]
    by_cases g : c = zI w (147 + b)
    · rw [if_pos g, if_pos (by rw [g]; exact hB.1), ← nI_add]
      exact i_mv3 _ _ _ _
    · rw [if_neg g, if_neg (fun q => g ((nI_eq (by omega) (by omega)).mp (q.symm.trans hB.1))), Nat.add_zero]
theorem lwN.crush {b : Nat} (I : xInv w) (N : lwN w m n) (hb : b < zI w 6) (h6 : n' 6 = nI (zI w 6 - 1)) (h7 : n' 7 = nI (if zgo w b = true then zI w 7 - 1 else zI w 7)) (h9 : n' 9 = nI m') (ho : ∀ k, k ≠ 6 → k ≠ 7 → k ≠ 9 → k < 22 → n' k = n k) (hc' : ∀ d, d < 6 → n' (22 + d) = if d = zI w (147 + b) then w (21 + d) + nI 1 else w (21 + d)) : lwN (zcrush w b) m' n' := by
  have o : ∀ k, k ≠ 6 → k ≠ 7 → (k < 21 ∨ (27 ≤ k ∧ k < 147 + b)) → zcrush w b k = w k := fun k h6 h7 hk => zcrush_o I hb h6 h7 hk
  refine N.of (fun k hk => ho k (by omega) (by omega) (by omega) (by omega)) (fun k hk => o k (by omega) (by omega) (by omega)) (h6.trans zcrush_6.symm) (h7.trans (zcrush_7 I).symm) ?_ h9 (fun c hc => ?_) (fun c hc => ?_) (fun c hc => ?_)
  · rw [ho 8 (by decide) (by decide) (by decide) (by decide), o 8 (by decide) (by decide) (by omega)]
    exact N.v8
  · rw [ho _ (by omega) (by omega) (by omega) (by omega), o _ (by omega) (by omega) (by omega)]
    exact N.a hc
  · rw [ho _ (by omega) (by omega) (by omega) (by omega), o _ (by omega) (by omega) (by omega)]
    exact N.b hc
  · rw [hc' c hc, zcrush_c hc]
end P48

/-! ===== the class and the model, side by side: crush, unpick ===== -/
section P57
variable {w z : Nat → Int32} {sv : Nat → Nat → Int32} {q n l : Nat} {co hi : Nat → Int32}
theorem zcrush_c {b c : Nat} (hc : c < 6) : zcrush z b (21 + c) = if c = zI z (147 + b) then z (21 + c) + nI 1 else z (21 + c) := by
  rw [zcrush_v (by omega) (by omega), zdn_at _ _ (by omega)]
  unfold zcr
  rw [zsh_at _ (by omega)]
  by_cases e : c = zI z (147 + b)
  · rw [if_pos e, e, upd_at]
  · rw [if_neg e, upd_ne (by omega)]
theorem zcrush_ag {b : Nat} (A : xag w z) (I : xInv z) (hb : b < zI z 6) : xag (zcrush w b) (zcrush z b) := by
  have J := A.inv I
  have i6 := A.i (show 6 < 27 by decide)
  have i7 := A.i (show 7 < 27 by decide)
  have hbw : b < zI w 6 := by omega
  have hR := I.iR.2.2
  have hC := I.iC.2.2
  have hM := I.iM.2.2
  have hst := I.str b
  have hbb : zI w (147 + b) = zI z (147 + b) := by unfold zI; rw [A.2.2.1 b hb]
  have eg : zgo w b = zgo z b := by
    unfold zgo
    rw [A.str, A.len hst, i7]
  have e6 : zI (zcrush z b) 6 = zI z 6 - 1 := zI_k zcrush_6 (by omega)
  have e4 : zI (zcrush z b) 4 = zI z 4 := by unfold zI; rw [zcrush_o I hb (by decide) (by decide) (by omega)]
  have e5 : zI (zcrush z b) 5 = zI z 5 := by unfold zI; rw [zcrush_o I hb (by decide) (by decide) (by omega)]
  have e7 : zI (zcrush z b) 7 = if zgo z b = true then zI z 7 - 1 else zI z 7 := zI_k (zcrush_7 I) (by have := I.iK.2.2; split <;> omega)
  refine ⟨fun k hk => ?_, fun r c hr hc => ?_, fun k hk => ?_, fun k hk => ?_⟩
  · by_cases h6 : k = 6
    · subst h6; rw [zcrush_6, zcrush_6, i6]
    · by_cases h7 : k = 7
      · subst h7; rw [zcrush_7 J, zcrush_7 I, eg, i7]
      · by_cases h21 : k < 21
        · rw [zcrush_o J hbw h6 h7 (by omega), zcrush_o I hb h6 h7 (by omega)]
          exact A.1 k hk
        · obtain ⟨c, rfl⟩ : ∃ c, k = 21 + c := ⟨k - 21, by omega⟩
          rw [zcrush_c (by omega), zcrush_c (by omega), hbb, A.1 _ hk]
  · rw [e4] at hr
    rw [e5] at hc
    rw [zcrush_o J hbw (by omega) (by omega) (by omega), zcrush_o I hb (by omega) (by omega) (by omega)]
    exact A.2.1 r c hr hc
  · rw [e6] at hk
    by_cases h : k < b
    · rw [zcrush_o J hbw (by omega) (by omega) (by omega), zcrush_o I hb (by omega) (by omega) (by omega)]
      exact A.2.2.1 k (by omega)
    · rw [zcrush_b J hbw (by omega) (by omega), zcrush_b I hb (by omega) hk]
      exact A.2.2.1 (k + 1) (by omega)
  · rw [e7] at hk
    have es : zstr w b = zstr z b := A.str b
    by_cases hg : zgo z b = true
    · rw [if_pos hg] at hk
      by_cases h : k < zstr z b
      · rw [zcrush_s0 J hbw (Or.inl (by omega)), zcrush_s0 I hb (Or.inl h)]
        exact A.2.2.2 k (by omega)
      · rw [zcrush_s2 J hbw (by rw [eg]; exact hg) (by omega) (by omega), zcrush_s2 I hb hg (by omega) (by omega), A.bg (k := k + 1) (by omega)]
    · rw [if_neg hg] at hk
      by_cases h : k ≤ zstr z b
      · have h0 : k < zstr z b ∨ (k = zstr z b ∧ ¬ zgo z b = true) := by
          by_cases e : k = zstr z b
          · exact Or.inr ⟨e, hg⟩
          · exact Or.inl (by omega)
        rw [zcrush_s0 J hbw (by rw [es, eg]; exact h0), zcrush_s0 I hb h0]
        exact A.2.2.2 k hk
      · rw [zcrush_s1 J hbw (by rw [eg]; exact hg) (by omega) (by omega), zcrush_s1 I hb hg (by omega) hk, A.bg (k := k) hk]
theorem Q_cru {p : Int32} (R : xRel (w, sv, q, n, l, co) (z, hi, n, l, co)) : xSame (oCru (w, sv, q, n, l, co) p) (oCruM (z, hi, n, l, co) p) := by
  have R0 := R
  obtain ⟨I, A, hq, hn, e1, e2, e3, X, H⟩ := R
  dsimp only at I A hq hn X H
  unfold oCru oCruM
  dsimp only
  rw [A.i (show 6 < 27 by decide)]
  by_cases g0 : xlt p (zI z 6)
  · rw [if_pos g0, if_pos g0]
    obtain ⟨a, a1, rfl⟩ := xlt_y (by have := I.iM.2.2; omega) g0
    rw [pN_k (by have := I.iM.2.2; omega)]
    have B := mcrush_ag I a1
    have J := zcrush_inv I a1
    exact ⟨rfl, xRel_sav R0 (B.inv J) ((zcrush_ag A I a1).trans B.symm) X⟩
  · rw [if_neg g0, if_neg g0]
    exact ⟨rfl, R0⟩
/-- an unpicked work's numbers -/
theorem zunp_6 {m : Nat} : zunp z m 6 = nI (zI z 6 - m) := by
  unfold zunp zoff2 zoff1
  rw [upd_ne (by decide), upd_ne (by decide), upd_at]
theorem zunp_7 {m : Nat} : zunp z m 7 = nI (1 + xct (fun i => decide (zI z (387 + (i + 1)) ≤ zI z 6 - m)) (zI z 7 - 1)) := upd_at
theorem zunp_8 {m : Nat} (hc : ∀ j, j < m → zI z (147 + (zI z 6 - m + j)) < 6) : zunp z m 8 = z 8 + nI m := by
  unfold zunp zoff2
  rw [upd_ne (by decide), upd_at]
  unfold zoff1
  rw [upd_ne (by decide), zoff_o _ _ _ hc (by omega)]
theorem zunp_o {m k : Nat} (hc : ∀ j, j < m → zI z (147 + (zI z 6 - m + j)) < 6) (h : k < 6 ∨ 15 ≤ k) : zunp z m k = z k := by
  unfold zunp zoff2 zoff1
  rw [upd_ne (by omega), upd_ne (by omega), upd_ne (by omega), zoff_o _ _ _ hc (by omega)]
theorem zunp_c {m c : Nat} (hc : ∀ j, j < m → zI z (147 + (zI z 6 - m + j)) < 6) : zunp z m (9 + c) = z (9 + c) + nI (xct (fun j => decide (zI z (147 + (zI z 6 - m + j)) = c)) m) := by
  unfold zunp zoff2 zoff1
  rw [upd_ne (by omega), upd_ne (by omega), upd_ne (by omega), zoff_c hc]
theorem zunp_ag {m : Nat} (A : xag w z) (I : xInv z) (hm : m ≤ zI z 6) : xag (zunp w m) (zunp z m) := by
  have i6 := A.i (show 6 < 27 by decide)
  have i7 := A.i (show 7 < 27 by decide)
  have hR := I.iR.2.2
  have hC := I.iC.2.2
  have hM := I.iM.2.2
  have hK := I.iK.2.2
  have ib : ∀ k, k < zI z 6 → zI w (147 + k) = zI z (147 + k) := fun k hk => by unfold zI; rw [A.2.2.1 k hk]
  have hcz : ∀ j, j < m → zI z (147 + (zI z 6 - m + j)) < 6 := fun j hj => Nat.lt_succ_of_le (I.ib _ (by omega)).2.2
  have hcw : ∀ j, j < m → zI w (147 + (zI w 6 - m + j)) < 6 := fun j hj => by
    rw [i6, ib _ (by omega)]
    exact hcz j hj
  have hxl : xct (fun i => decide (zI z (387 + (i + 1)) ≤ zI z 6 - m)) (zI z 7 - 1) ≤ zI z 7 - 1 := xct_le _ _
  have hK1 := I.iK.2.1
  have ex : xct (fun i => decide (zI w (387 + (i + 1)) ≤ zI w 6 - m)) (zI w 7 - 1) = xct (fun i => decide (zI z (387 + (i + 1)) ≤ zI z 6 - m)) (zI z 7 - 1) := by
    rw [i7, i6]
    exact xct_congr fun i hi9 => by rw [A.bg (k := i + 1) (by omega)]
  have e6 : zI (zunp z m) 6 = zI z 6 - m := zI_k zunp_6 (by omega)
  have e7 : zI (zunp z m) 7 ≤ zI z 7 := by rw [zI_k zunp_7 (by omega)]; omega
  have e4 : zI (zunp z m) 4 = zI z 4 := by unfold zI; rw [zunp_o hcz (by omega)]
  have e5 : zI (zunp z m) 5 = zI z 5 := by unfold zI; rw [zunp_o hcz (by omega)]
  refine ⟨fun k hk => ?_, fun r c hr hc => ?_, fun k hk => ?_, fun k hk => ?_⟩
  · by_cases h6 : k = 6
    · subst h6; rw [zunp_6, zunp_6, i6]
    · by_cases h7 : k = 7
      · subst h7; rw [zunp_7, zunp_7, ex]
      · by_cases h8 : k = 8
        · subst h8; rw [zunp_8 hcw, zunp_8 hcz, A.1 8 (by decide)]
        · by_cases h9 : 9 ≤ k ∧ k < 15
          · obtain ⟨c, rfl⟩ : ∃ c, k = 9 + c := ⟨k - 9, by omega⟩
            rw [zunp_c hcw, zunp_c hcz, A.1 _ hk, i6, xct_congr (p := fun j => decide (zI w (147 + (zI z 6 - m + j)) = c)) (q := fun j => decide (zI z (147 + (zI z 6 - m + j)) = c)) (fun j hj => by rw [ib _ (by omega)])]
          · rw [zunp_o hcw (by omega), zunp_o hcz (by omega)]
            exact A.1 k hk
  · rw [e4] at hr
    rw [e5] at hc
    rw [zunp_o hcw (by omega), zunp_o hcz (by omega)]
    exact A.2.1 r c hr hc
  · rw [e6] at hk
    rw [zunp_o hcw (by omega), zunp_o hcz (by omega)]
    exact A.2.2.1 k (by omega)
  · rw [zunp_o hcw (by omega), zunp_o hcz (by omega)]
    exact A.2.2.2 k (by omega)
theorem zunp_inv {m : Nat} (I : xInv z) (hm : m ≤ zI z 6) : xInv (zunp z m) := by
  have hM := I.iM.2.2
  have hK := I.iK.2.2
  have hK1 := I.iK.2.1
  have hcz : ∀ j, j < m → zI z (147 + (zI z 6 - m + j)) < 6 := fun j hj => Nat.lt_succ_of_le (I.ib _ (by omega)).2.2
  have hxl : xct (fun i => decide (zI z (387 + (i + 1)) ≤ zI z 6 - m)) (zI z 7 - 1) ≤ zI z 7 - 1 := xct_le _ _
  have hxd : xct (fun i => decide (zI z (387 + (i + 1)) ≤ zI z 6 - m)) (zI z 7 - 1) = xdown (fun s => decide (zI z (387 + s) ≤ zI z 6 - m)) (zI z 7 - 1) := by
    refine xct_xdown (p := fun s => decide (zI z (387 + s) ≤ zI z 6 - m)) fun k hk h => ?_
    have h1 := I.im k (by omega)
    have h2 : zI z (387 + (k + 1)) ≤ zI z 6 - m := of_decide_eq_true h
    exact decide_eq_true (by omega)
  have hp : zI z (387 + xdown (fun s => decide (zI z (387 + s) ≤ zI z 6 - m)) (zI z 7 - 1)) ≤ zI z 6 - m :=
    of_decide_eq_true (xdown_p (p := fun s => decide (zI z (387 + s) ≤ zI z 6 - m)) (decide_eq_true (by have := I.i0; show zI z (387 + 0) ≤ _; rw [Nat.add_zero, this]; exact Nat.zero_le _)) _)
  rw [← hxd] at hp
  have e6 : zI (zunp z m) 6 = zI z 6 - m := zI_k zunp_6 (by omega)
  have e7 : zI (zunp z m) 7 = 1 + xct (fun i => decide (zI z (387 + (i + 1)) ≤ zI z 6 - m)) (zI z 7 - 1) := zI_k zunp_7 (by omega)
  have eo : ∀ k, k < 6 ∨ 15 ≤ k → zunp z m k = z k := fun k hk => zunp_o hcz hk
  have io : ∀ k, k < 6 ∨ 15 ≤ k → zI (zunp z m) k = zI z k := fun k hk => by unfold zI; rw [eo k hk]
  have mono : ∀ (d s : Nat), s + d < zI z 7 → zI z (387 + s) ≤ zI z (387 + (s + d)) := by
    intro d
    induction d with
    | zero => intro s _; exact Nat.le_refl _
    | succ d ih =>
      intro s hd
      have := I.im (s + d) (by omega)
      have := ih s (by omega)
      rw [← Nat.add_assoc s d 1]
      omega
  refine ⟨xnn_ag (eo 0 (by omega)) I.iA, xnn_ag (eo 1 (by omega)) I.iS, xnn_ag (eo 2 (by omega)) I.iH, xnn_ag (eo 3 (by omega)) I.iD, xnn_ag (eo 4 (by omega)) I.iR, xnn_ag (eo 5 (by omega)) I.iC, xnn_k zunp_6 (by omega) (by omega) (by omega), xnn_k zunp_7 (by omega) (by omega) (by omega), fun k hk => ?_, ?_, fun k hk => ?_, fun k hk => ?_, fun r c hr hc => ?_⟩
  · rw [e7] at hk
    rw [e6]
    have h1 := xnn_ag (eo (387 + k) (by omega)) (I.iB k (by omega))
    have h2 := mono (xct (fun i => decide (zI z (387 + (i + 1)) ≤ zI z 6 - m)) (zI z 7 - 1) - k) k (by omega)
    rw [show k + (xct (fun i => decide (zI z (387 + (i + 1)) ≤ zI z 6 - m)) (zI z 7 - 1) - k) = xct (fun i => decide (zI z (387 + (i + 1)) ≤ zI z 6 - m)) (zI z 7 - 1) by omega] at h2
    refine ⟨h1.1, Nat.zero_le _, ?_⟩
    rw [io _ (by omega)]
    omega
  · rw [io 387 (by omega)]
    exact I.i0
  · rw [e7] at hk
    rw [io _ (by omega), io _ (by omega)]
    exact I.im k (by omega)
  · rw [e6] at hk
    exact xnn_ag (eo _ (by omega)) (I.ib k (by omega))
  · rw [io 4 (by omega)] at hr
    rw [io 5 (by omega)] at hc
    exact xnn_ag (eo _ (by omega)) (I.ic r c hr hc)
theorem Q_unp {p : Int32} (R : xRel (w, sv, q, n, l, co) (z, hi, n, l, co)) : xSame (oUnp (w, sv, q, n, l, co) p) (oUnpM (z, hi, n, l, co) p) := by
  have R0 := R
  obtain ⟨I, A, hq, hn, e1, e2, e3, X, H⟩ := R
  dsimp only at I A hq hn X H
  have hM := I.iM.2.2
  unfold oUnp oUnpM
  dsimp only
  by_cases g0 : xin p 1 240
  · rw [if_pos g0, if_pos g0]
    obtain ⟨a, a1, a2, rfl⟩ := xin_y (by decide) (by decide) g0
    rw [pN_k (by omega)]
    have hw := A.1 6 (by decide)
    by_cases g1 : ¬ z 6 < nI a
    · rw [if_pos (show ¬ w 6 < nI a by rw [hw]; exact g1), if_pos g1]
      have ha : a ≤ zI z 6 := by
        rw [I.iM.1, nI_ltI (by omega) (by omega)] at g1
        omega
      refine ⟨?_, xRel_sav R0 (zunp_inv I ha) (zunp_ag A I ha) X⟩
      rw [A.i (show 6 < 27 by decide)]
    · rw [if_neg (show ¬ ¬ w 6 < nI a by rw [hw]; exact g1), if_neg g1]
      exact ⟨rfl, R0⟩
  · rw [if_neg g0, if_neg g0]
    exact ⟨rfl, R0⟩
end P57

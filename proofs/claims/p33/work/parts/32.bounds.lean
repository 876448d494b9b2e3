/-! ===== what keeps the state in its bounds ===== -/
theorem zI_k {f : Nat → Int32} {i k : Nat} (h : f i = nI k) (hk : k < 2 ^ 31) : zI f i = k := by unfold zI; rw [h, nI_clamp hk]
theorem xnn_k {f : Nat → Int32} {i k lo hi : Nat} (h : f i = nI k) (hk : k < 2 ^ 31) (h1 : lo ≤ k) (h2 : k ≤ hi) : xnn f i lo hi := by
  unfold xnn
  rw [zI_k h hk]
  exact ⟨h, h1, h2⟩
/-- another string -/
def zjoin (w : Nat → Int32) : Nat → Int32 := upd (upd w (387 + zI w 7) (w 6)) 7 (nI (zI w 7 + 1))
theorem zjoin_inv {w : Nat → Int32} (I : xInv w) (h : zI w 7 < 48) : xInv (zjoin w) := by
  obtain ⟨M1, M2, M3⟩ := I.iM
  have e7 : zjoin w 7 = nI (zI w 7 + 1) := upd_at
  have i7 : zI (zjoin w) 7 = zI w 7 + 1 := zI_k e7 (by omega)
  have eo : ∀ k, k ≠ 7 → k ≠ 387 + zI w 7 → zjoin w k = w k := fun k h1 h2 => by unfold zjoin; rw [upd_ne h1, upd_ne h2]
  have eK : zjoin w (387 + zI w 7) = w 6 := by unfold zjoin; rw [upd_ne (by omega), upd_at]
  have io : ∀ k, k ≠ 7 → k ≠ 387 + zI w 7 → zI (zjoin w) k = zI w k := fun k h1 h2 => by unfold zI; rw [eo k h1 h2]
  have iK : zI (zjoin w) (387 + zI w 7) = zI w 6 := congrArg Int32.toNatClampNeg eK
  have i6 := io 6 (by decide) (by omega)
  have h7 := I.iK.2.1
  refine ⟨xnn_ag (eo 0 (by decide) (by omega)) I.iA, xnn_ag (eo 1 (by decide) (by omega)) I.iS, xnn_ag (eo 2 (by decide) (by omega)) I.iH, xnn_ag (eo 3 (by decide) (by omega)) I.iD, xnn_ag (eo 4 (by decide) (by omega)) I.iR, xnn_ag (eo 5 (by decide) (by omega)) I.iC, xnn_ag (eo 6 (by decide) (by omega)) I.iM, xnn_k e7 (by omega) (by omega) (by omega), fun k hk => ?_, ?_, fun k hk => ?_, fun k hk => ?_, fun r c hr hc => ?_⟩
  · rw [i6]
    by_cases e : k = zI w 7
    · subst e
      exact xnn_k (eK.trans M1) (by omega) (by omega) (by omega)
    · exact xnn_ag (eo _ (by omega) (by omega)) (I.iB k (by omega))
  · rw [io 387 (by decide) (by omega)]
    exact I.i0
  · rw [io (387 + k) (by omega) (by omega)]
    by_cases e : k + 1 = zI w 7
    · rw [e, iK]
      exact (I.iB k (by omega)).2.2
    · rw [io (387 + (k + 1)) (by omega) (by omega)]
      exact I.im k (by omega)
  · rw [i6] at hk
    exact xnn_ag (eo _ (by omega) (by omega)) (I.ib k hk)
  · rw [io 4 (by decide) (by omega)] at hr
    rw [io 5 (by decide) (by omega)] at hc
    have := I.iR.2.2
    have := I.iC.2.2
    exact xnn_ag (eo _ (by omega) (by omega)) (I.ic r c hr hc)


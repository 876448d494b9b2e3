/-! ===== the workshop: the best slant, the best turn, the digest ===== -/
section P26a
variable {G : xG} {Y : xM} {Qx : xO → List xE → Prop} {pc : Nat} {ls : List (Nat × Value)} {st : List Value} {hp : List xE} {x kc ks : Nat}
variable {Y' : xM} {Qx' : xO → List xE → Prop} {n idx : Nat} {ar : List Value} {rest : List Value} {k ci : Nat} {fs : List Value} {host : String}
/-- a call whose end is told by a property of the heap; nothing is thrown, nothing made -/
theorem xw_qV (pc' : Nat) (hd : decode (xmB Y) pc = .ok (.invokevirtual idx, 3)) (hpc : pc + 3 = pc') (hok : xMok Y' n) (hw : Cond.methodLink (xmN Y).cls idx (xmN Y') ∈ lw_tbl ∧ Cond.instanceMethod (xmN Y') ∈ lw_tbl ∧ Cond.selects (xmN Y').cls (xmN Y') (xmN Y') ∈ lw_tbl) (hM : xMet G Y' (.ref k :: ar) hp x 0 0 Qx') (hnt : ∀ E hp', ¬ Qx' (.inr E) hp') (hl : ∀ o hp', Qx' o hp' → hp.length = hp'.length) (hob : hp[k]? = some (.inr (ci, fs))) (hci : (xCl[ci]?).map (fun r => r.1) = some (xmN Y').cls) (hn : ar.length = n) (ha : Nat.ble (lg_sl (.ref k :: ar)).length (xmL Y') = true) (hst : st = ar.reverse ++ .ref k :: rest) (hcat : Nat.ble (rest.map fun v => v.category).sum 8 = true) (hfr : Nat.ble (xmF Y' + 1) (xmF Y) = true) (hlo : Nat.ble (8 + (xmL Y' + 11) + xmW Y') (xmW Y) = true) (kk : ∀ ov hp', Qx' (.inl ov) hp' → xW G Y Qx pc' ls (ov.toList ++ rest) hp' x kc ks) : xW G Y Qx pc ls st hp x kc ks := by
  subst hpc
  exact xw_callV hd hok hw hM hob hci hn ha hst hcat hfr hlo (Nat.zero_add _).symm (Nat.zero_add _).symm (fun o hp' h => by rw [hl o hp' h]; exact Nat.le_refl _) kk (fun E hp' h => (hnt E hp' h).elim)
theorem xw_qVN (pc' : Nat) (hd : decode (xmB Y) pc = .ok (.invokevirtual idx, 3)) (hpc : pc + 3 = pc') (hok : xMok Y' n) (hw : Cond.methodLinkNest (xmN Y).cls idx (xmN Y') host ∈ lw_tbl ∧ Cond.instanceMethod (xmN Y') ∈ lw_tbl ∧ Cond.selects (xmN Y').cls (xmN Y') (xmN Y') ∈ lw_tbl) (hM : xMet G Y' (.ref k :: ar) hp x 0 0 Qx') (hnt : ∀ E hp', ¬ Qx' (.inr E) hp') (hl : ∀ o hp', Qx' o hp' → hp.length = hp'.length) (hob : hp[k]? = some (.inr (ci, fs))) (hci : (xCl[ci]?).map (fun r => r.1) = some (xmN Y').cls) (hn : ar.length = n) (ha : Nat.ble (lg_sl (.ref k :: ar)).length (xmL Y') = true) (hst : st = ar.reverse ++ .ref k :: rest) (hcat : Nat.ble (rest.map fun v => v.category).sum 8 = true) (hfr : Nat.ble (xmF Y' + 1) (xmF Y) = true) (hlo : Nat.ble (8 + (xmL Y' + 11) + xmW Y') (xmW Y) = true) (kk : ∀ ov hp', Qx' (.inl ov) hp' → xW G Y Qx pc' ls (ov.toList ++ rest) hp' x kc ks) : xW G Y Qx pc ls st hp x kc ks := by
  subst hpc
  exact xw_callVN hd hok hw hM hnt hob hci hn ha hst hcat hfr hlo (Nat.zero_add _).symm (Nat.zero_add _).symm (fun o hp' h => by rw [hl o hp' h]; exact Nat.le_refl _) kk
end P26a
/-- what the class's three rows of numbers hold -/
def xSta (G : xG) : Prop :=
  ((xgr G 1).1 = 4 ∧ (xgr G 1).2 0 = nI 6 ∧ (xgr G 1).2 1 = nI 1 ∧ (xgr G 1).2 2 = nI 40 ∧ (xgr G 1).2 3 = nI 0) ∧
  ((xgr G 2).1 = 4 ∧ (xgr G 2).2 0 = nI 3 ∧ (xgr G 2).2 1 = nI 0 ∧ (xgr G 2).2 2 = nI 5 ∧ (xgr G 2).2 3 = nI 0) ∧
  ((xgr G 3).1 = 4 ∧ (xgr G 3).2 0 = nI 15 ∧ (xgr G 3).2 1 = nI 11 ∧ (xgr G 3).2 2 = nI 240 ∧ (xgr G 3).2 3 = nI 5)
theorem S_B_at_rov {G : xG} {hp : List xE} {x r j : Nat} {i v : Int32} (hr : r < 4) (hn : (xgr G r).1 = 4) (hi : i = nI j) (hj : j < 4) (hv : (xgr G r).2 j = v) : xMet G B_at [.retAddr r, .int i] hp x 0 0 (xRetV (.int v) hp) := by
  subst hv
  exact S_B_at_ro hr (by rw [hn]; decide) hi (by rw [hn]; exact hj)
section P26
variable {G : xG} {hp : List xE} {x : Nat} {w : Nat → Int32} {sv : Nat → Nat → Int32} {qo qm : Int32} {ql : Int32} {co : Nat → Int32} {sx : xSx} {T : List xE}
theorem S_W_wrongNow {p S : Nat} (W : xWk hp p w) (I : xInv w) (hS : S ≤ 11) : xMet G W_wrongBeadsBy [.ref p, .ref (p + 1), .int (nI S)] hp x 0 0 (xRetV (.int (nI (zwb w (fun k => w (27 + k)) (zI w 4) (zI w 5) S))) hp) :=
  xcast_v (S_W_wrongBeadsBy W I (W.cc I) W.ce I.iR.2.1 I.iR.2.2 I.iC.2.1 I.iC.2.2 hS) (congrArg (fun n => Value.int (nI n)) (zwb_congr I.iR.2.1 I.iC.2.1 I.iC.2.2 fun r c hr hc => xsl_at (by have := I.iR.2.2; have := I.iC.2.2; omega)))
theorem S_B_bestSlant (I : xInv w) (S : xSta G) : xMet G B_bestSlant [.ref 0] (bHp w sv qo qm ql co sx T) x 0 0 (xRetV (.int (zslant w)) (bHp w sv qo qm ql co sx T)) := by
  have loop : ∀ (t n : Nat), n + t = 12 → xW G B_bestSlant (xRetV (.int (zslant w)) (bHp w sv qo qm ql co sx T)) 8 [(3, .int (nI n)), (2, .int (nI (zmin (fun s => zwb w (fun k => w (27 + k)) (zI w 4) (zI w 5) s) (nI 0) 241 n).2)), (1, .int (zmin (fun s => zwb w (fun k => w (27 + k)) (zI w 4) (zI w 5) s) (nI 0) 241 n).1), (0, .ref 0)] [] (bHp w sv qo qm ql co sx T) x 0 0 := by
    intro t
    induction t with
    | zero =>
      intro n hn
      have e : n = 12 := by omega
      subst e
      refine xw_iload_n 9 dX4_bestSlant_8 rfl rfl ?_
      refine xw_getstatic 12 3 dX4_bestSlant_9 rfl (by decide) g_X4_115 ?_
      refine xw_iconst 13 (nI 1) dX4_bestSlant_12 rfl (xofI 1) ?_
      refine xw_pS 16 dX4_bestSlant_13 rfl ok_B_at s_X4_111 (S_B_at_rov (r := 3) (by decide) S.2.2.1 (xofI 1) (by decide) S.2.2.2.2.1) (bHp_len) rfl rfl rfl rfl rfl rfl ?_
      refine xw_icmp_gt 53 19 dX4_bestSlant_16 rfl rfl (fun h16 => ?_) (fun h16 => absurd (by decide) h16)
      refine xw_iload_n 54 dX4_bestSlant_53 rfl rfl ?_
      exact xw_ireturn dX4_bestSlant_54 rfl (⟨rfl, rfl⟩)
    | succ t ih =>
      intro n hn
      have ih := ih (n + 1) (by omega)
      have hle := zmin_le (f := fun s => zwb w (fun k => w (27 + k)) (zI w 4) (zI w 5) s) (b := nI 0) (l := 241) n
      have hwl := zwb_le w (fun k => w (27 + k)) (zI w 4) (zI w 5) n
      have hM := I.iM.2.2
      by_cases h : zwb w (fun k => w (27 + k)) (zI w 4) (zI w 5) n < (zmin (fun s => zwb w (fun k => w (27 + k)) (zI w 4) (zI w 5) s) (nI 0) 241 n).2
      · have e : zmin (fun s => zwb w (fun k => w (27 + k)) (zI w 4) (zI w 5) s) (nI 0) 241 (n + 1) = (nI n, zwb w (fun k => w (27 + k)) (zI w 4) (zI w 5) n) := if_pos h
        rw [e] at ih
        refine xw_iload_n 9 dX4_bestSlant_8 rfl rfl ?_
        refine xw_getstatic 12 3 dX4_bestSlant_9 rfl (by decide) g_X4_115 ?_
        refine xw_iconst 13 (nI 1) dX4_bestSlant_12 rfl (xofI 1) ?_
        refine xw_pS 16 dX4_bestSlant_13 rfl ok_B_at s_X4_111 (S_B_at_rov (r := 3) (by decide) S.2.2.1 (xofI 1) (by decide) S.2.2.2.2.1) (bHp_len) rfl rfl rfl rfl rfl rfl ?_
        refine xw_icmp_gt 53 19 dX4_bestSlant_16 rfl rfl (fun h16 => absurd h16 (nI_nlt (by omega) (by decide))) (fun h16 => ?_)
        refine xw_aload_n 20 dX4_bestSlant_19 rfl rfl rfl ?_
        refine xw_get 23 dX4_bestSlant_20 rfl f_X4_10 (rfl) rfl ?_
        refine xw_aload_n 24 dX4_bestSlant_23 rfl rfl rfl ?_
        refine xw_get 27 dX4_bestSlant_24 rfl f_X4_10 (rfl) rfl ?_
        refine xw_get 30 dX4_bestSlant_27 rfl f_X4_65 (rfl) rfl ?_
        refine xw_iload_n 31 dX4_bestSlant_30 rfl rfl ?_
        refine xw_pVN 34 dX4_bestSlant_31 rfl ok_W_wrongBeadsBy s_X4_264 (S_W_wrongNow bHp_wk I (by omega)) (bHp_len) (rfl) rfl rfl rfl rfl rfl rfl rfl ?_
        refine xw_istore (ls' := [(4, _), (3, _), (2, _), (1, _), (0, _)]) 36 dX4_bestSlant_34 rfl rfl rfl ?_
        refine xw_iload 38 dX4_bestSlant_36 rfl rfl ?_
        refine xw_iload_n 39 dX4_bestSlant_38 rfl rfl ?_
        refine xw_icmp_ge 47 42 dX4_bestSlant_39 rfl rfl (fun h39 => absurd h39 (nI_ge h (by omega))) (fun h39 => ?_)
        refine xw_iload 44 dX4_bestSlant_42 rfl rfl ?_
        refine xw_istore_n (ls' := [(2, _), (4, _), (3, _), (1, _), (0, _)]) 45 dX4_bestSlant_44 rfl rfl rfl ?_
        refine xw_iload_n 46 dX4_bestSlant_45 rfl rfl ?_
        refine xw_istore_n (ls' := [(1, _), (2, _), (4, _), (3, _), (0, _)]) 47 dX4_bestSlant_46 rfl rfl rfl ?_
        refine xw_iinc (ls' := [(3, _), (1, _), (2, _), (4, _), (0, _)]) 50 _ dX4_bestSlant_47 rfl rfl (xnI_inc _) rfl rfl ?_
        refine xw_goto 8 dX4_bestSlant_50 rfl ?_
        exact xW.pick [0, 2, 1, 4] rfl (ih)
      · have e : zmin (fun s => zwb w (fun k => w (27 + k)) (zI w 4) (zI w 5) s) (nI 0) 241 (n + 1) = (zmin (fun s => zwb w (fun k => w (27 + k)) (zI w 4) (zI w 5) s) (nI 0) 241 n) := if_neg h
        rw [e] at ih
        refine xw_iload_n 9 dX4_bestSlant_8 rfl rfl ?_
        refine xw_getstatic 12 3 dX4_bestSlant_9 rfl (by decide) g_X4_115 ?_
        refine xw_iconst 13 (nI 1) dX4_bestSlant_12 rfl (xofI 1) ?_
        refine xw_pS 16 dX4_bestSlant_13 rfl ok_B_at s_X4_111 (S_B_at_rov (r := 3) (by decide) S.2.2.1 (xofI 1) (by decide) S.2.2.2.2.1) (bHp_len) rfl rfl rfl rfl rfl rfl ?_
        refine xw_icmp_gt 53 19 dX4_bestSlant_16 rfl rfl (fun h16 => absurd h16 (nI_nlt (by omega) (by decide))) (fun h16 => ?_)
        refine xw_aload_n 20 dX4_bestSlant_19 rfl rfl rfl ?_
        refine xw_get 23 dX4_bestSlant_20 rfl f_X4_10 (rfl) rfl ?_
        refine xw_aload_n 24 dX4_bestSlant_23 rfl rfl rfl ?_
        refine xw_get 27 dX4_bestSlant_24 rfl f_X4_10 (rfl) rfl ?_
        refine xw_get 30 dX4_bestSlant_27 rfl f_X4_65 (rfl) rfl ?_
        refine xw_iload_n 31 dX4_bestSlant_30 rfl rfl ?_
        refine xw_pVN 34 dX4_bestSlant_31 rfl ok_W_wrongBeadsBy s_X4_264 (S_W_wrongNow bHp_wk I (by omega)) (bHp_len) (rfl) rfl rfl rfl rfl rfl rfl rfl ?_
        refine xw_istore (ls' := [(4, _), (3, _), (2, _), (1, _), (0, _)]) 36 dX4_bestSlant_34 rfl rfl rfl ?_
        refine xw_iload 38 dX4_bestSlant_36 rfl rfl ?_
        refine xw_iload_n 39 dX4_bestSlant_38 rfl rfl ?_
        refine xw_icmp_ge 47 42 dX4_bestSlant_39 rfl rfl (fun h39 => ?_) (fun h39 => absurd (nI_le (Nat.le_of_not_lt h) (by omega)) h39)
        refine xw_iinc (ls' := [(3, _), (4, _), (2, _), (1, _), (0, _)]) 50 _ dX4_bestSlant_47 rfl rfl (xnI_inc _) rfl rfl ?_
        refine xw_goto 8 dX4_bestSlant_50 rfl ?_
        exact xW.pick [0, 2, 3, 4] rfl (ih)
  refine xw_iconst 1 (nI 0) dX4_bestSlant_0 rfl (xofI 0) ?_
  refine xw_istore_n (ls' := [(1, _), (0, _)]) 2 dX4_bestSlant_1 rfl rfl rfl ?_
  refine xw_sipush 5 (nI 241) dX4_bestSlant_2 rfl (by decide) ?_
  refine xw_istore_n (ls' := [(2, _), (1, _), (0, _)]) 6 dX4_bestSlant_5 rfl rfl rfl ?_
  refine xw_iconst 7 (nI 0) dX4_bestSlant_6 rfl (xofI 0) ?_
  refine xw_istore_n (ls' := [(3, _), (2, _), (1, _), (0, _)]) 8 dX4_bestSlant_7 rfl rfl rfl ?_
  exact xW.pick [0, 1, 2, 3] rfl (loop 12 0 rfl)
theorem S_B_bestTurn (I : xInv w) : xMet G B_bestTurn [.ref 0] (bHp w sv qo qm ql co sx T) x 0 0 (fun o hp' => ∃ sx : xSx, hp' = (bHp w sv qo qm ql co sx T) ∧ o = .inl (some (.int (zturnb w)))) := by
  obtain ⟨M1, M2, M3⟩ := I.iM
  obtain ⟨R1, R2, R3⟩ := I.iR
  obtain ⟨C1, C2, C3⟩ := I.iC
  have loop : ∀ (t n : Nat) (sx : xSx), n + t = 5 → xW G B_bestTurn (fun o hp' => ∃ sx : xSx, hp' = (bHp w sv qo qm ql co sx T) ∧ o = .inl (some (.int (zturnb w)))) 33 [(4, .int (nI n)), (3, .int (nI (zmin (zturnf w) (-1) (zwb w (fun k => w (27 + k)) (zI w 4) (zI w 5) (zI w 1)) n).2)), (2, .int (zmin (zturnf w) (-1) (zwb w (fun k => w (27 + k)) (zI w 4) (zI w 5) (zI w 1)) n).1), (1, .int (nI (zI w 1))), (0, .ref 0)] [] (bHp w sv qo qm ql co sx T) x 0 0 := by
    intro t
    induction t with
    | zero =>
      intro n sx hn
      have e : n = 5 := by omega
      subst e
      refine xw_iload 35 dX4_bestTurn_33 rfl rfl ?_
      refine xw_iconst 36 (nI 5) dX4_bestTurn_35 rfl (xofI 5) ?_
      refine xw_icmp_ge 102 39 dX4_bestTurn_36 rfl rfl (fun h36 => ?_) (fun h36 => absurd (by decide) h36)
      refine xw_iload_n 103 dX4_bestTurn_102 rfl rfl ?_
      exact xw_ireturn dX4_bestTurn_103 rfl (⟨sx, rfl, rfl⟩)
    | succ t ih =>
      intro n sx hn
      have hle := zmin_le (f := zturnf w) (b := -1) (l := zwb w (fun k => w (27 + k)) (zI w 4) (zI w 5) (zI w 1)) n
      have hwl := zwb_le w (fun k => w (27 + k)) (zI w 4) (zI w 5) (zI w 1)
      by_cases hcan : n ≠ 4 ∨ zI w 5 ≤ 10
      · have ih := ih (n + 1) (nI (zTR w n), nI (zTC w n), xlay (xtc (xsl w 27 120) (zI w 4) (zI w 5) n) sx.2.2.1 (zTR w n) (zTC w n), sx.2.2.2) (by omega)
        have hf : zturnf w n = zwb w (zT w n) (zTR w n) (zTC w n) (zI w 1) := if_pos hcan
        have hc4 : n = 4 → zI w 5 ≤ 10 := by omega
        have hb1 : 1 ≤ zTR w n := by unfold zTR; split <;> omega
        have hb2 : zTR w n ≤ 10 := by unfold zTR; split <;> omega
        have hb3 : 1 ≤ zTC w n := by unfold zTC; split <;> omega
        have hb4 : zTC w n ≤ 12 := by unfold zTC; split <;> omega
        have hzw : zwb w (xlay (xtc (xsl w 27 120) (zI w 4) (zI w 5) n) sx.2.2.1 (zTR w n) (zTC w n)) (zTR w n) (zTC w n) (zI w 1) = zturnf w n := by
          rw [hf]
          refine zwb_congr hb1 hb3 hb4 fun r c hr hc => ?_
          unfold xlay zT
          rw [show (r * 12 + c) / 12 = r by omega, show (r * 12 + c) % 12 = c by omega, if_pos ⟨hr, hc⟩]
          exact xtc_congr (fun r c hr hc => xsl_at (by omega)) (by omega) hr hc
        have hfl : zturnf w n ≤ zI w 6 := by rw [hf]; exact zwb_le _ _ _ _ _
        by_cases h : zturnf w n < (zmin (zturnf w) (-1) (zwb w (fun k => w (27 + k)) (zI w 4) (zI w 5) (zI w 1)) n).2
        · have e : zmin (zturnf w) (-1) (zwb w (fun k => w (27 + k)) (zI w 4) (zI w 5) (zI w 1)) (n + 1) = (nI n, zturnf w n) := if_pos h
          rw [e] at ih
          refine xw_iload 35 dX4_bestTurn_33 rfl rfl ?_
          refine xw_iconst 36 (nI 5) dX4_bestTurn_35 rfl (xofI 5) ?_
          refine xw_icmp_ge 102 39 dX4_bestTurn_36 rfl rfl (fun h36 => absurd h36 (nI_ge (by omega) (by decide))) (fun h36 => ?_)
          refine xw_aload_n 40 dX4_bestTurn_39 rfl rfl rfl ?_
          refine xw_get 43 dX4_bestTurn_40 rfl f_X4_10 (rfl) rfl ?_
          refine xw_get 46 dX4_bestTurn_43 rfl f_X4_65 (rfl) rfl ?_
          refine xw_iload 48 dX4_bestTurn_46 rfl rfl ?_
          refine xw_pVN 51 dX4_bestTurn_48 rfl ok_C_canTurn s_X4_81 (S_C_canTurn (bHp_wk.cc I) I.iC.2.2 (by omega)) (bHp_len) (rfl) rfl rfl rfl rfl rfl rfl rfl ?_
          refine xw_if_eq 96 54 dX4_bestTurn_51 rfl rfl (fun h51 => absurd h51 (by rw [if_pos hcan]; decide)) (fun h51 => ?_)
          refine xw_aload_n 55 dX4_bestTurn_54 rfl rfl rfl ?_
          refine xw_get 58 dX4_bestTurn_55 rfl f_X4_10 (rfl) rfl ?_
          refine xw_get 61 dX4_bestTurn_58 rfl f_X4_65 (rfl) rfl ?_
          refine xw_aload_n 62 dX4_bestTurn_61 rfl rfl rfl ?_
          refine xw_get 65 dX4_bestTurn_62 rfl f_X4_33 (rfl) rfl ?_
          refine xw_iload 67 dX4_bestTurn_65 rfl rfl ?_
          refine xw_pVNv 70 dX4_bestTurn_67 rfl ok_C_turnInto s_X4_87 ((show xMet _ _ _ _ _ _ _ (xRet none (bHp w sv qo qm ql co (nI (zTR w n), nI (zTC w n), xlay (xtc (xsl w 27 120) (zI w 4) (zI w 5) n) sx.2.2.1 (zTR w n) (zTC w n), sx.2.2.2) T)) from S_C_turnInto (k2 := 68) (q2 := 69) (bHp_wk.cc I) bHp_wk.ce I.iR.2.1 I.iR.2.2 I.iC.2.1 I.iC.2.2 rfl rfl (by decide) (by decide) (by omega) rfl rfl hc4)) (bHp_len) (rfl) rfl rfl rfl rfl rfl rfl rfl ?_
          refine xw_aload_n 71 dX4_bestTurn_70 rfl rfl rfl ?_
          refine xw_get 74 dX4_bestTurn_71 rfl f_X4_10 (rfl) rfl ?_
          refine xw_aload_n 75 dX4_bestTurn_74 rfl rfl rfl ?_
          refine xw_get 78 dX4_bestTurn_75 rfl f_X4_33 (rfl) rfl ?_
          refine xw_iload_n 79 dX4_bestTurn_78 rfl rfl ?_
          refine xw_pVN 82 dX4_bestTurn_79 rfl ok_W_wrongBeadsBy s_X4_264 (xcast_v (S_W_wrongBeadsBy (k := 68) (q := 69) (R := zTR w n) (C := zTC w n) bHp_wk I rfl rfl hb1 hb2 hb3 hb4 I.iS.2.2) (congrArg (fun m => Value.int (nI m)) hzw)) (bHp_len) (rfl) rfl rfl rfl rfl rfl rfl rfl ?_
          refine xw_istore (ls' := [(5, _), (4, _), (3, _), (2, _), (1, _), (0, _)]) 84 dX4_bestTurn_82 rfl rfl rfl ?_
          refine xw_iload 86 dX4_bestTurn_84 rfl rfl ?_
          refine xw_iload_n 87 dX4_bestTurn_86 rfl rfl ?_
          refine xw_icmp_ge 96 90 dX4_bestTurn_87 rfl rfl (fun h87 => absurd h87 (nI_ge h (by omega))) (fun h87 => ?_)
          refine xw_iload 92 dX4_bestTurn_90 rfl rfl ?_
          refine xw_istore_n (ls' := [(3, _), (5, _), (4, _), (2, _), (1, _), (0, _)]) 93 dX4_bestTurn_92 rfl rfl rfl ?_
          refine xw_iload 95 dX4_bestTurn_93 rfl rfl ?_
          refine xw_istore_n (ls' := [(2, _), (3, _), (5, _), (4, _), (1, _), (0, _)]) 96 dX4_bestTurn_95 rfl rfl rfl ?_
          refine xw_iinc (ls' := [(4, _), (2, _), (3, _), (5, _), (1, _), (0, _)]) 99 _ dX4_bestTurn_96 rfl rfl (xnI_inc _) rfl rfl ?_
          refine xw_goto 33 dX4_bestTurn_99 rfl ?_
          exact xW.pick [0, 2, 1, 4, 5] rfl (ih)
        · have e : zmin (zturnf w) (-1) (zwb w (fun k => w (27 + k)) (zI w 4) (zI w 5) (zI w 1)) (n + 1) = (zmin (zturnf w) (-1) (zwb w (fun k => w (27 + k)) (zI w 4) (zI w 5) (zI w 1)) n) := if_neg h
          rw [e] at ih
          refine xw_iload 35 dX4_bestTurn_33 rfl rfl ?_
          refine xw_iconst 36 (nI 5) dX4_bestTurn_35 rfl (xofI 5) ?_
          refine xw_icmp_ge 102 39 dX4_bestTurn_36 rfl rfl (fun h36 => absurd h36 (nI_ge (by omega) (by decide))) (fun h36 => ?_)
          refine xw_aload_n 40 dX4_bestTurn_39 rfl rfl rfl ?_
          refine xw_get 43 dX4_bestTurn_40 rfl f_X4_10 (rfl) rfl ?_
          refine xw_get 46 dX4_bestTurn_43 rfl f_X4_65 (rfl) rfl ?_
          refine xw_iload 48 dX4_bestTurn_46 rfl rfl ?_
          refine xw_pVN 51 dX4_bestTurn_48 rfl ok_C_canTurn s_X4_81 (S_C_canTurn (bHp_wk.cc I) I.iC.2.2 (by omega)) (bHp_len) (rfl) rfl rfl rfl rfl rfl rfl rfl ?_
          refine xw_if_eq 96 54 dX4_bestTurn_51 rfl rfl (fun h51 => absurd h51 (by rw [if_pos hcan]; decide)) (fun h51 => ?_)
          refine xw_aload_n 55 dX4_bestTurn_54 rfl rfl rfl ?_
          refine xw_get 58 dX4_bestTurn_55 rfl f_X4_10 (rfl) rfl ?_
          refine xw_get 61 dX4_bestTurn_58 rfl f_X4_65 (rfl) rfl ?_
          refine xw_aload_n 62 dX4_bestTurn_61 rfl rfl rfl ?_
          refine xw_get 65 dX4_bestTurn_62 rfl f_X4_33 (rfl) rfl ?_
          refine xw_iload 67 dX4_bestTurn_65 rfl rfl ?_
          refine xw_pVNv 70 dX4_bestTurn_67 rfl ok_C_turnInto s_X4_87 ((show xMet _ _ _ _ _ _ _ (xRet none (bHp w sv qo qm ql co (nI (zTR w n), nI (zTC w n), xlay (xtc (xsl w 27 120) (zI w 4) (zI w 5) n) sx.2.2.1 (zTR w n) (zTC w n), sx.2.2.2) T)) from S_C_turnInto (k2 := 68) (q2 := 69) (bHp_wk.cc I) bHp_wk.ce I.iR.2.1 I.iR.2.2 I.iC.2.1 I.iC.2.2 rfl rfl (by decide) (by decide) (by omega) rfl rfl hc4)) (bHp_len) (rfl) rfl rfl rfl rfl rfl rfl rfl ?_
          refine xw_aload_n 71 dX4_bestTurn_70 rfl rfl rfl ?_
          refine xw_get 74 dX4_bestTurn_71 rfl f_X4_10 (rfl) rfl ?_
          refine xw_aload_n 75 dX4_bestTurn_74 rfl rfl rfl ?_
          refine xw_get 78 dX4_bestTurn_75 rfl f_X4_33 (rfl) rfl ?_
          refine xw_iload_n 79 dX4_bestTurn_78 rfl rfl ?_
          refine xw_pVN 82 dX4_bestTurn_79 rfl ok_W_wrongBeadsBy s_X4_264 (xcast_v (S_W_wrongBeadsBy (k := 68) (q := 69) (R := zTR w n) (C := zTC w n) bHp_wk I rfl rfl hb1 hb2 hb3 hb4 I.iS.2.2) (congrArg (fun m => Value.int (nI m)) hzw)) (bHp_len) (rfl) rfl rfl rfl rfl rfl rfl rfl ?_
          refine xw_istore (ls' := [(5, _), (4, _), (3, _), (2, _), (1, _), (0, _)]) 84 dX4_bestTurn_82 rfl rfl rfl ?_
          refine xw_iload 86 dX4_bestTurn_84 rfl rfl ?_
          refine xw_iload_n 87 dX4_bestTurn_86 rfl rfl ?_
          refine xw_icmp_ge 96 90 dX4_bestTurn_87 rfl rfl (fun h87 => ?_) (fun h87 => absurd (nI_le (Nat.le_of_not_lt h) (by omega)) h87)
          refine xw_iinc (ls' := [(4, _), (5, _), (3, _), (2, _), (1, _), (0, _)]) 99 _ dX4_bestTurn_96 rfl rfl (xnI_inc _) rfl rfl ?_
          refine xw_goto 33 dX4_bestTurn_99 rfl ?_
          exact xW.pick [0, 2, 3, 4, 5] rfl (ih)
      · have ih := ih (n + 1) sx (by omega)
        have hf : zturnf w n = 100000 := if_neg hcan
        have e : zmin (zturnf w) (-1) (zwb w (fun k => w (27 + k)) (zI w 4) (zI w 5) (zI w 1)) (n + 1) = (zmin (zturnf w) (-1) (zwb w (fun k => w (27 + k)) (zI w 4) (zI w 5) (zI w 1)) n) := if_neg (by omega)
        rw [e] at ih
        refine xw_iload 35 dX4_bestTurn_33 rfl rfl ?_
        refine xw_iconst 36 (nI 5) dX4_bestTurn_35 rfl (xofI 5) ?_
        refine xw_icmp_ge 102 39 dX4_bestTurn_36 rfl rfl (fun h36 => absurd h36 (nI_ge (by omega) (by decide))) (fun h36 => ?_)
        refine xw_aload_n 40 dX4_bestTurn_39 rfl rfl rfl ?_
        refine xw_get 43 dX4_bestTurn_40 rfl f_X4_10 (rfl) rfl ?_
        refine xw_get 46 dX4_bestTurn_43 rfl f_X4_65 (rfl) rfl ?_
        refine xw_iload 48 dX4_bestTurn_46 rfl rfl ?_
        refine xw_pVN 51 dX4_bestTurn_48 rfl ok_C_canTurn s_X4_81 (S_C_canTurn (bHp_wk.cc I) I.iC.2.2 (by omega)) (bHp_len) (rfl) rfl rfl rfl rfl rfl rfl rfl ?_
        refine xw_if_eq 96 54 dX4_bestTurn_51 rfl rfl (fun h51 => ?_) (fun h51 => absurd (by rw [if_neg hcan]; rfl) h51)
        refine xw_iinc (ls' := [(4, _), (3, _), (2, _), (1, _), (0, _)]) 99 _ dX4_bestTurn_96 rfl rfl (xnI_inc _) rfl rfl ?_
        refine xw_goto 33 dX4_bestTurn_99 rfl ?_
        exact xW.pick [0, 1, 2, 3, 4] rfl (ih)
  refine xw_aload_n 1 dX4_bestTurn_0 rfl rfl rfl ?_
  refine xw_get 4 dX4_bestTurn_1 rfl f_X4_10 (rfl) rfl ?_
  refine xw_get 7 dX4_bestTurn_4 rfl f_X4_120 (rfl) rfl ?_
  refine xw_iconst 8 (nI 1) dX4_bestTurn_7 rfl (xofI 1) ?_
  refine xw_pS 11 dX4_bestTurn_8 rfl ok_B_at s_X4_111 (S_B_ats bHp_wk.se (j := 1) (by decide) rfl (by decide) I.iS.1) (bHp_len) rfl rfl rfl rfl rfl rfl ?_
  refine xw_istore_n (ls' := [(1, _), (0, _)]) 12 dX4_bestTurn_11 rfl rfl rfl ?_
  refine xw_iconst 13 (-1) dX4_bestTurn_12 rfl rfl ?_
  refine xw_istore_n (ls' := [(2, _), (1, _), (0, _)]) 14 dX4_bestTurn_13 rfl rfl rfl ?_
  refine xw_aload_n 15 dX4_bestTurn_14 rfl rfl rfl ?_
  refine xw_get 18 dX4_bestTurn_15 rfl f_X4_10 (rfl) rfl ?_
  refine xw_aload_n 19 dX4_bestTurn_18 rfl rfl rfl ?_
  refine xw_get 22 dX4_bestTurn_19 rfl f_X4_10 (rfl) rfl ?_
  refine xw_get 25 dX4_bestTurn_22 rfl f_X4_65 (rfl) rfl ?_
  refine xw_iload_n 26 dX4_bestTurn_25 rfl rfl ?_
  refine xw_pVN 29 dX4_bestTurn_26 rfl ok_W_wrongBeadsBy s_X4_264 (S_W_wrongNow bHp_wk I I.iS.2.2) (bHp_len) (rfl) rfl rfl rfl rfl rfl rfl rfl ?_
  refine xw_istore_n (ls' := [(3, _), (2, _), (1, _), (0, _)]) 30 dX4_bestTurn_29 rfl rfl rfl ?_
  refine xw_iconst 31 (nI 0) dX4_bestTurn_30 rfl (xofI 0) ?_
  refine xw_istore (ls' := [(4, _), (3, _), (2, _), (1, _), (0, _)]) 33 dX4_bestTurn_31 rfl rfl rfl ?_
  exact xW.pick [0, 1, 2, 3, 4] rfl (loop 5 0 sx rfl)
end P26

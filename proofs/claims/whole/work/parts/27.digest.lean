/-! ===== the workshop: the digest ===== -/
def hdig1 (z : Nat → Int32) (many : Int32) : Int64 :=
  hmx (hmx (hmx (hmx (hpla z (hfo2 (fun b k => zstrand z b k) 4 (zI z 7) (hfo2 (fun b k => zbead z b k) 4 (zI z 6) (hcol z 6 (hfo2 (fun r c => z (27 + (r * 12 + c))) (zI z 5) (zI z 4) (hfo (fun k => z k) 4 (hfo (znum z many) 13 2351))))))) (xoI (xfnd (zwr z) 0 (zI z 6)))) (nI (zkeep z (zI z 6)))) (zslant z)) (zturnb z)
def hdig (z : Nat → Int32) (many : Int32) (co : Nat → Int32) (ln : Nat) : Int64 := hfo co ln (hmx (31 * hdig1 z many + (zshare z).toInt64) (nI ln))
section P27
variable {G : xG} {x : Nat} {w : Nat → Int32} {sv : Nat → Nat → Int32} {qo qm : Int32} {co : Nat → Int32} {sx : xSx} {T : List xE}
theorem S_B_digest {ln : Nat} (I : xInv w) (S : xSta G) (hl : ln ≤ 60) : xMet G B_digest [.ref 0] (bHp w sv qo qm (nI ln) co sx T) x 0 0 (fun o hp' => ∃ sx : xSx, hp' = (bHp w sv qo qm (nI ln) co sx T) ∧ o = .inl (some (.long (hdig w qm co ln)))) := by
  have loop2 : ∀ (t n : Nat), n + t = 4 → xW G B_digest (fun o hp' => ∃ sx : xSx, hp' = (bHp w sv qo qm (nI ln) co sx T) ∧ o = .inl (some (.long (hdig w qm co ln)))) 31 [(3, .int (nI n)), (1, .long (hfo (fun k => w k) n (hfo (znum w qm) 13 2351))), (0, .ref 0)] [] (bHp w sv qo qm (nI ln) co sx T) x 0 0 := by
    intro t
    induction t with
    | zero =>
      intro n hn
      have e : n = 4 := by omega
      subst e
      refine xw_iload_n 32 dX4_digest_31 rfl rfl ?_
      refine xw_iconst 33 (nI 4) dX4_digest_32 rfl (xofI 4) ?_
      refine xw_icmp_ge 59 36 dX4_digest_33 rfl rfl (fun h33 => ?_) (fun h33 => absurd (by decide) h33)
      refine xw_aload_n 60 dX4_digest_59 rfl rfl rfl ?_
      refine xw_lload_n 61 dX4_digest_60 rfl rfl ?_
      refine xw_pV 64 dX4_digest_61 rfl ok_B_hashOfCells s_X4_277 (S_B_hashOfCells I) (bHp_len) (rfl) rfl rfl rfl rfl rfl rfl rfl ?_
      refine xw_lstore_n (ls' := [(1, _), (3, _), (0, _)]) 65 dX4_digest_64 rfl rfl rfl ?_
      refine xw_aload_n 66 dX4_digest_65 rfl rfl rfl ?_
      refine xw_lload_n 67 dX4_digest_66 rfl rfl ?_
      refine xw_pV 70 dX4_digest_67 rfl ok_B_hashOfColours s_X4_281 (S_B_hashOfColours I) (bHp_len) (rfl) rfl rfl rfl rfl rfl rfl rfl ?_
      refine xw_lstore_n (ls' := [(1, _), (3, _), (0, _)]) 71 dX4_digest_70 rfl rfl rfl ?_
      refine xw_aload_n 72 dX4_digest_71 rfl rfl rfl ?_
      refine xw_lload_n 73 dX4_digest_72 rfl rfl ?_
      refine xw_pV 76 dX4_digest_73 rfl ok_B_hashOfBeads s_X4_284 (S_B_hashOfBeads I) (bHp_len) (rfl) rfl rfl rfl rfl rfl rfl rfl ?_
      refine xw_lstore_n (ls' := [(1, _), (3, _), (0, _)]) 77 dX4_digest_76 rfl rfl rfl ?_
      refine xw_aload_n 78 dX4_digest_77 rfl rfl rfl ?_
      refine xw_lload_n 79 dX4_digest_78 rfl rfl ?_
      refine xw_pV 82 dX4_digest_79 rfl ok_B_hashOfStrings s_X4_287 (S_B_hashOfStrings I) (bHp_len) (rfl) rfl rfl rfl rfl rfl rfl rfl ?_
      refine xw_lstore_n (ls' := [(1, _), (3, _), (0, _)]) 83 dX4_digest_82 rfl rfl rfl ?_
      refine xw_aload_n 84 dX4_digest_83 rfl rfl rfl ?_
      refine xw_lload_n 85 dX4_digest_84 rfl rfl ?_
      refine xw_pV 88 dX4_digest_85 rfl ok_B_hashOfPlans s_X4_290 (S_B_hashOfPlans I) (bHp_len) (rfl) rfl rfl rfl rfl rfl rfl rfl ?_
      refine xw_lstore_n (ls' := [(1, _), (3, _), (0, _)]) 89 dX4_digest_88 rfl rfl rfl ?_
      refine xw_lload_n 90 dX4_digest_89 rfl rfl ?_
      refine xw_aload_n 91 dX4_digest_90 rfl rfl rfl ?_
      refine xw_pV 94 dX4_digest_91 rfl ok_B_firstWrong s_X4_293 (S_B_firstWrong I) (bHp_len) (rfl) rfl rfl rfl rfl rfl rfl rfl ?_
      refine xw_i2l 95 dX4_digest_94 rfl ?_
      refine xw_pS 98 dX4_digest_95 rfl ok_B_mixed s_X4_273 (S_B_mixed) (bHp_len) rfl rfl rfl rfl rfl rfl ?_
      refine xw_lstore_n (ls' := [(1, _), (3, _), (0, _)]) 99 dX4_digest_98 rfl rfl rfl ?_
      refine xw_lload_n 100 dX4_digest_99 rfl rfl ?_
      refine xw_aload_n 101 dX4_digest_100 rfl rfl rfl ?_
      refine xw_pV 104 dX4_digest_101 rfl ok_B_bestCrush s_X4_296 (S_B_bestCrush I) (bHp_len) (rfl) rfl rfl rfl rfl rfl rfl rfl ?_
      refine xw_i2l 105 dX4_digest_104 rfl ?_
      refine xw_pS 108 dX4_digest_105 rfl ok_B_mixed s_X4_273 (S_B_mixed) (bHp_len) rfl rfl rfl rfl rfl rfl ?_
      refine xw_lstore_n (ls' := [(1, _), (3, _), (0, _)]) 109 dX4_digest_108 rfl rfl rfl ?_
      refine xw_lload_n 110 dX4_digest_109 rfl rfl ?_
      refine xw_aload_n 111 dX4_digest_110 rfl rfl rfl ?_
      refine xw_pV 114 dX4_digest_111 rfl ok_B_bestSlant s_X4_299 (S_B_bestSlant I S) (bHp_len) (rfl) rfl rfl rfl rfl rfl rfl rfl ?_
      refine xw_i2l 115 dX4_digest_114 rfl ?_
      refine xw_pS 118 dX4_digest_115 rfl ok_B_mixed s_X4_273 (S_B_mixed) (bHp_len) rfl rfl rfl rfl rfl rfl ?_
      refine xw_lstore_n (ls' := [(1, _), (3, _), (0, _)]) 119 dX4_digest_118 rfl rfl rfl ?_
      refine xw_lload_n 120 dX4_digest_119 rfl rfl ?_
      refine xw_aload_n 121 dX4_digest_120 rfl rfl rfl ?_
      refine xw_qV 124 dX4_digest_121 rfl ok_B_bestTurn s_X4_302 (S_B_bestTurn I) (fun E hp9 q9 => by obtain ⟨sx9, _, q9⟩ := q9; cases q9) (fun o9 hp9 q9 => by obtain ⟨sx9, q9, _⟩ := q9; rw [q9]; exact bHp_len) (rfl) rfl rfl rfl rfl rfl rfl rfl (fun ov9 hp9 q9 => ?_)
      obtain ⟨sx1, e1, e2⟩ := q9
      subst e1
      cases e2
      simp only [Option.toList_some, List.cons_append, List.nil_append]
      refine xw_i2l 125 dX4_digest_124 rfl ?_
      refine xw_pS 128 dX4_digest_125 rfl ok_B_mixed s_X4_273 (S_B_mixed) (bHp_len) rfl rfl rfl rfl rfl rfl ?_
      refine xw_lstore_n (ls' := [(1, _), (3, _), (0, _)]) 129 dX4_digest_128 rfl rfl rfl ?_
      refine xw_lload_n 130 dX4_digest_129 rfl rfl ?_
      refine xw_aload_n 131 dX4_digest_130 rfl rfl rfl ?_
      refine xw_pV 134 dX4_digest_131 rfl ok_B_wrongShare s_X4_305 (S_B_wrongShare I) (bHp_len) (rfl) rfl rfl rfl rfl rfl rfl rfl ?_
      refine xw_pS 137 dX4_digest_134 rfl ok_B_bitsOf s_X4_309 (S_B_bitsZ I) (bHp_len) rfl rfl rfl rfl rfl rfl ?_
      refine xw_pS 140 dX4_digest_137 rfl ok_B_mixed s_X4_273 (S_B_mixed) (bHp_len) rfl rfl rfl rfl rfl rfl ?_
      refine xw_lstore_n (ls' := [(1, _), (3, _), (0, _)]) 141 dX4_digest_140 rfl rfl rfl ?_
      refine xw_aload_n 142 dX4_digest_141 rfl rfl rfl ?_
      refine xw_lload_n 143 dX4_digest_142 rfl rfl ?_
      refine xw_pV 146 dX4_digest_143 rfl ok_B_hashOfBuffer s_X4_313 (S_B_hashOfBuffer hl) (bHp_len) (rfl) rfl rfl rfl rfl rfl rfl rfl ?_
      exact xw_lreturn dX4_digest_146 rfl (⟨sx1, rfl, rfl⟩)
    | succ t ih =>
      intro n hn
      have ih := ih (n + 1) (by omega)
      refine xw_iload_n 32 dX4_digest_31 rfl rfl ?_
      refine xw_iconst 33 (nI 4) dX4_digest_32 rfl (xofI 4) ?_
      refine xw_icmp_ge 59 36 dX4_digest_33 rfl rfl (fun h33 => absurd h33 (nI_ge (by omega) (by decide))) (fun h33 => ?_)
      refine xw_lload_n 37 dX4_digest_36 rfl rfl ?_
      refine xw_aload_n 38 dX4_digest_37 rfl rfl rfl ?_
      refine xw_get 41 dX4_digest_38 rfl f_X4_10 (rfl) rfl ?_
      refine xw_get 44 dX4_digest_41 rfl f_X4_120 (rfl) rfl ?_
      refine xw_iload_n 45 dX4_digest_44 rfl rfl ?_
      refine xw_pS 48 dX4_digest_45 rfl ok_B_at s_X4_111 (S_B_ats bHp_wk.se (j := n) (by decide) rfl (by omega) (congrArg w (Nat.zero_add n))) (bHp_len) rfl rfl rfl rfl rfl rfl ?_
      refine xw_i2l 49 dX4_digest_48 rfl ?_
      refine xw_pS 52 dX4_digest_49 rfl ok_B_mixed s_X4_273 (S_B_mixed) (bHp_len) rfl rfl rfl rfl rfl rfl ?_
      refine xw_lstore_n (ls' := [(1, _), (3, _), (0, _)]) 53 dX4_digest_52 rfl rfl rfl ?_
      refine xw_iinc (ls' := [(3, _), (1, _), (0, _)]) 56 _ dX4_digest_53 rfl rfl (xnI_inc _) rfl rfl ?_
      refine xw_goto 31 dX4_digest_56 rfl ?_
      exact xW.pick [0, 1, 2] rfl (ih)
  have loop1 : ∀ (t n : Nat), n + t = 13 → xW G B_digest (fun o hp' => ∃ sx : xSx, hp' = (bHp w sv qo qm (nI ln) co sx T) ∧ o = .inl (some (.long (hdig w qm co ln)))) 6 [(3, .int (nI n)), (1, .long (hfo (znum w qm) n 2351)), (0, .ref 0)] [] (bHp w sv qo qm (nI ln) co sx T) x 0 0 := by
    intro t
    induction t with
    | zero =>
      intro n hn
      have e : n = 13 := by omega
      subst e
      refine xw_iload_n 7 dX4_digest_6 rfl rfl ?_
      refine xw_bipush 9 (nI 13) dX4_digest_7 rfl (by decide) ?_
      refine xw_icmp_ge 29 12 dX4_digest_9 rfl rfl (fun h9 => ?_) (fun h9 => absurd (by decide) h9)
      refine xw_iconst 30 (nI 0) dX4_digest_29 rfl (xofI 0) ?_
      refine xw_istore_n (ls' := [(3, _), (1, _), (0, _)]) 31 dX4_digest_30 rfl rfl rfl ?_
      exact xW.pick [0, 1, 2] rfl (loop2 4 0 rfl)
    | succ t ih =>
      intro n hn
      have ih := ih (n + 1) (by omega)
      refine xw_iload_n 7 dX4_digest_6 rfl rfl ?_
      refine xw_bipush 9 (nI 13) dX4_digest_7 rfl (by decide) ?_
      refine xw_icmp_ge 29 12 dX4_digest_9 rfl rfl (fun h9 => absurd h9 (nI_ge (by omega) (by decide))) (fun h9 => ?_)
      refine xw_lload_n 13 dX4_digest_12 rfl rfl ?_
      refine xw_aload_n 14 dX4_digest_13 rfl rfl rfl ?_
      refine xw_iload_n 15 dX4_digest_14 rfl rfl ?_
      refine xw_pV 18 dX4_digest_15 rfl ok_B_numberOf s_X4_241 (S_B_numberOf I (by omega)) (bHp_len) (rfl) rfl rfl rfl rfl rfl rfl rfl ?_
      refine xw_i2l 19 dX4_digest_18 rfl ?_
      refine xw_pS 22 dX4_digest_19 rfl ok_B_mixed s_X4_273 (S_B_mixed) (bHp_len) rfl rfl rfl rfl rfl rfl ?_
      refine xw_lstore_n (ls' := [(1, _), (3, _), (0, _)]) 23 dX4_digest_22 rfl rfl rfl ?_
      refine xw_iinc (ls' := [(3, _), (1, _), (0, _)]) 26 _ dX4_digest_23 rfl rfl (xnI_inc _) rfl rfl ?_
      refine xw_goto 6 dX4_digest_26 rfl ?_
      exact xW.pick [0, 1, 2] rfl (ih)
  refine xw_ldc2 3 dX4_digest_0 rfl k_X4_271 ?_
  refine xw_lstore_n (ls' := [(1, _), (0, _)]) 4 dX4_digest_3 rfl rfl rfl ?_
  refine xw_iconst 5 (nI 0) dX4_digest_4 rfl (xofI 0) ?_
  refine xw_istore_n (ls' := [(3, _), (1, _), (0, _)]) 6 dX4_digest_5 rfl rfl rfl ?_
  exact xW.pick [0, 1, 2] rfl (loop1 13 0 rfl)
end P27

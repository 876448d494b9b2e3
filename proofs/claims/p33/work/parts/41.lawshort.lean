/-! ===== the law: its short methods ===== -/
theorem xus_1 (a : Int32) : xus a (nI 1) = nI (a.toBitVec.toNat / 2) := by
  have h := pk_ushr a (nI 1) 1 (by decide +kernel)
  apply Int32.toBitVec_inj.mp
  apply BitVec.eq_of_toNat_eq
  have h2 := a.toBitVec.isLt
  rw [pk_tn (by omega)]
  unfold xus
  rw [h]
def lat (a : Int32) (n : Nat) : Nat := a.toBitVec.toNat / 2 % n
theorem lat_lt {a : Int32} {n : Nat} (h : 0 < n) : lat a n < n := Nat.mod_lt _ h
def lcell (G : xG) (k : Nat) : Int32 := if k < (xgr G 0).1 then (xgr G 0).2 k else (625341585 : Int32) * (nI k + nI 73)
section P41
variable {G : xG} {hp h1 : List xE} {x k N i : Nat} {f : Nat → Int32}
theorem S_L_at {a : Int32} {n : Nat} (h0 : 0 < n) (h1 : n < 2 ^ 31) : xMet G L_at [.int a, .int (nI n)] hp x 0 0 (xRetV (.int (nI (lat a n))) hp) := by
  refine xw_iload_n 1 dL_at_0 rfl rfl ?_
  refine xw_iconst 2 (nI 1) dL_at_1 rfl (xofI 1) ?_
  refine xw_iushr 3 dL_at_2 rfl ?_
  refine xw_iload_n 4 dL_at_3 rfl rfl ?_
  refine xw_irem 5 dL_at_4 rfl (nI_ne0 h0 h1) ?_
  rw [xus_1, pk_rem (by have := a.toBitVec.isLt; omega) h0 h1]
  exact xw_ireturn dL_at_5 rfl (⟨rfl, rfl⟩)
theorem S_L_cell (h15 : (xgr G 0).1 ≤ 260) (hk : k ≤ 1000) : xMet G L_cell [.retAddr 0, .int (nI k)] hp x 0 0 (xRetV (.int (lcell G k)) hp) := by
  unfold lcell
  by_cases g0 : k < (xgr G 0).1
  · rw [if_pos g0]
    refine xw_iload_n 1 dL_cell_0 rfl rfl ?_
    refine xw_aload_n 2 dL_cell_1 rfl rfl rfl ?_
    refine xw_alenR 3 dL_cell_2 rfl (by decide) ?_
    refine xw_icmp_ge 12 6 dL_cell_3 rfl rfl (fun h3 => absurd h3 (nI_ge g0 (by omega))) (fun h3 => ?_)
    refine xw_aload_n 7 dL_cell_6 rfl rfl rfl ?_
    refine xw_iload_n 8 dL_cell_7 rfl rfl ?_
    refine xw_ialoadR (j := k) 9 dL_cell_8 rfl (by decide) (rfl) (g0) (by omega) ?_
    refine xw_goto 19 dL_cell_9 rfl ?_
    exact xw_ireturn dL_cell_19 rfl (⟨rfl, rfl⟩)
  · rw [if_neg g0]
    refine xw_iload_n 1 dL_cell_0 rfl rfl ?_
    refine xw_aload_n 2 dL_cell_1 rfl rfl rfl ?_
    refine xw_alenR 3 dL_cell_2 rfl (by decide) ?_
    refine xw_icmp_ge 12 6 dL_cell_3 rfl rfl (fun h3 => ?_) (fun h3 => absurd (nI_le (by omega) (by omega)) h3)
    refine xw_ldc 14 dL_cell_12 rfl k_L_7 ?_
    refine xw_iload_n 15 dL_cell_14 rfl rfl ?_
    refine xw_bipush 17 (nI 73) dL_cell_15 rfl (by decide) ?_
    refine xw_iadd 18 dL_cell_17 rfl ?_
    refine xw_imul 19 dL_cell_18 rfl ?_
    exact xw_ireturn dL_cell_19 rfl (⟨rfl, rfl⟩)
theorem S_L_colour (hf : hp[k]? = some (.inl (0, N, .inl f))) (hi : i ≤ 10000) (hj : i / 10 < N) : xMet G L_colour [.ref k, .int (nI i)] hp x 0 0 (xRetV (.int (bcol f i)) hp) := by
  refine xw_aload_n 1 dL_colour_0 rfl rfl rfl ?_
  refine xw_iload_n 2 dL_colour_1 rfl rfl ?_
  refine xw_bipush 4 (nI 10) dL_colour_2 rfl (by decide) ?_
  refine xw_idiv 5 dL_colour_4 rfl (nI_ne0 (by decide) (by decide)) ?_
  refine xw_iaload (j := i / 10) 6 dL_colour_5 rfl (hf) (pk_div (by omega) (by decide) (by decide)) (hj) (by omega) ?_
  refine xw_iconst 7 (nI 3) dL_colour_6 rfl (xofI 3) ?_
  refine xw_iload_n 8 dL_colour_7 rfl rfl ?_
  refine xw_bipush 10 (nI 10) dL_colour_8 rfl (by decide) ?_
  refine xw_irem 11 dL_colour_10 rfl (nI_ne0 (by decide) (by decide)) ?_
  refine xw_imul 12 dL_colour_11 rfl ?_
  rw [pk_rem (a := i) (by omega) (by decide) (by decide), pk_mul]
  refine xw_ishr 13 dL_colour_12 rfl ?_
  refine xw_bipush 15 (nI 7) dL_colour_13 rfl (by decide) ?_
  refine xw_iand 16 dL_colour_15 rfl ?_
  exact xw_ireturn dL_colour_16 rfl (⟨rfl, rfl⟩)
theorem S_L_put {c : Nat} (hf : hp[k]? = some (.inl (0, N, .inl f))) (hi : i ≤ 10000) (hj : i / 10 < N) (hh : hp.set k (.inl (0, N, .inl (lput f i c))) = h1) : xMet G L_put [.ref k, .int (nI i), .int (nI c)] hp x 0 0 (xRet none h1) := by
  refine xw_aload_n 1 dL_put_0 rfl rfl rfl ?_
  refine xw_iload_n 2 dL_put_1 rfl rfl ?_
  refine xw_bipush 4 (nI 10) dL_put_2 rfl (by decide) ?_
  refine xw_idiv 5 dL_put_4 rfl (nI_ne0 (by decide) (by decide)) ?_
  refine xw_aload_n 6 dL_put_5 rfl rfl rfl ?_
  refine xw_iload_n 7 dL_put_6 rfl rfl ?_
  refine xw_bipush 9 (nI 10) dL_put_7 rfl (by decide) ?_
  refine xw_idiv 10 dL_put_9 rfl (nI_ne0 (by decide) (by decide)) ?_
  refine xw_iaload (j := i / 10) 11 dL_put_10 rfl (hf) (pk_div (by omega) (by decide) (by decide)) (hj) (by omega) ?_
  refine xw_bipush 13 (nI 7) dL_put_11 rfl (by decide) ?_
  refine xw_iconst 14 (nI 3) dL_put_13 rfl (xofI 3) ?_
  refine xw_iload_n 15 dL_put_14 rfl rfl ?_
  refine xw_bipush 17 (nI 10) dL_put_15 rfl (by decide) ?_
  refine xw_irem 18 dL_put_17 rfl (nI_ne0 (by decide) (by decide)) ?_
  refine xw_imul 19 dL_put_18 rfl ?_
  rw [pk_rem (a := i) (by omega) (by decide) (by decide), pk_mul]
  refine xw_ishl 20 dL_put_19 rfl ?_
  refine xw_iconst 21 (-1) dL_put_20 rfl rfl ?_
  refine xw_ixor 22 dL_put_21 rfl ?_
  refine xw_iand 23 dL_put_22 rfl ?_
  refine xw_iload_n 24 dL_put_23 rfl rfl ?_
  refine xw_iconst 25 (nI 3) dL_put_24 rfl (xofI 3) ?_
  refine xw_iload_n 26 dL_put_25 rfl rfl ?_
  refine xw_bipush 28 (nI 10) dL_put_26 rfl (by decide) ?_
  refine xw_irem 29 dL_put_28 rfl (nI_ne0 (by decide) (by decide)) ?_
  refine xw_imul 30 dL_put_29 rfl ?_
  rw [pk_rem (a := i) (by omega) (by decide) (by decide), pk_mul]
  refine xw_ishl 31 dL_put_30 rfl ?_
  refine xw_ior 32 dL_put_31 rfl ?_
  refine xw_iastore (j := i / 10) 33 dL_put_32 rfl (hf) (pk_div (by omega) (by decide) (by decide)) (hj) (by omega) (hh) ?_
  exact xw_return dL_put_33 rfl (⟨rfl, rfl⟩)
theorem S_L_told {kn kc b R C A S : Nat} {n ch : Nat → Int32} (hn : hp[kn]? = some (.inl (0, 28, .inl n))) (hc : hp[kc]? = some (.inl (0, 12, .inl ch))) (v0 : n 0 = nI R) (v1 : n 1 = nI C) (v2 : n 2 = nI A) (v3 : n 3 = nI S) (hR1 : 1 ≤ R) (hR2 : R ≤ 10) (hC1 : 1 ≤ C) (hC2 : C ≤ 12) (hA1 : 1 ≤ A) (hA2 : A ≤ 15) (hS2 : S ≤ 11) (hb : b ≤ 1000) : xMet G L_told [.ref kn, .ref kc, .int (nI b)] hp x 0 0 (xRetV (.int (bcol ch (xpl A S R C b))) hp) := by
  have e0 : b / A ≤ b := Nat.div_le_self b A
  have e1 : b % A ≤ b := Nat.mod_le b A
  have e2 : S * (b / A) ≤ 11 * b := Nat.mul_le_mul hS2 e0
  have e3 := Nat.mod_lt (b / A) (show R > 0 from hR1)
  have e4 := Nat.mod_lt (b % A + S * (b / A)) (show C > 0 from hC1)
  have e5 : xpl A S R C b = 12 * (b / A % R) + (b % A + S * (b / A)) % C := by
    unfold xpl
    rw [Nat.mul_comm 12]
  rw [e5]
  refine xw_iload_n 1 dL_told_0 rfl rfl ?_
  refine xw_aload_n 2 dL_told_1 rfl rfl rfl ?_
  refine xw_iconst 3 (nI 2) dL_told_2 rfl (xofI 2) ?_
  refine xw_ialv (j := 2) 4 dL_told_3 rfl (hn) (rfl) (by decide) (by decide) (v2) ?_
  refine xw_idiv 5 dL_told_4 rfl (nI_ne0 hA1 (by omega)) ?_
  rw [pk_div (by omega) hA1 (by omega)]
  refine xw_istore_n (ls' := [(3, _), (0, _), (1, _), (2, _)]) 6 dL_told_5 rfl rfl rfl ?_
  refine xw_iload_n 7 dL_told_6 rfl rfl ?_
  refine xw_aload_n 8 dL_told_7 rfl rfl rfl ?_
  refine xw_iconst 9 (nI 0) dL_told_8 rfl (xofI 0) ?_
  refine xw_ialv (j := 0) 10 dL_told_9 rfl (hn) (rfl) (by decide) (by decide) (v0) ?_
  refine xw_irem 11 dL_told_10 rfl (nI_ne0 hR1 (by omega)) ?_
  rw [pk_rem (by omega) hR1 (by omega)]
  refine xw_istore (ls' := [(4, _), (3, _), (0, _), (1, _), (2, _)]) 13 dL_told_11 rfl rfl rfl ?_
  refine xw_iload_n 14 dL_told_13 rfl rfl ?_
  refine xw_aload_n 15 dL_told_14 rfl rfl rfl ?_
  refine xw_iconst 16 (nI 2) dL_told_15 rfl (xofI 2) ?_
  refine xw_ialv (j := 2) 17 dL_told_16 rfl (hn) (rfl) (by decide) (by decide) (v2) ?_
  refine xw_irem 18 dL_told_17 rfl (nI_ne0 hA1 (by omega)) ?_
  rw [pk_rem (by omega) hA1 (by omega)]
  refine xw_aload_n 19 dL_told_18 rfl rfl rfl ?_
  refine xw_iconst 20 (nI 3) dL_told_19 rfl (xofI 3) ?_
  refine xw_ialv (j := 3) 21 dL_told_20 rfl (hn) (rfl) (by decide) (by decide) (v3) ?_
  refine xw_iload_n 22 dL_told_21 rfl rfl ?_
  refine xw_imul 23 dL_told_22 rfl ?_
  rw [pk_mul]
  refine xw_iadd 24 dL_told_23 rfl ?_
  rw [nI_add]
  refine xw_aload_n 25 dL_told_24 rfl rfl rfl ?_
  refine xw_iconst 26 (nI 1) dL_told_25 rfl (xofI 1) ?_
  refine xw_ialv (j := 1) 27 dL_told_26 rfl (hn) (rfl) (by decide) (by decide) (v1) ?_
  refine xw_irem 28 dL_told_27 rfl (nI_ne0 hC1 (by omega)) ?_
  rw [pk_rem (by omega) hC1 (by omega)]
  refine xw_istore (ls' := [(5, _), (4, _), (3, _), (0, _), (1, _), (2, _)]) 30 dL_told_28 rfl rfl rfl ?_
  refine xw_aload_n 31 dL_told_30 rfl rfl rfl ?_
  refine xw_bipush 33 (nI 12) dL_told_31 rfl (by decide) ?_
  refine xw_iload 35 dL_told_33 rfl rfl ?_
  refine xw_imul 36 dL_told_35 rfl ?_
  rw [pk_mul]
  refine xw_iload 38 dL_told_36 rfl rfl ?_
  refine xw_iadd 39 dL_told_38 rfl ?_
  rw [nI_add]
  refine xw_pS 42 dL_told_39 rfl ok_L_colour s_L_8 (S_L_colour hc (by omega) (by omega)) (rfl) rfl rfl rfl rfl rfl rfl ?_
  exact xw_ireturn dL_told_42 rfl (⟨rfl, rfl⟩)
theorem S_L_wrongs {kn kc kb b e R C A S : Nat} {n ch be : Nat → Int32} (hn : hp[kn]? = some (.inl (0, 28, .inl n))) (hc : hp[kc]? = some (.inl (0, 12, .inl ch))) (v0 : n 0 = nI R) (v1 : n 1 = nI C) (v2 : n 2 = nI A) (v3 : n 3 = nI S) (hR1 : 1 ≤ R) (hR2 : R ≤ 10) (hC1 : 1 ≤ C) (hC2 : C ≤ 12) (hA1 : 1 ≤ A) (hA2 : A ≤ 15) (hS2 : S ≤ 11) (hB : hp[kb]? = some (.inl (0, 24, .inl be))) (he : e ≤ 240) (hb : b ≤ 1000) : xMet G L_wrongs [.ref kn, .ref kc, .ref kb, .int (nI b), .int (nI e)] hp x 0 0 (xRetV (.int (nI (xctr (fun k => decide (bcol be k ≠ bcol ch (xpl A S R C k))) b e))) hp) := by
  have loop : ∀ (t i : Nat), i + t = e - b → xW G L_wrongs (xRetV (.int (nI (xctr (fun k => decide (bcol be k ≠ bcol ch (xpl A S R C k))) b e))) hp) 6 [(6, .int (nI (b + i))), (5, .int (nI (xct (fun k => decide (bcol be (b + k) ≠ bcol ch (xpl A S R C (b + k)))) i))), (0, .ref kn), (1, .ref kc), (2, .ref kb), (3, .int (nI b)), (4, .int (nI e))] [] hp x 0 0 := by
    intro t
    induction t with
    | zero =>
      intro i hi
      have e1 : i = e - b := by omega
      subst e1
      refine xw_iload 8 dL_wrongs_6 rfl rfl ?_
      refine xw_iload 10 dL_wrongs_8 rfl rfl ?_
      refine xw_icmp_ge 38 13 dL_wrongs_10 rfl rfl (fun h10 => ?_) (fun h10 => absurd (nI_le (by omega) (by omega)) h10)
      refine xw_iload 40 dL_wrongs_38 rfl rfl ?_
      exact xw_ireturn dL_wrongs_40 rfl (⟨rfl, rfl⟩)
    | succ t ih =>
      intro i hi
      have ih := ih (i + 1) (by omega)
      by_cases hz : bcol be (b + i) = bcol ch (xpl A S R C (b + i))
      · have e1 : xct (fun k => decide (bcol be (b + k) ≠ bcol ch (xpl A S R C (b + k)))) (i + 1) = xct (fun k => decide (bcol be (b + k) ≠ bcol ch (xpl A S R C (b + k)))) i := xct_n (by simp [hz])
        rw [e1] at ih
        refine xw_iload 8 dL_wrongs_6 rfl rfl ?_
        refine xw_iload 10 dL_wrongs_8 rfl rfl ?_
        refine xw_icmp_ge 38 13 dL_wrongs_10 rfl rfl (fun h10 => absurd h10 (nI_ge (by omega) (by omega))) (fun h10 => ?_)
        refine xw_aload_n 14 dL_wrongs_13 rfl rfl rfl ?_
        refine xw_iload 16 dL_wrongs_14 rfl rfl ?_
        refine xw_pS 19 dL_wrongs_16 rfl ok_L_colour s_L_8 (S_L_colour hB (by omega) (by omega)) (rfl) rfl rfl rfl rfl rfl rfl ?_
        refine xw_aload_n 20 dL_wrongs_19 rfl rfl rfl ?_
        refine xw_aload_n 21 dL_wrongs_20 rfl rfl rfl ?_
        refine xw_iload 23 dL_wrongs_21 rfl rfl ?_
        refine xw_pS 26 dL_wrongs_23 rfl ok_L_told s_L_14 (S_L_told hn hc v0 v1 v2 v3 hR1 hR2 hC1 hC2 hA1 hA2 hS2 (by omega)) (rfl) rfl rfl rfl rfl rfl rfl ?_
        refine xw_icmp_eq 32 29 dL_wrongs_26 rfl rfl (fun h26 => ?_) (fun h26 => absurd (hz) h26)
        refine xw_iinc (ls' := [(6, _), (5, _), (0, _), (1, _), (2, _), (3, _), (4, _)]) 35 _ dL_wrongs_32 rfl rfl (xnI_inc _) rfl rfl ?_
        refine xw_goto 6 dL_wrongs_35 rfl ?_
        exact xW.pick [0, 1, 2, 3, 4, 5, 6] rfl (ih)
      · have e1 : xct (fun k => decide (bcol be (b + k) ≠ bcol ch (xpl A S R C (b + k)))) (i + 1) = xct (fun k => decide (bcol be (b + k) ≠ bcol ch (xpl A S R C (b + k)))) i + 1 := xct_y (by simp [hz])
        rw [e1] at ih
        refine xw_iload 8 dL_wrongs_6 rfl rfl ?_
        refine xw_iload 10 dL_wrongs_8 rfl rfl ?_
        refine xw_icmp_ge 38 13 dL_wrongs_10 rfl rfl (fun h10 => absurd h10 (nI_ge (by omega) (by omega))) (fun h10 => ?_)
        refine xw_aload_n 14 dL_wrongs_13 rfl rfl rfl ?_
        refine xw_iload 16 dL_wrongs_14 rfl rfl ?_
        refine xw_pS 19 dL_wrongs_16 rfl ok_L_colour s_L_8 (S_L_colour hB (by omega) (by omega)) (rfl) rfl rfl rfl rfl rfl rfl ?_
        refine xw_aload_n 20 dL_wrongs_19 rfl rfl rfl ?_
        refine xw_aload_n 21 dL_wrongs_20 rfl rfl rfl ?_
        refine xw_iload 23 dL_wrongs_21 rfl rfl ?_
        refine xw_pS 26 dL_wrongs_23 rfl ok_L_told s_L_14 (S_L_told hn hc v0 v1 v2 v3 hR1 hR2 hC1 hC2 hA1 hA2 hS2 (by omega)) (rfl) rfl rfl rfl rfl rfl rfl ?_
        refine xw_icmp_eq 32 29 dL_wrongs_26 rfl rfl (fun h26 => absurd h26 (hz)) (fun h26 => ?_)
        refine xw_iinc (ls' := [(5, _), (6, _), (0, _), (1, _), (2, _), (3, _), (4, _)]) 32 _ dL_wrongs_29 rfl rfl (xnI_inc _) rfl rfl ?_
        refine xw_iinc (ls' := [(6, _), (5, _), (0, _), (1, _), (2, _), (3, _), (4, _)]) 35 _ dL_wrongs_32 rfl rfl (xnI_inc _) rfl rfl ?_
        refine xw_goto 6 dL_wrongs_35 rfl ?_
        exact xW.pick [0, 1, 2, 3, 4, 5, 6] rfl (ih)
  refine xw_iconst 1 (nI 0) dL_wrongs_0 rfl (xofI 0) ?_
  refine xw_istore (ls' := [(5, _), (0, _), (1, _), (2, _), (3, _), (4, _)]) 3 dL_wrongs_1 rfl rfl rfl ?_
  refine xw_iload_n 4 dL_wrongs_3 rfl rfl ?_
  refine xw_istore (ls' := [(6, _), (5, _), (0, _), (1, _), (2, _), (3, _), (4, _)]) 6 dL_wrongs_4 rfl rfl rfl ?_
  exact loop (e - b) 0 (by omega)
def lfresh (n : Nat → Int32) : Nat → Int32 := upd (upd (upd (upd (upd (upd n 0 (nI 1)) 1 (nI 1)) 2 (nI 6)) 3 (nI 1)) 4 (nI 40)) 7 (nI 1)
theorem S_L_fresh {n : Nat → Int32} (hn : hp[k]? = some (.inl (0, 28, .inl n))) : xMet G L_fresh [.ref k] hp x 0 0 (xRet none (hp.set k (.inl (0, 28, .inl (lfresh n))))) := by
  refine xw_aload_n 1 dL_fresh_0 rfl rfl rfl ?_
  refine xw_iconst 2 (nI 0) dL_fresh_1 rfl (xofI 0) ?_
  refine xw_iconst 3 (nI 1) dL_fresh_2 rfl (xofI 1) ?_
  refine xw_iastore (j := 0) 4 dL_fresh_3 rfl (hn) (rfl) (by decide) (by decide) (rfl) ?_
  refine xw_aload_n 5 dL_fresh_4 rfl rfl rfl ?_
  refine xw_iconst 6 (nI 1) dL_fresh_5 rfl (xofI 1) ?_
  refine xw_iconst 7 (nI 1) dL_fresh_6 rfl (xofI 1) ?_
  refine xw_iastore (j := 1) 8 dL_fresh_7 rfl (xset_at hn) (rfl) (by decide) (by decide) (rfl) ?_
  refine xw_aload_n 9 dL_fresh_8 rfl rfl rfl ?_
  refine xw_iconst 10 (nI 2) dL_fresh_9 rfl (xofI 2) ?_
  refine xw_bipush 12 (nI 6) dL_fresh_10 rfl (by decide) ?_
  refine xw_iastore (j := 2) 13 dL_fresh_12 rfl (xset_at (xset_at hn)) (rfl) (by decide) (by decide) (rfl) ?_
  refine xw_aload_n 14 dL_fresh_13 rfl rfl rfl ?_
  refine xw_iconst 15 (nI 3) dL_fresh_14 rfl (xofI 3) ?_
  refine xw_iconst 16 (nI 1) dL_fresh_15 rfl (xofI 1) ?_
  refine xw_iastore (j := 3) 17 dL_fresh_16 rfl (xset_at (xset_at (xset_at hn))) (rfl) (by decide) (by decide) (rfl) ?_
  refine xw_aload_n 18 dL_fresh_17 rfl rfl rfl ?_
  refine xw_iconst 19 (nI 4) dL_fresh_18 rfl (xofI 4) ?_
  refine xw_bipush 21 (nI 40) dL_fresh_19 rfl (by decide) ?_
  refine xw_iastore (j := 4) 22 dL_fresh_21 rfl (xset_at (xset_at (xset_at (xset_at hn)))) (rfl) (by decide) (by decide) (rfl) ?_
  refine xw_aload_n 23 dL_fresh_22 rfl rfl rfl ?_
  refine xw_bipush 25 (nI 7) dL_fresh_23 rfl (by decide) ?_
  refine xw_iconst 26 (nI 1) dL_fresh_25 rfl (xofI 1) ?_
  refine xw_iastore (j := 7) 27 dL_fresh_26 rfl (xset_at (xset_at (xset_at (xset_at (xset_at hn))))) (rfl) (by decide) (by decide) (rfl) ?_
  exact xw_return dL_fresh_27 rfl (⟨rfl, by simp only [List.set_set]; rfl⟩)
def lsave (n : Nat → Int32) (m : Nat) : Nat → Int32 := upd n 9 (nI (zrM m))
theorem S_L_save {n : Nat → Int32} {m : Nat} (hn : hp[k]? = some (.inl (0, 28, .inl n))) (v9 : n 9 = nI m) (hm : m ≤ 6) (hh : hp.set k (.inl (0, 28, .inl (lsave n m))) = h1) : xMet G L_save [.ref k] hp x 0 0 (xRet none h1) := by
  by_cases h6 : 6 ≤ m
  · have e6 : m = 6 := by omega
    subst e6
    have e : lsave n 6 = n := by
      funext j
      unfold lsave
      by_cases hj : j = 9
      · rw [hj, upd_at, v9]
        rfl
      · rw [upd_ne hj]
    rw [e] at hh
    have e2 : h1 = hp := by
      rw [← hh]
      apply List.ext_getElem?
      intro j
      by_cases hj : j = k
      · rw [hj, hn]
        exact xset_at hn
      · rw [xset_ne hj]
    rw [e2]
    refine xw_aload_n 1 dL_save_0 rfl rfl rfl ?_
    refine xw_bipush 3 (nI 9) dL_save_1 rfl (by decide) ?_
    refine xw_ialv (j := 9) 4 dL_save_3 rfl (hn) (rfl) (by decide) (by decide) (v9) ?_
    refine xw_bipush 6 (nI 6) dL_save_4 rfl (by decide) ?_
    refine xw_icmp_ge 17 9 dL_save_6 rfl rfl (fun h6 => ?_) (fun h6 => absurd (by decide) h6)
    exact xw_return dL_save_17 rfl (⟨rfl, rfl⟩)
  · have e : zrM m = m + 1 := if_neg h6
    have e3 : lsave n m = upd n 9 (nI (m + 1)) := by unfold lsave; rw [e]
    rw [e3] at hh
    refine xw_aload_n 1 dL_save_0 rfl rfl rfl ?_
    refine xw_bipush 3 (nI 9) dL_save_1 rfl (by decide) ?_
    refine xw_ialv (j := 9) 4 dL_save_3 rfl (hn) (rfl) (by decide) (by decide) (v9) ?_
    refine xw_bipush 6 (nI 6) dL_save_4 rfl (by decide) ?_
    refine xw_icmp_ge 17 9 dL_save_6 rfl rfl (fun h6 => absurd h6 (nI_ge (by omega) (by omega))) (fun h6 => ?_)
    refine xw_aload_n 10 dL_save_9 rfl rfl rfl ?_
    refine xw_bipush 12 (nI 9) dL_save_10 rfl (by decide) ?_
    refine xw_dup2 13 dL_save_12 rfl rfl rfl ?_
    refine xw_ialv (j := 9) 14 dL_save_13 rfl (hn) (rfl) (by decide) (by decide) (v9) ?_
    refine xw_iconst 15 (nI 1) dL_save_14 rfl (xofI 1) ?_
    refine xw_iadd 16 dL_save_15 rfl ?_
    rw [nI_add]
    refine xw_iastore (j := 9) 17 dL_save_16 rfl (hn) (rfl) (by decide) (by decide) (hh) ?_
    exact xw_return dL_save_17 rfl (⟨rfl, rfl⟩)
end P41

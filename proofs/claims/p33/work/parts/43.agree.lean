/-! ===== the law: agree ===== -/
def lhid (w : Nat → Int32) (k : Nat) : Int32 := if k = 0 then -1 else nI (if zhid w k = true then 1 else 0)
def lbare (w : Nat → Int32) (k : Nat) : Nat := xct (fun i => !zhid w (i + 1)) (k - 1)
section P43
variable {G : xG} {x : Nat} {w n ch be st : Nat → Int32} {sv : Nat → Nat → Int32} {qo ql : Int32} {m : Nat} {co : Nat → Int32} {sx : xSx} {J : List xE} {Qx : xO → List xE → Prop} {kc ks : Nat} {a5 a6 a7 a8 a10 : Int32}
theorem agA {c : Nat} (I : xInv w) (N : lwN w m n) (next : xW G L_agree Qx 60 [(12, .int (nI (zI w 6))), (10, .int (nI (xocc (bcol be) (nI c) (zI w 6)))), (11, .int (nI 0)), (9, .int (nI c)), (8, .int a8), (7, .int a7), (6, .int a6), (5, .int a5), (0, .ref 0), (1, .ref 71), (2, .ref 72), (3, .ref 73), (4, .ref 74)] [] (bHp w sv qo (nI m) ql co sx (lT n ch be st J)) x kc ks) : ∀ (t i : Nat), i + t = zI w 6 → xW G L_agree Qx 31 [(12, .int (nI (i))), (10, .int (nI (xocc (bcol be) (nI c) (i)))), (11, .int (nI 0)), (9, .int (nI c)), (8, .int a8), (7, .int a7), (6, .int a6), (5, .int a5), (0, .ref 0), (1, .ref 71), (2, .ref 72), (3, .ref 73), (4, .ref 74)] [] (bHp w sv qo (nI m) ql co sx (lT n ch be st J)) x kc ks := by
  have hM2 := I.iM.2.2
  intro t
  induction t with
  | zero =>
    intro i hi
    obtain rfl : i = zI w 6 := by omega
    refine xw_iload 33 dL_agree_31 rfl rfl ?_
    refine xw_aload_n 34 dL_agree_33 rfl rfl rfl ?_
    refine xw_bipush 36 (nI 6) dL_agree_34 rfl (by decide) ?_
    refine xw_ialv (j := 6) 37 dL_agree_36 rfl (lT_n) (rfl) (by decide) (by decide) (N.v6 I) ?_
    refine xw_icmp_ge 60 40 dL_agree_37 rfl rfl (fun h37 => ?_) (fun h37 => absurd (nI_le (by omega) (by omega)) h37)
    exact xW.pick [0, 1, 2, 3, 4, 5, 6, 7, 8, 9, 10, 11, 12] rfl (next)
  | succ t ih =>
    intro i hi
    have ih := ih (i + 1) (by omega)
    by_cases hz : bcol be i = nI c
    · have e1 : xocc (bcol be) (nI c) (i + 1) = xocc (bcol be) (nI c) i + 1 := by simp [xocc, hz]
      rw [e1] at ih
      refine xw_iload 33 dL_agree_31 rfl rfl ?_
      refine xw_aload_n 34 dL_agree_33 rfl rfl rfl ?_
      refine xw_bipush 36 (nI 6) dL_agree_34 rfl (by decide) ?_
      refine xw_ialv (j := 6) 37 dL_agree_36 rfl (lT_n) (rfl) (by decide) (by decide) (N.v6 I) ?_
      refine xw_icmp_ge 60 40 dL_agree_37 rfl rfl (fun h37 => absurd h37 (nI_ge (by omega) (by omega))) (fun h37 => ?_)
      refine xw_aload_n 41 dL_agree_40 rfl rfl rfl ?_
      refine xw_iload 43 dL_agree_41 rfl rfl ?_
      refine xw_pS 46 dL_agree_43 rfl ok_L_colour s_L_8 (S_L_colour lT_b (by omega) (by omega)) (rfl) rfl rfl rfl rfl rfl rfl ?_
      refine xw_iload 48 dL_agree_46 rfl rfl ?_
      refine xw_icmp_ne 54 51 dL_agree_48 rfl rfl (fun h48 => absurd (hz) h48) (fun h48 => ?_)
      refine xw_iinc (ls' := [(10, _), (12, _), (11, _), (9, _), (8, _), (7, _), (6, _), (5, _), (0, _), (1, _), (2, _), (3, _), (4, _)]) 54 _ dL_agree_51 rfl rfl (xnI_inc _) rfl rfl ?_
      refine xw_iinc (ls' := [(12, _), (10, _), (11, _), (9, _), (8, _), (7, _), (6, _), (5, _), (0, _), (1, _), (2, _), (3, _), (4, _)]) 57 _ dL_agree_54 rfl rfl (xnI_inc _) rfl rfl ?_
      refine xw_goto 31 dL_agree_57 rfl ?_
      exact xW.pick [0, 1, 2, 3, 4, 5, 6, 7, 8, 9, 10, 11, 12] rfl (ih)
    · have e1 : xocc (bcol be) (nI c) (i + 1) = xocc (bcol be) (nI c) i := by simp [xocc, hz]
      rw [e1] at ih
      refine xw_iload 33 dL_agree_31 rfl rfl ?_
      refine xw_aload_n 34 dL_agree_33 rfl rfl rfl ?_
      refine xw_bipush 36 (nI 6) dL_agree_34 rfl (by decide) ?_
      refine xw_ialv (j := 6) 37 dL_agree_36 rfl (lT_n) (rfl) (by decide) (by decide) (N.v6 I) ?_
      refine xw_icmp_ge 60 40 dL_agree_37 rfl rfl (fun h37 => absurd h37 (nI_ge (by omega) (by omega))) (fun h37 => ?_)
      refine xw_aload_n 41 dL_agree_40 rfl rfl rfl ?_
      refine xw_iload 43 dL_agree_41 rfl rfl ?_
      refine xw_pS 46 dL_agree_43 rfl ok_L_colour s_L_8 (S_L_colour lT_b (by omega) (by omega)) (rfl) rfl rfl rfl rfl rfl rfl ?_
      refine xw_iload 48 dL_agree_46 rfl rfl ?_
      refine xw_icmp_ne 54 51 dL_agree_48 rfl rfl (fun h48 => ?_) (fun h48 => absurd h48 (hz))
      refine xw_iinc (ls' := [(12, _), (10, _), (11, _), (9, _), (8, _), (7, _), (6, _), (5, _), (0, _), (1, _), (2, _), (3, _), (4, _)]) 57 _ dL_agree_54 rfl rfl (xnI_inc _) rfl rfl ?_
      refine xw_goto 31 dL_agree_57 rfl ?_
      exact xW.pick [0, 1, 2, 3, 4, 5, 6, 7, 8, 9, 10, 11, 12] rfl (ih)
theorem agB {c : Nat} (I : xInv w) (N : lwN w m n) (next : xW G L_agree Qx 105 [(12, .int (nI (12 * zI w 4))), (11, .int (nI (xct (fun k => decide (k % 12 < zI w 5) && decide (bcol ch k = nI c)) (12 * zI w 4)))), (10, .int a10), (9, .int (nI c)), (8, .int a8), (7, .int a7), (6, .int a6), (5, .int a5), (0, .ref 0), (1, .ref 71), (2, .ref 72), (3, .ref 73), (4, .ref 74)] [] (bHp w sv qo (nI m) ql co sx (lT n ch be st J)) x kc ks) : ∀ (t i : Nat), i + t = 12 * zI w 4 → xW G L_agree Qx 63 [(12, .int (nI (i))), (11, .int (nI (xct (fun k => decide (k % 12 < zI w 5) && decide (bcol ch k = nI c)) (i)))), (10, .int a10), (9, .int (nI c)), (8, .int a8), (7, .int a7), (6, .int a6), (5, .int a5), (0, .ref 0), (1, .ref 71), (2, .ref 72), (3, .ref 73), (4, .ref 74)] [] (bHp w sv qo (nI m) ql co sx (lT n ch be st J)) x kc ks := by
  have hR2 := I.iR.2.2
  have hC2 := I.iC.2.2
  intro t
  induction t with
  | zero =>
    intro i hi
    obtain rfl : i = 12 * zI w 4 := by omega
    refine xw_iload 65 dL_agree_63 rfl rfl ?_
    refine xw_bipush 67 (nI 12) dL_agree_65 rfl (by decide) ?_
    refine xw_aload_n 68 dL_agree_67 rfl rfl rfl ?_
    refine xw_iconst 69 (nI 0) dL_agree_68 rfl (xofI 0) ?_
    refine xw_ialv (j := 0) 70 dL_agree_69 rfl (lT_n) (rfl) (by decide) (by decide) (N.v0 I) ?_
    refine xw_imul 71 dL_agree_70 rfl ?_
    rw [pk_mul]
    refine xw_icmp_ge 105 74 dL_agree_71 rfl rfl (fun h71 => ?_) (fun h71 => absurd (nI_le (by omega) (by omega)) h71)
    exact xW.pick [0, 1, 2, 3, 4, 5, 6, 7, 8, 9, 10, 11, 12] rfl (next)
  | succ t ih =>
    intro i hi
    have ih := ih (i + 1) (by omega)
    have hlt : i % 12 < 12 := Nat.mod_lt _ (by decide)
    by_cases hd : i % 12 < zI w 5
    · by_cases hz : bcol ch i = nI c
      · have e1 : xct (fun k => decide (k % 12 < zI w 5) && decide (bcol ch k = nI c)) (i + 1) = xct (fun k => decide (k % 12 < zI w 5) && decide (bcol ch k = nI c)) i + 1 := xct_y (by simp [hd, hz])
        rw [e1] at ih
        refine xw_iload 65 dL_agree_63 rfl rfl ?_
        refine xw_bipush 67 (nI 12) dL_agree_65 rfl (by decide) ?_
        refine xw_aload_n 68 dL_agree_67 rfl rfl rfl ?_
        refine xw_iconst 69 (nI 0) dL_agree_68 rfl (xofI 0) ?_
        refine xw_ialv (j := 0) 70 dL_agree_69 rfl (lT_n) (rfl) (by decide) (by decide) (N.v0 I) ?_
        refine xw_imul 71 dL_agree_70 rfl ?_
        rw [pk_mul]
        refine xw_icmp_ge 105 74 dL_agree_71 rfl rfl (fun h71 => absurd h71 (nI_ge (by omega) (by omega))) (fun h71 => ?_)
        refine xw_iload 76 dL_agree_74 rfl rfl ?_
        refine xw_bipush 78 (nI 12) dL_agree_76 rfl (by decide) ?_
        refine xw_irem 79 dL_agree_78 rfl (nI_ne0 (by decide) (by decide)) ?_
        rw [pk_rem (by omega) (by decide) (by decide)]
        refine xw_aload_n 80 dL_agree_79 rfl rfl rfl ?_
        refine xw_iconst 81 (nI 1) dL_agree_80 rfl (xofI 1) ?_
        refine xw_ialv (j := 1) 82 dL_agree_81 rfl (lT_n) (rfl) (by decide) (by decide) (N.v1 I) ?_
        refine xw_icmp_ge 99 85 dL_agree_82 rfl rfl (fun h82 => absurd h82 (nI_ge hd (by omega))) (fun h82 => ?_)
        refine xw_aload_n 86 dL_agree_85 rfl rfl rfl ?_
        refine xw_iload 88 dL_agree_86 rfl rfl ?_
        refine xw_pS 91 dL_agree_88 rfl ok_L_colour s_L_8 (S_L_colour lT_c (by omega) (by omega)) (rfl) rfl rfl rfl rfl rfl rfl ?_
        refine xw_iload 93 dL_agree_91 rfl rfl ?_
        refine xw_icmp_ne 99 96 dL_agree_93 rfl rfl (fun h93 => absurd (hz) h93) (fun h93 => ?_)
        refine xw_iinc (ls' := [(11, _), (12, _), (10, _), (9, _), (8, _), (7, _), (6, _), (5, _), (0, _), (1, _), (2, _), (3, _), (4, _)]) 99 _ dL_agree_96 rfl rfl (xnI_inc _) rfl rfl ?_
        refine xw_iinc (ls' := [(12, _), (11, _), (10, _), (9, _), (8, _), (7, _), (6, _), (5, _), (0, _), (1, _), (2, _), (3, _), (4, _)]) 102 _ dL_agree_99 rfl rfl (xnI_inc _) rfl rfl ?_
        refine xw_goto 63 dL_agree_102 rfl ?_
        exact xW.pick [0, 1, 2, 3, 4, 5, 6, 7, 8, 9, 10, 11, 12] rfl (ih)
      · have e1 : xct (fun k => decide (k % 12 < zI w 5) && decide (bcol ch k = nI c)) (i + 1) = xct (fun k => decide (k % 12 < zI w 5) && decide (bcol ch k = nI c)) i := xct_n (by simp [hz])
        rw [e1] at ih
        refine xw_iload 65 dL_agree_63 rfl rfl ?_
        refine xw_bipush 67 (nI 12) dL_agree_65 rfl (by decide) ?_
        refine xw_aload_n 68 dL_agree_67 rfl rfl rfl ?_
        refine xw_iconst 69 (nI 0) dL_agree_68 rfl (xofI 0) ?_
        refine xw_ialv (j := 0) 70 dL_agree_69 rfl (lT_n) (rfl) (by decide) (by decide) (N.v0 I) ?_
        refine xw_imul 71 dL_agree_70 rfl ?_
        rw [pk_mul]
        refine xw_icmp_ge 105 74 dL_agree_71 rfl rfl (fun h71 => absurd h71 (nI_ge (by omega) (by omega))) (fun h71 => ?_)
        refine xw_iload 76 dL_agree_74 rfl rfl ?_
        refine xw_bipush 78 (nI 12) dL_agree_76 rfl (by decide) ?_
        refine xw_irem 79 dL_agree_78 rfl (nI_ne0 (by decide) (by decide)) ?_
        rw [pk_rem (by omega) (by decide) (by decide)]
        refine xw_aload_n 80 dL_agree_79 rfl rfl rfl ?_
        refine xw_iconst 81 (nI 1) dL_agree_80 rfl (xofI 1) ?_
        refine xw_ialv (j := 1) 82 dL_agree_81 rfl (lT_n) (rfl) (by decide) (by decide) (N.v1 I) ?_
        refine xw_icmp_ge 99 85 dL_agree_82 rfl rfl (fun h82 => absurd h82 (nI_ge hd (by omega))) (fun h82 => ?_)
        refine xw_aload_n 86 dL_agree_85 rfl rfl rfl ?_
        refine xw_iload 88 dL_agree_86 rfl rfl ?_
        refine xw_pS 91 dL_agree_88 rfl ok_L_colour s_L_8 (S_L_colour lT_c (by omega) (by omega)) (rfl) rfl rfl rfl rfl rfl rfl ?_
        refine xw_iload 93 dL_agree_91 rfl rfl ?_
        refine xw_icmp_ne 99 96 dL_agree_93 rfl rfl (fun h93 => ?_) (fun h93 => absurd h93 (hz))
        refine xw_iinc (ls' := [(12, _), (11, _), (10, _), (9, _), (8, _), (7, _), (6, _), (5, _), (0, _), (1, _), (2, _), (3, _), (4, _)]) 102 _ dL_agree_99 rfl rfl (xnI_inc _) rfl rfl ?_
        refine xw_goto 63 dL_agree_102 rfl ?_
        exact xW.pick [0, 1, 2, 3, 4, 5, 6, 7, 8, 9, 10, 11, 12] rfl (ih)
    · have e1 : xct (fun k => decide (k % 12 < zI w 5) && decide (bcol ch k = nI c)) (i + 1) = xct (fun k => decide (k % 12 < zI w 5) && decide (bcol ch k = nI c)) i := xct_n (by simp [hd])
      rw [e1] at ih
      refine xw_iload 65 dL_agree_63 rfl rfl ?_
      refine xw_bipush 67 (nI 12) dL_agree_65 rfl (by decide) ?_
      refine xw_aload_n 68 dL_agree_67 rfl rfl rfl ?_
      refine xw_iconst 69 (nI 0) dL_agree_68 rfl (xofI 0) ?_
      refine xw_ialv (j := 0) 70 dL_agree_69 rfl (lT_n) (rfl) (by decide) (by decide) (N.v0 I) ?_
      refine xw_imul 71 dL_agree_70 rfl ?_
      rw [pk_mul]
      refine xw_icmp_ge 105 74 dL_agree_71 rfl rfl (fun h71 => absurd h71 (nI_ge (by omega) (by omega))) (fun h71 => ?_)
      refine xw_iload 76 dL_agree_74 rfl rfl ?_
      refine xw_bipush 78 (nI 12) dL_agree_76 rfl (by decide) ?_
      refine xw_irem 79 dL_agree_78 rfl (nI_ne0 (by decide) (by decide)) ?_
      rw [pk_rem (by omega) (by decide) (by decide)]
      refine xw_aload_n 80 dL_agree_79 rfl rfl rfl ?_
      refine xw_iconst 81 (nI 1) dL_agree_80 rfl (xofI 1) ?_
      refine xw_ialv (j := 1) 82 dL_agree_81 rfl (lT_n) (rfl) (by decide) (by decide) (N.v1 I) ?_
      refine xw_icmp_ge 99 85 dL_agree_82 rfl rfl (fun h82 => ?_) (fun h82 => absurd (nI_le (by omega) (by omega)) h82)
      refine xw_iinc (ls' := [(12, _), (11, _), (10, _), (9, _), (8, _), (7, _), (6, _), (5, _), (0, _), (1, _), (2, _), (3, _), (4, _)]) 102 _ dL_agree_99 rfl rfl (xnI_inc _) rfl rfl ?_
      refine xw_goto 63 dL_agree_102 rfl ?_
      exact xW.pick [0, 1, 2, 3, 4, 5, 6, 7, 8, 9, 10, 11, 12] rfl (ih)
theorem ag1 (I : xInv w) (N : lwN w m n) (C : lwC w ch) (B : lwB w be) (S : lwS w st) (U : lwU w) (next : xW G L_agree Qx 252 [(8, .int (nI 0)), (7, .int (xsum (fun k => w (21 + k)) 6)), (6, .int (xsum (fun k => w (15 + k)) 6)), (5, .int (xsum (fun k => w (9 + k)) 6)), (0, .ref 0), (1, .ref 71), (2, .ref 72), (3, .ref 73), (4, .ref 74)] [] (bHp w sv qo (nI m) ql co sx (lT n ch be st J)) x kc ks) : ∀ (t c : Nat), c + t = 6 → xW G L_agree Qx 15 [(9, .int (nI c)), (8, .int (nI 0)), (7, .int (xsum (fun k => w (21 + k)) c)), (6, .int (xsum (fun k => w (15 + k)) c)), (5, .int (xsum (fun k => w (9 + k)) c)), (0, .ref 0), (1, .ref 71), (2, .ref 72), (3, .ref 73), (4, .ref 74)] [] (bHp w sv qo (nI m) ql co sx (lT n ch be st J)) x (t * 5 + kc) (t * 30 + ks) := by
  have hM2 := I.iM.2.2
  intro t
  induction t with
  | zero =>
    intro c hi
    obtain rfl : c = 6 := by omega
    simp only [Nat.zero_mul, Nat.zero_add]
    refine xw_iload 17 dL_agree_15 rfl rfl ?_
    refine xw_bipush 19 (nI 6) dL_agree_17 rfl (by decide) ?_
    refine xw_icmp_ge 252 22 dL_agree_19 rfl rfl (fun h19 => ?_) (fun h19 => absurd (by decide) h19)
    exact xW.pick [1, 2, 3, 4, 5, 6, 7, 8, 9] rfl (next)
  | succ t ih =>
    intro c hi
    have hc : c < 6 := by omega
    have ih := ih (c + 1) (by omega)
    rw [show (t + 1) * 5 + kc = t * 5 + kc + 5 by omega, show (t + 1) * 30 + ks = t * 30 + ks + 30 by omega]
    have e2 : zcolour w c 2 = nI (xocc (bcol be) (nI c) (zI w 6)) := by
      rw [B.o _ (Nat.le_refl _)]
      rfl
    have e4 : zcolour w c 4 = nI (xct (fun k => decide (k % 12 < zI w 5) && decide (bcol ch k = nI c)) (12 * zI w 4)) := by
      rw [C.cells I]
      rfl
    have e5 : w (15 + c) = w (9 + c) + nI (xocc (bcol be) (nI c) (zI w 6)) + w (21 + c) := by
      rw [B.o _ (Nat.le_refl _)]
      exact U c hc
    have s105 : xW G L_agree Qx 105 [(12, .int (nI (12 * zI w 4))), (11, .int (nI (xct (fun k => decide (k % 12 < zI w 5) && decide (bcol ch k = nI c)) (12 * zI w 4)))), (10, .int (nI (xocc (bcol be) (nI c) (zI w 6)))), (9, .int (nI c)), (8, .int (nI 0)), (7, .int (xsum (fun k => w (21 + k)) c)), (6, .int (xsum (fun k => w (15 + k)) c)), (5, .int (xsum (fun k => w (9 + k)) c)), (0, .ref 0), (1, .ref 71), (2, .ref 72), (3, .ref 73), (4, .ref 74)] [] (bHp w sv qo (nI m) ql co sx (lT n ch be st J)) x (t * 5 + kc + 5) (t * 30 + ks + 30) := by
      refine xw_iload 107 dL_agree_105 rfl rfl ?_
      refine xw_aload_n 108 dL_agree_107 rfl rfl rfl ?_
      refine xw_bipush 110 (nI 10) dL_agree_108 rfl (by decide) ?_
      refine xw_iload 112 dL_agree_110 rfl rfl ?_
      refine xw_iadd 113 dL_agree_112 rfl ?_
      refine xw_ialv (j := 10 + c) 114 dL_agree_113 rfl (lT_n) (nI_add _ _) (by omega) (by omega) (N.a hc) ?_
      refine xw_iadd 115 dL_agree_114 rfl ?_
      refine xw_istore (ls' := [(5, _), (12, _), (11, _), (10, _), (9, _), (8, _), (7, _), (6, _), (0, _), (1, _), (2, _), (3, _), (4, _)]) 117 dL_agree_115 rfl rfl rfl ?_
      refine xw_iload 119 dL_agree_117 rfl rfl ?_
      refine xw_aload_n 120 dL_agree_119 rfl rfl rfl ?_
      refine xw_bipush 122 (nI 16) dL_agree_120 rfl (by decide) ?_
      refine xw_iload 124 dL_agree_122 rfl rfl ?_
      refine xw_iadd 125 dL_agree_124 rfl ?_
      refine xw_ialv (j := 16 + c) 126 dL_agree_125 rfl (lT_n) (nI_add _ _) (by omega) (by omega) (N.b hc) ?_
      refine xw_iadd 127 dL_agree_126 rfl ?_
      refine xw_istore (ls' := [(6, _), (5, _), (12, _), (11, _), (10, _), (9, _), (8, _), (7, _), (0, _), (1, _), (2, _), (3, _), (4, _)]) 129 dL_agree_127 rfl rfl rfl ?_
      refine xw_iload 131 dL_agree_129 rfl rfl ?_
      refine xw_aload_n 132 dL_agree_131 rfl rfl rfl ?_
      refine xw_bipush 134 (nI 22) dL_agree_132 rfl (by decide) ?_
      refine xw_iload 136 dL_agree_134 rfl rfl ?_
      refine xw_iadd 137 dL_agree_136 rfl ?_
      refine xw_ialv (j := 22 + c) 138 dL_agree_137 rfl (lT_n) (nI_add _ _) (by omega) (by omega) (N.c hc) ?_
      refine xw_iadd 139 dL_agree_138 rfl ?_
      refine xw_istore (ls' := [(7, _), (6, _), (5, _), (12, _), (11, _), (10, _), (9, _), (8, _), (0, _), (1, _), (2, _), (3, _), (4, _)]) 141 dL_agree_139 rfl rfl rfl ?_
      refine xw_aload_n 142 dL_agree_141 rfl rfl rfl ?_
      refine xw_iload 144 dL_agree_142 rfl rfl ?_
      refine xw_iconst 145 (nI 0) dL_agree_144 rfl (xofI 0) ?_
      refine xw_lV 148 dL_agree_145 rfl ok_B_colour s_L_78 (xQr_ok (S_B_colour I) (rCol_k hc (by decide))) (lT_o) rfl rfl rfl rfl rfl rfl rfl rfl rfl ?_
      refine xw_aload_n 149 dL_agree_148 rfl rfl rfl ?_
      refine xw_bipush 151 (nI 10) dL_agree_149 rfl (by decide) ?_
      refine xw_iload 153 dL_agree_151 rfl rfl ?_
      refine xw_iadd 154 dL_agree_153 rfl ?_
      refine xw_ialv (j := 10 + c) 155 dL_agree_154 rfl (lT_n) (nI_add _ _) (by omega) (by omega) (N.a hc) ?_
      refine xw_icmp_ne 244 158 dL_agree_155 rfl rfl (fun h155 => absurd (rfl) h155) (fun h155 => ?_)
      refine xw_aload_n 159 dL_agree_158 rfl rfl rfl ?_
      refine xw_iload 161 dL_agree_159 rfl rfl ?_
      refine xw_iconst 162 (nI 1) dL_agree_161 rfl (xofI 1) ?_
      refine xw_lV 165 dL_agree_162 rfl ok_B_colour s_L_78 (xQr_ok (S_B_colour I) (rCol_k hc (by decide))) (lT_o) rfl rfl rfl rfl rfl rfl rfl rfl rfl ?_
      refine xw_aload_n 166 dL_agree_165 rfl rfl rfl ?_
      refine xw_bipush 168 (nI 16) dL_agree_166 rfl (by decide) ?_
      refine xw_iload 170 dL_agree_168 rfl rfl ?_
      refine xw_iadd 171 dL_agree_170 rfl ?_
      refine xw_ialv (j := 16 + c) 172 dL_agree_171 rfl (lT_n) (nI_add _ _) (by omega) (by omega) (N.b hc) ?_
      refine xw_icmp_ne 244 175 dL_agree_172 rfl rfl (fun h172 => absurd (rfl) h172) (fun h172 => ?_)
      refine xw_aload_n 176 dL_agree_175 rfl rfl rfl ?_
      refine xw_iload 178 dL_agree_176 rfl rfl ?_
      refine xw_iconst 179 (nI 2) dL_agree_178 rfl (xofI 2) ?_
      refine xw_lV 182 dL_agree_179 rfl ok_B_colour s_L_78 (xQr_ok (S_B_colour I) (rCol_k hc (by decide))) (lT_o) rfl rfl rfl rfl rfl rfl rfl rfl rfl ?_
      refine xw_iload 184 dL_agree_182 rfl rfl ?_
      refine xw_icmp_ne 244 187 dL_agree_184 rfl rfl (fun h184 => absurd (e2) h184) (fun h184 => ?_)
      refine xw_aload_n 188 dL_agree_187 rfl rfl rfl ?_
      refine xw_iload 190 dL_agree_188 rfl rfl ?_
      refine xw_iconst 191 (nI 3) dL_agree_190 rfl (xofI 3) ?_
      refine xw_lV 194 dL_agree_191 rfl ok_B_colour s_L_78 (xQr_ok (S_B_colour I) (rCol_k hc (by decide))) (lT_o) rfl rfl rfl rfl rfl rfl rfl rfl rfl ?_
      refine xw_aload_n 195 dL_agree_194 rfl rfl rfl ?_
      refine xw_bipush 197 (nI 22) dL_agree_195 rfl (by decide) ?_
      refine xw_iload 199 dL_agree_197 rfl rfl ?_
      refine xw_iadd 200 dL_agree_199 rfl ?_
      refine xw_ialv (j := 22 + c) 201 dL_agree_200 rfl (lT_n) (nI_add _ _) (by omega) (by omega) (N.c hc) ?_
      refine xw_icmp_ne 244 204 dL_agree_201 rfl rfl (fun h201 => absurd (rfl) h201) (fun h201 => ?_)
      refine xw_aload_n 205 dL_agree_204 rfl rfl rfl ?_
      refine xw_iload 207 dL_agree_205 rfl rfl ?_
      refine xw_iconst 208 (nI 4) dL_agree_207 rfl (xofI 4) ?_
      refine xw_lV 211 dL_agree_208 rfl ok_B_colour s_L_78 (xQr_ok (S_B_colour I) (rCol_k hc (by decide))) (lT_o) rfl rfl rfl rfl rfl rfl rfl rfl rfl ?_
      refine xw_iload 213 dL_agree_211 rfl rfl ?_
      refine xw_icmp_ne 244 216 dL_agree_213 rfl rfl (fun h213 => absurd (e4) h213) (fun h213 => ?_)
      refine xw_aload_n 217 dL_agree_216 rfl rfl rfl ?_
      refine xw_bipush 219 (nI 16) dL_agree_217 rfl (by decide) ?_
      refine xw_iload 221 dL_agree_219 rfl rfl ?_
      refine xw_iadd 222 dL_agree_221 rfl ?_
      refine xw_ialv (j := 16 + c) 223 dL_agree_222 rfl (lT_n) (nI_add _ _) (by omega) (by omega) (N.b hc) ?_
      refine xw_aload_n 224 dL_agree_223 rfl rfl rfl ?_
      refine xw_bipush 226 (nI 10) dL_agree_224 rfl (by decide) ?_
      refine xw_iload 228 dL_agree_226 rfl rfl ?_
      refine xw_iadd 229 dL_agree_228 rfl ?_
      refine xw_ialv (j := 10 + c) 230 dL_agree_229 rfl (lT_n) (nI_add _ _) (by omega) (by omega) (N.a hc) ?_
      refine xw_iload 232 dL_agree_230 rfl rfl ?_
      refine xw_iadd 233 dL_agree_232 rfl ?_
      refine xw_aload_n 234 dL_agree_233 rfl rfl rfl ?_
      refine xw_bipush 236 (nI 22) dL_agree_234 rfl (by decide) ?_
      refine xw_iload 238 dL_agree_236 rfl rfl ?_
      refine xw_iadd 239 dL_agree_238 rfl ?_
      refine xw_ialv (j := 22 + c) 240 dL_agree_239 rfl (lT_n) (nI_add _ _) (by omega) (by omega) (N.c hc) ?_
      refine xw_iadd 241 dL_agree_240 rfl ?_
      refine xw_icmp_eq 246 244 dL_agree_241 rfl rfl (fun h241 => ?_) (fun h241 => absurd (e5) h241)
      refine xw_iinc (ls' := [(9, _), (7, _), (6, _), (5, _), (12, _), (11, _), (10, _), (8, _), (0, _), (1, _), (2, _), (3, _), (4, _)]) 249 _ dL_agree_246 rfl rfl (xnI_inc _) rfl rfl ?_
      refine xw_goto 15 dL_agree_249 rfl ?_
      exact xW.pick [0, 7, 1, 2, 3, 8, 9, 10, 11, 12] rfl (ih)
    have s60 : xW G L_agree Qx 60 [(12, .int (nI (zI w 6))), (10, .int (nI (xocc (bcol be) (nI c) (zI w 6)))), (11, .int (nI 0)), (9, .int (nI c)), (8, .int (nI 0)), (7, .int (xsum (fun k => w (21 + k)) c)), (6, .int (xsum (fun k => w (15 + k)) c)), (5, .int (xsum (fun k => w (9 + k)) c)), (0, .ref 0), (1, .ref 71), (2, .ref 72), (3, .ref 73), (4, .ref 74)] [] (bHp w sv qo (nI m) ql co sx (lT n ch be st J)) x (t * 5 + kc + 5) (t * 30 + ks + 30) := by
      refine xw_iconst 61 (nI 0) dL_agree_60 rfl (xofI 0) ?_
      refine xw_istore (ls' := [(12, _), (10, _), (11, _), (9, _), (8, _), (7, _), (6, _), (5, _), (0, _), (1, _), (2, _), (3, _), (4, _)]) 63 dL_agree_61 rfl rfl rfl ?_
      exact xW.pick [0, 2, 1, 3, 4, 5, 6, 7, 8, 9, 10, 11, 12] rfl (agB (c := c) I N s105 (12 * zI w 4) 0 (Nat.zero_add _))
    refine xw_iload 17 dL_agree_15 rfl rfl ?_
    refine xw_bipush 19 (nI 6) dL_agree_17 rfl (by decide) ?_
    refine xw_icmp_ge 252 22 dL_agree_19 rfl rfl (fun h19 => absurd h19 (nI_ge hc (by omega))) (fun h19 => ?_)
    refine xw_iconst 23 (nI 0) dL_agree_22 rfl (xofI 0) ?_
    refine xw_istore (ls' := [(10, _), (9, _), (8, _), (7, _), (6, _), (5, _), (0, _), (1, _), (2, _), (3, _), (4, _)]) 25 dL_agree_23 rfl rfl rfl ?_
    refine xw_iconst 26 (nI 0) dL_agree_25 rfl (xofI 0) ?_
    refine xw_istore (ls' := [(11, _), (10, _), (9, _), (8, _), (7, _), (6, _), (5, _), (0, _), (1, _), (2, _), (3, _), (4, _)]) 28 dL_agree_26 rfl rfl rfl ?_
    refine xw_iconst 29 (nI 0) dL_agree_28 rfl (xofI 0) ?_
    refine xw_istore (ls' := [(12, _), (11, _), (10, _), (9, _), (8, _), (7, _), (6, _), (5, _), (0, _), (1, _), (2, _), (3, _), (4, _)]) 31 dL_agree_29 rfl rfl rfl ?_
    exact xW.pick [0, 2, 1, 3, 4, 5, 6, 7, 8, 9, 10, 11, 12] rfl (agA (c := c) I N s60 (zI w 6) 0 (Nat.zero_add _))
theorem ag2 (I : xInv w) (N : lwN w m n) (C : lwC w ch) (B : lwB w be) (S : lwS w st) (U : lwU w) (next : xW G L_agree Qx 407 [(8, .int (nI (zopen w))), (7, .int a7), (6, .int a6), (5, .int a5), (0, .ref 0), (1, .ref 71), (2, .ref 72), (3, .ref 73), (4, .ref 74)] [] (bHp w sv qo (nI m) ql co sx (lT n ch be st J)) x kc ks) : ∀ (t k : Nat), k + t = zI w 7 → xW G L_agree Qx 255 [(9, .int (nI k)), (8, .int (nI (lbare w k))), (7, .int a7), (6, .int a6), (5, .int a5), (0, .ref 0), (1, .ref 71), (2, .ref 72), (3, .ref 73), (4, .ref 74)] [] (bHp w sv qo (nI m) ql co sx (lT n ch be st J)) x (t * 4 + kc) (t * 24 + ks) := by
  have hA1 := I.iA.2.1
  have hA2 := I.iA.2.2
  have hS2 := I.iS.2.2
  have hH2 := I.iH.2.2
  have hR1 := I.iR.2.1
  have hR2 := I.iR.2.2
  have hC1 := I.iC.2.1
  have hC2 := I.iC.2.2
  have hM2 := I.iM.2.2
  have hK1 := I.iK.2.1
  have hK2 := I.iK.2.2
  intro t
  induction t with
  | zero =>
    intro k hi
    obtain rfl : k = zI w 7 := by omega
    simp only [Nat.zero_mul, Nat.zero_add]
    refine xw_iload 257 dL_agree_255 rfl rfl ?_
    refine xw_aload_n 258 dL_agree_257 rfl rfl rfl ?_
    refine xw_bipush 260 (nI 7) dL_agree_258 rfl (by decide) ?_
    refine xw_ialv (j := 7) 261 dL_agree_260 rfl (lT_n) (rfl) (by decide) (by decide) (N.v7 I) ?_
    refine xw_icmp_ge 407 264 dL_agree_261 rfl rfl (fun h261 => ?_) (fun h261 => absurd (nI_le (by omega) (by omega)) h261)
    exact xW.pick [1, 2, 3, 4, 5, 6, 7, 8, 9] rfl (next)
  | succ t ih =>
    intro k hi
    have hk : k < zI w 7 := by omega
    have ih := ih (k + 1) (by omega)
    rw [show (t + 1) * 4 + kc = t * 4 + kc + 4 by omega, show (t + 1) * 24 + ks = t * 24 + ks + 24 by omega]
    have hst : st k = nI (zI w (387 + k)) := (S k hk).trans (I.iB k hk).1
    have hE := I.el hk
    have e3 : zstrand w k 3 = nI (xctr (fun k => decide (bcol be k ≠ bcol ch (xpl (zI w 0) (zI w 1) (zI w 4) (zI w 5) k))) (zI w (387 + k)) (zend w k)) := by
      rw [lw_wr I C B hE.2]
      rfl
    have s331 : xW G L_agree Qx 331 [(11, .int (lhid w k)), (10, .int (nI (zend w k))), (9, .int (nI k)), (8, .int (nI (lbare w (k + 1)))), (7, .int a7), (6, .int a6), (5, .int a5), (0, .ref 0), (1, .ref 71), (2, .ref 72), (3, .ref 73), (4, .ref 74)] [] (bHp w sv qo (nI m) ql co sx (lT n ch be st J)) x (t * 4 + kc + 4) (t * 24 + ks + 24) := by
      refine xw_aload_n 332 dL_agree_331 rfl rfl rfl ?_
      refine xw_iload 334 dL_agree_332 rfl rfl ?_
      refine xw_iconst 335 (nI 0) dL_agree_334 rfl (xofI 0) ?_
      refine xw_lV 338 dL_agree_335 rfl ok_B_strand s_L_80 (xQr_ok (S_B_strand I) (rStr_k I hk (by decide))) (lT_o) rfl rfl rfl rfl rfl rfl rfl rfl rfl ?_
      refine xw_aload 340 dL_agree_338 rfl rfl rfl ?_
      refine xw_iload 342 dL_agree_340 rfl rfl ?_
      refine xw_ialv (j := k) 343 dL_agree_342 rfl (lT_s) (rfl) (by omega) (by omega) (S k hk) ?_
      refine xw_icmp_ne 399 346 dL_agree_343 rfl rfl (fun h343 => absurd (rfl) h343) (fun h343 => ?_)
      refine xw_aload_n 347 dL_agree_346 rfl rfl rfl ?_
      refine xw_iload 349 dL_agree_347 rfl rfl ?_
      refine xw_iconst 350 (nI 1) dL_agree_349 rfl (xofI 1) ?_
      refine xw_lV 353 dL_agree_350 rfl ok_B_strand s_L_80 (xQr_ok (S_B_strand I) (rStr_k I hk (by decide))) (lT_o) rfl rfl rfl rfl rfl rfl rfl rfl rfl ?_
      refine xw_iload 355 dL_agree_353 rfl rfl ?_
      refine xw_aload 357 dL_agree_355 rfl rfl rfl ?_
      refine xw_iload 359 dL_agree_357 rfl rfl ?_
      refine xw_ialv (j := k) 360 dL_agree_359 rfl (lT_s) (rfl) (by omega) (by omega) (hst) ?_
      refine xw_isub 361 dL_agree_360 rfl ?_
      rw [pk_sub hE.1]
      refine xw_icmp_ne 399 364 dL_agree_361 rfl rfl (fun h361 => absurd (rfl) h361) (fun h361 => ?_)
      refine xw_aload_n 365 dL_agree_364 rfl rfl rfl ?_
      refine xw_iload 367 dL_agree_365 rfl rfl ?_
      refine xw_iconst 368 (nI 2) dL_agree_367 rfl (xofI 2) ?_
      refine xw_lV 371 dL_agree_368 rfl ok_B_strand s_L_80 (xQr_ok (S_B_strand I) (rStr_k I hk (by decide))) (lT_o) rfl rfl rfl rfl rfl rfl rfl rfl rfl ?_
      refine xw_iload 373 dL_agree_371 rfl rfl ?_
      refine xw_icmp_ne 399 376 dL_agree_373 rfl rfl (fun h373 => absurd (rfl) h373) (fun h373 => ?_)
      refine xw_aload_n 377 dL_agree_376 rfl rfl rfl ?_
      refine xw_iload 379 dL_agree_377 rfl rfl ?_
      refine xw_iconst 380 (nI 3) dL_agree_379 rfl (xofI 3) ?_
      refine xw_lV 383 dL_agree_380 rfl ok_B_strand s_L_80 (xQr_ok (S_B_strand I) (rStr_k I hk (by decide))) (lT_o) rfl rfl rfl rfl rfl rfl rfl rfl rfl ?_
      refine xw_aload_n 384 dL_agree_383 rfl rfl rfl ?_
      refine xw_aload_n 385 dL_agree_384 rfl rfl rfl ?_
      refine xw_aload_n 386 dL_agree_385 rfl rfl rfl ?_
      refine xw_aload 388 dL_agree_386 rfl rfl rfl ?_
      refine xw_iload 390 dL_agree_388 rfl rfl ?_
      refine xw_ialv (j := k) 391 dL_agree_390 rfl (lT_s) (rfl) (by omega) (by omega) (hst) ?_
      refine xw_iload 393 dL_agree_391 rfl rfl ?_
      refine xw_pS 396 dL_agree_393 rfl ok_L_wrongs s_L_83 (S_L_wrongs lT_n lT_c (N.v0 I) (N.v1 I) (N.v2 I) (N.v3 I) hR1 hR2 hC1 hC2 (by omega) hA2 hS2 lT_b (by omega) (by omega)) (rfl) rfl rfl rfl rfl rfl rfl ?_
      refine xw_icmp_eq 401 399 dL_agree_396 rfl rfl (fun h396 => ?_) (fun h396 => absurd (e3) h396)
      refine xw_iinc (ls' := [(9, _), (11, _), (10, _), (8, _), (7, _), (6, _), (5, _), (0, _), (1, _), (2, _), (3, _), (4, _)]) 404 _ dL_agree_401 rfl rfl (xnI_inc _) rfl rfl ?_
      refine xw_goto 255 dL_agree_404 rfl ?_
      exact xW.pick [0, 3, 4, 5, 6, 7, 8, 9, 10, 11] rfl (ih)
    have s291 : xW G L_agree Qx 291 [(10, .int (nI (zend w k))), (9, .int (nI k)), (8, .int (nI (lbare w k))), (7, .int a7), (6, .int a6), (5, .int a5), (0, .ref 0), (1, .ref 71), (2, .ref 72), (3, .ref 73), (4, .ref 74)] [] (bHp w sv qo (nI m) ql co sx (lT n ch be st J)) x (t * 4 + kc + 4) (t * 24 + ks + 24) := by
      by_cases k0 : k = 0
      · subst k0
        refine xw_iload 293 dL_agree_291 rfl rfl ?_
        refine xw_if_ne 300 296 dL_agree_293 rfl rfl (fun h293 => absurd (rfl) h293) (fun h293 => ?_)
        refine xw_iconst 297 (-1) dL_agree_296 rfl rfl ?_
        refine xw_goto 321 dL_agree_297 rfl ?_
        refine xw_istore (ls' := [(11, _), (10, _), (9, _), (8, _), (7, _), (6, _), (5, _), (0, _), (1, _), (2, _), (3, _), (4, _)]) 323 dL_agree_321 rfl rfl rfl ?_
        refine xw_iload 325 dL_agree_323 rfl rfl ?_
        refine xw_if_ne 331 328 dL_agree_325 rfl rfl (fun h325 => ?_) (fun h325 => absurd h325 (by decide))
        exact xW.pick [0, 1, 2, 3, 4, 5, 6, 7, 8, 9, 10, 11] rfl (s331)
      · obtain ⟨j, rfl⟩ : ∃ j, k = j + 1 := ⟨k - 1, by omega⟩
        by_cases hz : pcol w (zI w (387 + (j + 1))) = w 3
        · have hz2 : zhid w (j + 1) = true := decide_eq_true hz
          have e1 : lhid w (j + 1) = nI 1 := by unfold lhid; rw [if_neg k0, if_pos hz2]
          have e2 : lbare w (j + 1 + 1) = lbare w (j + 1) := xct_n (by simp [hz2])
          rw [e1, e2] at s331
          refine xw_iload 293 dL_agree_291 rfl rfl ?_
          refine xw_if_ne 300 296 dL_agree_293 rfl rfl (fun h293 => ?_) (fun h293 => absurd h293 (nI_ne0 (by omega) (by omega)))
          refine xw_aload_n 301 dL_agree_300 rfl rfl rfl ?_
          refine xw_aload_n 302 dL_agree_301 rfl rfl rfl ?_
          refine xw_aload 304 dL_agree_302 rfl rfl rfl ?_
          refine xw_iload 306 dL_agree_304 rfl rfl ?_
          refine xw_ialv (j := j + 1) 307 dL_agree_306 rfl (lT_s) (rfl) (by omega) (by omega) (hst) ?_
          refine xw_pS 310 dL_agree_307 rfl ok_L_told s_L_14 (S_L_told lT_n lT_c (N.v0 I) (N.v1 I) (N.v2 I) (N.v3 I) hR1 hR2 hC1 hC2 (by omega) hA2 hS2 (by omega)) (rfl) rfl rfl rfl rfl rfl rfl ?_
          rw [lwC.p I C]
          refine xw_aload_n 311 dL_agree_310 rfl rfl rfl ?_
          refine xw_iconst 312 (nI 5) dL_agree_311 rfl (xofI 5) ?_
          refine xw_ialv (j := 5) 313 dL_agree_312 rfl (lT_n) (rfl) (by decide) (by decide) (N.v5) ?_
          refine xw_icmp_ne 320 316 dL_agree_313 rfl rfl (fun h313 => absurd (hz) h313) (fun h313 => ?_)
          refine xw_iconst 317 (nI 1) dL_agree_316 rfl (xofI 1) ?_
          refine xw_goto 321 dL_agree_317 rfl ?_
          refine xw_istore (ls' := [(11, _), (10, _), (9, _), (8, _), (7, _), (6, _), (5, _), (0, _), (1, _), (2, _), (3, _), (4, _)]) 323 dL_agree_321 rfl rfl rfl ?_
          refine xw_iload 325 dL_agree_323 rfl rfl ?_
          refine xw_if_ne 331 328 dL_agree_325 rfl rfl (fun h325 => ?_) (fun h325 => absurd h325 (by decide))
          exact xW.pick [0, 1, 2, 3, 4, 5, 6, 7, 8, 9, 10, 11] rfl (s331)
        · have hz2 : ¬ zhid w (j + 1) = true := fun q => hz (of_decide_eq_true q)
          have e1 : lhid w (j + 1) = nI 0 := by unfold lhid; rw [if_neg k0, if_neg hz2]
          have e2 : lbare w (j + 1 + 1) = lbare w (j + 1) + 1 := xct_y (by simp [hz2])
          rw [e1, e2] at s331
          refine xw_iload 293 dL_agree_291 rfl rfl ?_
          refine xw_if_ne 300 296 dL_agree_293 rfl rfl (fun h293 => ?_) (fun h293 => absurd h293 (nI_ne0 (by omega) (by omega)))
          refine xw_aload_n 301 dL_agree_300 rfl rfl rfl ?_
          refine xw_aload_n 302 dL_agree_301 rfl rfl rfl ?_
          refine xw_aload 304 dL_agree_302 rfl rfl rfl ?_
          refine xw_iload 306 dL_agree_304 rfl rfl ?_
          refine xw_ialv (j := j + 1) 307 dL_agree_306 rfl (lT_s) (rfl) (by omega) (by omega) (hst) ?_
          refine xw_pS 310 dL_agree_307 rfl ok_L_told s_L_14 (S_L_told lT_n lT_c (N.v0 I) (N.v1 I) (N.v2 I) (N.v3 I) hR1 hR2 hC1 hC2 (by omega) hA2 hS2 (by omega)) (rfl) rfl rfl rfl rfl rfl rfl ?_
          rw [lwC.p I C]
          refine xw_aload_n 311 dL_agree_310 rfl rfl rfl ?_
          refine xw_iconst 312 (nI 5) dL_agree_311 rfl (xofI 5) ?_
          refine xw_ialv (j := 5) 313 dL_agree_312 rfl (lT_n) (rfl) (by decide) (by decide) (N.v5) ?_
          refine xw_icmp_ne 320 316 dL_agree_313 rfl rfl (fun h313 => ?_) (fun h313 => absurd h313 (hz))
          refine xw_iconst 321 (nI 0) dL_agree_320 rfl (xofI 0) ?_
          refine xw_istore (ls' := [(11, _), (10, _), (9, _), (8, _), (7, _), (6, _), (5, _), (0, _), (1, _), (2, _), (3, _), (4, _)]) 323 dL_agree_321 rfl rfl rfl ?_
          refine xw_iload 325 dL_agree_323 rfl rfl ?_
          refine xw_if_ne 331 328 dL_agree_325 rfl rfl (fun h325 => absurd (rfl) h325) (fun h325 => ?_)
          refine xw_iinc (ls' := [(8, _), (11, _), (10, _), (9, _), (7, _), (6, _), (5, _), (0, _), (1, _), (2, _), (3, _), (4, _)]) 331 _ dL_agree_328 rfl rfl (xnI_inc _) rfl rfl ?_
          exact xW.pick [1, 2, 3, 0, 4, 5, 6, 7, 8, 9, 10, 11] rfl (s331)
    by_cases h1 : k + 1 < zI w 7
    · have e1 : zend w k = zI w (387 + (k + 1)) := if_pos h1
      rw [e1] at s291
      refine xw_iload 257 dL_agree_255 rfl rfl ?_
      refine xw_aload_n 258 dL_agree_257 rfl rfl rfl ?_
      refine xw_bipush 260 (nI 7) dL_agree_258 rfl (by decide) ?_
      refine xw_ialv (j := 7) 261 dL_agree_260 rfl (lT_n) (rfl) (by decide) (by decide) (N.v7 I) ?_
      refine xw_icmp_ge 407 264 dL_agree_261 rfl rfl (fun h261 => absurd h261 (nI_ge hk (by omega))) (fun h261 => ?_)
      refine xw_iload 266 dL_agree_264 rfl rfl ?_
      refine xw_iconst 267 (nI 1) dL_agree_266 rfl (xofI 1) ?_
      refine xw_iadd 268 dL_agree_267 rfl ?_
      rw [nI_add]
      refine xw_aload_n 269 dL_agree_268 rfl rfl rfl ?_
      refine xw_bipush 271 (nI 7) dL_agree_269 rfl (by decide) ?_
      refine xw_ialv (j := 7) 272 dL_agree_271 rfl (lT_n) (rfl) (by decide) (by decide) (N.v7 I) ?_
      refine xw_icmp_ge 285 275 dL_agree_272 rfl rfl (fun h272 => absurd h272 (nI_ge h1 (by omega))) (fun h272 => ?_)
      refine xw_aload 277 dL_agree_275 rfl rfl rfl ?_
      refine xw_iload 279 dL_agree_277 rfl rfl ?_
      refine xw_iconst 280 (nI 1) dL_agree_279 rfl (xofI 1) ?_
      refine xw_iadd 281 dL_agree_280 rfl ?_
      refine xw_ialv (j := k + 1) 282 dL_agree_281 rfl (lT_s) (nI_add _ _) (by omega) (by omega) ((S (k + 1) h1).trans (I.iB (k + 1) h1).1) ?_
      refine xw_goto 289 dL_agree_282 rfl ?_
      refine xw_istore (ls' := [(10, _), (9, _), (8, _), (7, _), (6, _), (5, _), (0, _), (1, _), (2, _), (3, _), (4, _)]) 291 dL_agree_289 rfl rfl rfl ?_
      exact xW.pick [0, 1, 2, 3, 4, 5, 6, 7, 8, 9, 10] rfl (s291)
    · have e1 : zend w k = zI w 6 := if_neg h1
      rw [e1] at s291
      refine xw_iload 257 dL_agree_255 rfl rfl ?_
      refine xw_aload_n 258 dL_agree_257 rfl rfl rfl ?_
      refine xw_bipush 260 (nI 7) dL_agree_258 rfl (by decide) ?_
      refine xw_ialv (j := 7) 261 dL_agree_260 rfl (lT_n) (rfl) (by decide) (by decide) (N.v7 I) ?_
      refine xw_icmp_ge 407 264 dL_agree_261 rfl rfl (fun h261 => absurd h261 (nI_ge hk (by omega))) (fun h261 => ?_)
      refine xw_iload 266 dL_agree_264 rfl rfl ?_
      refine xw_iconst 267 (nI 1) dL_agree_266 rfl (xofI 1) ?_
      refine xw_iadd 268 dL_agree_267 rfl ?_
      rw [nI_add]
      refine xw_aload_n 269 dL_agree_268 rfl rfl rfl ?_
      refine xw_bipush 271 (nI 7) dL_agree_269 rfl (by decide) ?_
      refine xw_ialv (j := 7) 272 dL_agree_271 rfl (lT_n) (rfl) (by decide) (by decide) (N.v7 I) ?_
      refine xw_icmp_ge 285 275 dL_agree_272 rfl rfl (fun h272 => ?_) (fun h272 => absurd (nI_le (by omega) (by omega)) h272)
      refine xw_aload_n 286 dL_agree_285 rfl rfl rfl ?_
      refine xw_bipush 288 (nI 6) dL_agree_286 rfl (by decide) ?_
      refine xw_ialv (j := 6) 289 dL_agree_288 rfl (lT_n) (rfl) (by decide) (by decide) (N.v6 I) ?_
      refine xw_istore (ls' := [(10, _), (9, _), (8, _), (7, _), (6, _), (5, _), (0, _), (1, _), (2, _), (3, _), (4, _)]) 291 dL_agree_289 rfl rfl rfl ?_
      exact xW.pick [0, 1, 2, 3, 4, 5, 6, 7, 8, 9, 10] rfl (s291)
theorem ag3 (I : xInv w) (N : lwN w m n) (C : lwC w ch) (B : lwB w be) (S : lwS w st) (U : lwU w) (next : xW G L_agree Qx 471 [(8, .int a8), (7, .int a7), (6, .int a6), (5, .int a5), (0, .ref 0), (1, .ref 71), (2, .ref 72), (3, .ref 73), (4, .ref 74)] [] (bHp w sv qo (nI m) ql co sx (lT n ch be st J)) x kc ks) : ∀ (t k : Nat), zI w 6 ≤ k + t → k ≤ 1000 → xW G L_agree Qx 410 [(9, .int (nI k)), (8, .int a8), (7, .int a7), (6, .int a6), (5, .int a5), (0, .ref 0), (1, .ref 71), (2, .ref 72), (3, .ref 73), (4, .ref 74)] [] (bHp w sv qo (nI m) ql co sx (lT n ch be st J)) x (t * 2 + kc) (t * 12 + ks) := by
  have hA1 := I.iA.2.1
  have hA2 := I.iA.2.2
  have hS2 := I.iS.2.2
  have hH2 := I.iH.2.2
  have hR1 := I.iR.2.1
  have hR2 := I.iR.2.2
  have hC1 := I.iC.2.1
  have hC2 := I.iC.2.2
  have hM2 := I.iM.2.2
  have hK1 := I.iK.2.1
  have hK2 := I.iK.2.2
  intro t
  induction t with
  | zero =>
    intro k hi hk2
    simp only [Nat.zero_mul, Nat.zero_add]
    refine xw_iload 412 dL_agree_410 rfl rfl ?_
    refine xw_aload_n 413 dL_agree_412 rfl rfl rfl ?_
    refine xw_bipush 415 (nI 6) dL_agree_413 rfl (by decide) ?_
    refine xw_ialv (j := 6) 416 dL_agree_415 rfl (lT_n) (rfl) (by decide) (by decide) (N.v6 I) ?_
    refine xw_icmp_ge 471 419 dL_agree_416 rfl rfl (fun h416 => ?_) (fun h416 => absurd (nI_le (by omega) (by omega)) h416)
    exact xW.pick [1, 2, 3, 4, 5, 6, 7, 8, 9] rfl (next)
  | succ t ih =>
    intro k hi hk2
    by_cases hk : k < zI w 6
    · have ih := ih (k + (1 + zI w 6 / 20)) (by omega) (by omega)
      rw [show (t + 1) * 2 + kc = t * 2 + kc + 2 by omega, show (t + 1) * 12 + ks = t * 12 + ks + 12 by omega]
      refine xw_iload 412 dL_agree_410 rfl rfl ?_
      refine xw_aload_n 413 dL_agree_412 rfl rfl rfl ?_
      refine xw_bipush 415 (nI 6) dL_agree_413 rfl (by decide) ?_
      refine xw_ialv (j := 6) 416 dL_agree_415 rfl (lT_n) (rfl) (by decide) (by decide) (N.v6 I) ?_
      refine xw_icmp_ge 471 419 dL_agree_416 rfl rfl (fun h416 => absurd h416 (nI_ge hk (by omega))) (fun h416 => ?_)
      refine xw_aload_n 420 dL_agree_419 rfl rfl rfl ?_
      refine xw_iload 422 dL_agree_420 rfl rfl ?_
      refine xw_iconst 423 (nI 0) dL_agree_422 rfl (xofI 0) ?_
      refine xw_lV 426 dL_agree_423 rfl ok_B_bead s_L_87 (xQr_ok (S_B_bead I) (rBead_k I hk (by decide))) (lT_o) rfl rfl rfl rfl rfl rfl rfl rfl rfl ?_
      refine xw_aload_n 427 dL_agree_426 rfl rfl rfl ?_
      refine xw_iload 429 dL_agree_427 rfl rfl ?_
      refine xw_pS 432 dL_agree_429 rfl ok_L_colour s_L_8 (S_L_colour lT_b (by omega) (by omega)) (rfl) rfl rfl rfl rfl rfl rfl ?_
      refine xw_icmp_ne 452 435 dL_agree_432 rfl rfl (fun h432 => absurd ((B k hk).symm) h432) (fun h432 => ?_)
      refine xw_aload_n 436 dL_agree_435 rfl rfl rfl ?_
      refine xw_iload 438 dL_agree_436 rfl rfl ?_
      refine xw_iconst 439 (nI 0) dL_agree_438 rfl (xofI 0) ?_
      refine xw_lV 442 dL_agree_439 rfl ok_B_pattern s_L_90 (xQr_ok (S_B_pattern I) (rPat_k (by omega) (by decide))) (lT_o) rfl rfl rfl rfl rfl rfl rfl rfl rfl ?_
      refine xw_aload_n 443 dL_agree_442 rfl rfl rfl ?_
      refine xw_aload_n 444 dL_agree_443 rfl rfl rfl ?_
      refine xw_iload 446 dL_agree_444 rfl rfl ?_
      refine xw_pS 449 dL_agree_446 rfl ok_L_told s_L_14 (S_L_told lT_n lT_c (N.v0 I) (N.v1 I) (N.v2 I) (N.v3 I) hR1 hR2 hC1 hC2 (by omega) hA2 hS2 (by omega)) (rfl) rfl rfl rfl rfl rfl rfl ?_
      rw [lwC.p I C]
      refine xw_icmp_eq 454 452 dL_agree_449 rfl rfl (fun h449 => ?_) (fun h449 => absurd (rfl) h449)
      refine xw_iload 456 dL_agree_454 rfl rfl ?_
      refine xw_iconst 457 (nI 1) dL_agree_456 rfl (xofI 1) ?_
      refine xw_aload_n 458 dL_agree_457 rfl rfl rfl ?_
      refine xw_bipush 460 (nI 6) dL_agree_458 rfl (by decide) ?_
      refine xw_ialv (j := 6) 461 dL_agree_460 rfl (lT_n) (rfl) (by decide) (by decide) (N.v6 I) ?_
      refine xw_bipush 463 (nI 20) dL_agree_461 rfl (by decide) ?_
      refine xw_idiv 464 dL_agree_463 rfl (nI_ne0 (by decide) (by decide)) ?_
      rw [pk_div (by omega) (by decide) (by decide)]
      refine xw_iadd 465 dL_agree_464 rfl ?_
      rw [nI_add]
      refine xw_iadd 466 dL_agree_465 rfl ?_
      rw [nI_add]
      refine xw_istore (ls' := [(9, _), (8, _), (7, _), (6, _), (5, _), (0, _), (1, _), (2, _), (3, _), (4, _)]) 468 dL_agree_466 rfl rfl rfl ?_
      refine xw_goto 410 dL_agree_468 rfl ?_
      exact xW.pick [0, 1, 2, 3, 4, 5, 6, 7, 8, 9] rfl (ih)
    · refine xW.less (kc' := kc) (ks' := ks) (by omega) (by omega) ?_
      refine xw_iload 412 dL_agree_410 rfl rfl ?_
      refine xw_aload_n 413 dL_agree_412 rfl rfl rfl ?_
      refine xw_bipush 415 (nI 6) dL_agree_413 rfl (by decide) ?_
      refine xw_ialv (j := 6) 416 dL_agree_415 rfl (lT_n) (rfl) (by decide) (by decide) (N.v6 I) ?_
      refine xw_icmp_ge 471 419 dL_agree_416 rfl rfl (fun h416 => ?_) (fun h416 => absurd (nI_le (by omega) (by omega)) h416)
      exact xW.pick [1, 2, 3, 4, 5, 6, 7, 8, 9] rfl (next)
theorem agE (I : xInv w) (N : lwN w m n) (C : lwC w ch) (B : lwB w be) (S : lwS w st) (U : lwU w) : xW G L_agree (xRetV (.int (nI 1)) (bHp w sv qo (nI m) ql co sx (lT n ch be st J))) 471 [(8, .int (nI (zopen w))), (7, .int (xsum (fun k => w (21 + k)) 6)), (6, .int (xsum (fun k => w (15 + k)) 6)), (5, .int (xsum (fun k => w (9 + k)) 6)), (0, .ref 0), (1, .ref 71), (2, .ref 72), (3, .ref 73), (4, .ref 74)] [] (bHp w sv qo (nI m) ql co sx (lT n ch be st J)) x 12 72 := by
  have hA1 := I.iA.2.1
  have hA2 := I.iA.2.2
  have hS2 := I.iS.2.2
  have hH2 := I.iH.2.2
  have hR1 := I.iR.2.1
  have hR2 := I.iR.2.2
  have hC1 := I.iC.2.1
  have hC2 := I.iC.2.2
  have hM2 := I.iM.2.2
  have hK1 := I.iK.2.1
  have hK2 := I.iK.2.2
  have hst : st (zI w 7 - 1) = nI (zI w (387 + (zI w 7 - 1))) := (S _ (by omega)).trans (I.iB _ (by omega)).1
  have hb : zI w (387 + (zI w 7 - 1)) ≤ zI w 6 := (I.iB _ (by omega)).2.2
  have e4 : znum w (nI m) 4 = nI (xctr (fun k => decide (bcol be k ≠ bcol ch (xpl (zI w 0) (zI w 1) (zI w 4) (zI w 5) k))) 0 (zI w 6)) := by
    rw [lw_wr I C B (Nat.le_refl _)]
    rfl
  have hz : zend w (zI w 7 - 1) = zI w 6 := if_neg (by omega)
  have e11 : znum w (nI m) 11 = if nI 0 < nI (zI w 2) - nI (zI w 6 - zI w (387 + (zI w 7 - 1))) then nI (zI w 2) - nI (zI w 6 - zI w (387 + (zI w 7 - 1))) else nI 0 := by
    show zroom w = _
    unfold zroom zlen
    rw [hz, I.iH.1]
  by_cases hr : 0 ≤ nI (zI w 2) - nI (zI w 6 - zI w (387 + (zI w 7 - 1)))
  · have e12 : znum w (nI m) 11 = nI (zI w 2) - nI (zI w 6 - zI w (387 + (zI w 7 - 1))) := by
      rw [e11]
      by_cases h0 : nI 0 < nI (zI w 2) - nI (zI w 6 - zI w (387 + (zI w 7 - 1)))
      · rw [if_pos h0]
      · rw [if_neg h0]
        exact Int32.le_antisymm hr (Int32.not_lt.mp h0)
    refine xw_aload_n 472 dL_agree_471 rfl rfl rfl ?_
    refine xw_iconst 473 (nI 4) dL_agree_472 rfl (xofI 4) ?_
    refine xw_ialv (j := 4) 474 dL_agree_473 rfl (lT_n) (rfl) (by decide) (by decide) (N.v4 I) ?_
    refine xw_aload_n 475 dL_agree_474 rfl rfl rfl ?_
    refine xw_bipush 477 (nI 6) dL_agree_475 rfl (by decide) ?_
    refine xw_ialv (j := 6) 478 dL_agree_477 rfl (lT_n) (rfl) (by decide) (by decide) (N.v6 I) ?_
    refine xw_isub 479 dL_agree_478 rfl ?_
    refine xw_aload 481 dL_agree_479 rfl rfl rfl ?_
    refine xw_aload_n 482 dL_agree_481 rfl rfl rfl ?_
    refine xw_bipush 484 (nI 7) dL_agree_482 rfl (by decide) ?_
    refine xw_ialv (j := 7) 485 dL_agree_484 rfl (lT_n) (rfl) (by decide) (by decide) (N.v7 I) ?_
    refine xw_iconst 486 (nI 1) dL_agree_485 rfl (xofI 1) ?_
    refine xw_isub 487 dL_agree_486 rfl ?_
    rw [pk_sub hK1]
    refine xw_ialv (j := zI w 7 - 1) 488 dL_agree_487 rfl (lT_s) (rfl) (by omega) (by omega) (hst) ?_
    refine xw_iadd 489 dL_agree_488 rfl ?_
    rw [i_abc, pk_sub hb]
    refine xw_istore (ls' := [(9, _), (8, _), (7, _), (6, _), (5, _), (0, _), (1, _), (2, _), (3, _), (4, _)]) 491 dL_agree_489 rfl rfl rfl ?_
    refine xw_aload_n 492 dL_agree_491 rfl rfl rfl ?_
    refine xw_iconst 493 (nI 0) dL_agree_492 rfl (xofI 0) ?_
    refine xw_lV 496 dL_agree_493 rfl ok_B_count s_L_47 (xQr_ok (S_B_count I) (rCnt_k (by decide))) (lT_o) rfl rfl rfl rfl rfl rfl rfl rfl rfl ?_
    refine xw_aload_n 497 dL_agree_496 rfl rfl rfl ?_
    refine xw_iconst 498 (nI 0) dL_agree_497 rfl (xofI 0) ?_
    refine xw_ialv (j := 0) 499 dL_agree_498 rfl (lT_n) (rfl) (by decide) (by decide) (N.1) ?_
    refine xw_icmp_ne 649 502 dL_agree_499 rfl rfl (fun h499 => absurd (rfl) h499) (fun h499 => ?_)
    refine xw_aload_n 503 dL_agree_502 rfl rfl rfl ?_
    refine xw_iconst 504 (nI 1) dL_agree_503 rfl (xofI 1) ?_
    refine xw_lV 507 dL_agree_504 rfl ok_B_count s_L_47 (xQr_ok (S_B_count I) (rCnt_k (by decide))) (lT_o) rfl rfl rfl rfl rfl rfl rfl rfl rfl ?_
    refine xw_aload_n 508 dL_agree_507 rfl rfl rfl ?_
    refine xw_iconst 509 (nI 1) dL_agree_508 rfl (xofI 1) ?_
    refine xw_ialv (j := 1) 510 dL_agree_509 rfl (lT_n) (rfl) (by decide) (by decide) (N.2.1) ?_
    refine xw_icmp_ne 649 513 dL_agree_510 rfl rfl (fun h510 => absurd (rfl) h510) (fun h510 => ?_)
    refine xw_aload_n 514 dL_agree_513 rfl rfl rfl ?_
    refine xw_iconst 515 (nI 2) dL_agree_514 rfl (xofI 2) ?_
    refine xw_lV 518 dL_agree_515 rfl ok_B_count s_L_47 (xQr_ok (S_B_count I) (rCnt_k (by decide))) (lT_o) rfl rfl rfl rfl rfl rfl rfl rfl rfl ?_
    refine xw_aload_n 519 dL_agree_518 rfl rfl rfl ?_
    refine xw_bipush 521 (nI 6) dL_agree_519 rfl (by decide) ?_
    refine xw_ialv (j := 6) 522 dL_agree_521 rfl (lT_n) (rfl) (by decide) (by decide) (N.2.2.2.2.2.2.1) ?_
    refine xw_icmp_ne 649 525 dL_agree_522 rfl rfl (fun h522 => absurd (rfl) h522) (fun h522 => ?_)
    refine xw_aload_n 526 dL_agree_525 rfl rfl rfl ?_
    refine xw_iconst 527 (nI 3) dL_agree_526 rfl (xofI 3) ?_
    refine xw_lV 530 dL_agree_527 rfl ok_B_count s_L_47 (xQr_ok (S_B_count I) (rCnt_k (by decide))) (lT_o) rfl rfl rfl rfl rfl rfl rfl rfl rfl ?_
    refine xw_aload_n 531 dL_agree_530 rfl rfl rfl ?_
    refine xw_bipush 533 (nI 7) dL_agree_531 rfl (by decide) ?_
    refine xw_ialv (j := 7) 534 dL_agree_533 rfl (lT_n) (rfl) (by decide) (by decide) (N.2.2.2.2.2.2.2.1) ?_
    refine xw_icmp_ne 649 537 dL_agree_534 rfl rfl (fun h534 => absurd (rfl) h534) (fun h534 => ?_)
    refine xw_aload_n 538 dL_agree_537 rfl rfl rfl ?_
    refine xw_iconst 539 (nI 4) dL_agree_538 rfl (xofI 4) ?_
    refine xw_lV 542 dL_agree_539 rfl ok_B_count s_L_47 (xQr_ok (S_B_count I) (rCnt_k (by decide))) (lT_o) rfl rfl rfl rfl rfl rfl rfl rfl rfl ?_
    refine xw_aload_n 543 dL_agree_542 rfl rfl rfl ?_
    refine xw_aload_n 544 dL_agree_543 rfl rfl rfl ?_
    refine xw_aload_n 545 dL_agree_544 rfl rfl rfl ?_
    refine xw_iconst 546 (nI 0) dL_agree_545 rfl (xofI 0) ?_
    refine xw_aload_n 547 dL_agree_546 rfl rfl rfl ?_
    refine xw_bipush 549 (nI 6) dL_agree_547 rfl (by decide) ?_
    refine xw_ialv (j := 6) 550 dL_agree_549 rfl (lT_n) (rfl) (by decide) (by decide) (N.v6 I) ?_
    refine xw_pS 553 dL_agree_550 rfl ok_L_wrongs s_L_83 (S_L_wrongs lT_n lT_c (N.v0 I) (N.v1 I) (N.v2 I) (N.v3 I) hR1 hR2 hC1 hC2 (by omega) hA2 hS2 lT_b (by omega) (by omega)) (rfl) rfl rfl rfl rfl rfl rfl ?_
    refine xw_icmp_ne 649 556 dL_agree_553 rfl rfl (fun h553 => absurd (e4) h553) (fun h553 => ?_)
    refine xw_aload_n 557 dL_agree_556 rfl rfl rfl ?_
    refine xw_iconst 558 (nI 5) dL_agree_557 rfl (xofI 5) ?_
    refine xw_lV 561 dL_agree_558 rfl ok_B_count s_L_47 (xQr_ok (S_B_count I) (rCnt_k (by decide))) (lT_o) rfl rfl rfl rfl rfl rfl rfl rfl rfl ?_
    refine xw_iload 563 dL_agree_561 rfl rfl ?_
    refine xw_icmp_ne 649 566 dL_agree_563 rfl rfl (fun h563 => absurd (rfl) h563) (fun h563 => ?_)
    refine xw_aload_n 567 dL_agree_566 rfl rfl rfl ?_
    refine xw_bipush 569 (nI 6) dL_agree_567 rfl (by decide) ?_
    refine xw_lV 572 dL_agree_569 rfl ok_B_count s_L_47 (xQr_ok (S_B_count I) (rCnt_k (by decide))) (lT_o) rfl rfl rfl rfl rfl rfl rfl rfl rfl ?_
    refine xw_iload 574 dL_agree_572 rfl rfl ?_
    refine xw_icmp_ne 649 577 dL_agree_574 rfl rfl (fun h574 => absurd (rfl) h574) (fun h574 => ?_)
    refine xw_aload_n 578 dL_agree_577 rfl rfl rfl ?_
    refine xw_bipush 580 (nI 7) dL_agree_578 rfl (by decide) ?_
    refine xw_lV 583 dL_agree_580 rfl ok_B_count s_L_47 (xQr_ok (S_B_count I) (rCnt_k (by decide))) (lT_o) rfl rfl rfl rfl rfl rfl rfl rfl rfl ?_
    refine xw_iload 585 dL_agree_583 rfl rfl ?_
    refine xw_icmp_ne 649 588 dL_agree_585 rfl rfl (fun h585 => absurd (rfl) h585) (fun h585 => ?_)
    refine xw_aload_n 589 dL_agree_588 rfl rfl rfl ?_
    refine xw_bipush 591 (nI 8) dL_agree_589 rfl (by decide) ?_
    refine xw_lV 594 dL_agree_591 rfl ok_B_count s_L_47 (xQr_ok (S_B_count I) (rCnt_k (by decide))) (lT_o) rfl rfl rfl rfl rfl rfl rfl rfl rfl ?_
    refine xw_iload 596 dL_agree_594 rfl rfl ?_
    refine xw_icmp_ne 649 599 dL_agree_596 rfl rfl (fun h596 => absurd (rfl) h596) (fun h596 => ?_)
    refine xw_aload_n 600 dL_agree_599 rfl rfl rfl ?_
    refine xw_bipush 602 (nI 9) dL_agree_600 rfl (by decide) ?_
    refine xw_lV 605 dL_agree_602 rfl ok_B_count s_L_47 (xQr_ok (S_B_count I) (rCnt_k (by decide))) (lT_o) rfl rfl rfl rfl rfl rfl rfl rfl rfl ?_
    refine xw_aload_n 606 dL_agree_605 rfl rfl rfl ?_
    refine xw_bipush 608 (nI 8) dL_agree_606 rfl (by decide) ?_
    refine xw_ialv (j := 8) 609 dL_agree_608 rfl (lT_n) (rfl) (by decide) (by decide) (N.v8) ?_
    refine xw_icmp_ne 649 612 dL_agree_609 rfl rfl (fun h609 => absurd (rfl) h609) (fun h609 => ?_)
    refine xw_aload_n 613 dL_agree_612 rfl rfl rfl ?_
    refine xw_bipush 615 (nI 11) dL_agree_613 rfl (by decide) ?_
    refine xw_lV 618 dL_agree_615 rfl ok_B_count s_L_47 (xQr_ok (S_B_count I) (rCnt_k (by decide))) (lT_o) rfl rfl rfl rfl rfl rfl rfl rfl rfl ?_
    refine xw_iload 620 dL_agree_618 rfl rfl ?_
    refine xw_if_ge 627 623 dL_agree_620 rfl rfl (fun h620 => ?_) (fun h620 => absurd (hr) h620)
    refine xw_iload 629 dL_agree_627 rfl rfl ?_
    refine xw_icmp_ne 649 632 dL_agree_629 rfl rfl (fun h629 => absurd (e12) h629) (fun h629 => ?_)
    refine xw_aload_n 633 dL_agree_632 rfl rfl rfl ?_
    refine xw_bipush 635 (nI 12) dL_agree_633 rfl (by decide) ?_
    refine xw_lV 638 dL_agree_635 rfl ok_B_count s_L_47 (xQr_ok (S_B_count I) (rCnt_k (by decide))) (lT_o) rfl rfl rfl rfl rfl rfl rfl rfl rfl ?_
    refine xw_aload_n 639 dL_agree_638 rfl rfl rfl ?_
    refine xw_bipush 641 (nI 9) dL_agree_639 rfl (by decide) ?_
    refine xw_ialv (j := 9) 642 dL_agree_641 rfl (lT_n) (rfl) (by decide) (by decide) (N.v9) ?_
    refine xw_icmp_ne 649 645 dL_agree_642 rfl rfl (fun h642 => absurd (rfl) h642) (fun h642 => ?_)
    refine xw_iconst 646 (nI 1) dL_agree_645 rfl (xofI 1) ?_
    refine xw_goto 650 dL_agree_646 rfl ?_
    exact xw_zreturn dL_agree_650 rfl (by decide) (⟨rfl, rfl⟩)
  · have e12 : znum w (nI m) 11 = nI 0 := e11.trans (if_neg (fun h => hr (Int32.le_of_lt h)))
    refine xw_aload_n 472 dL_agree_471 rfl rfl rfl ?_
    refine xw_iconst 473 (nI 4) dL_agree_472 rfl (xofI 4) ?_
    refine xw_ialv (j := 4) 474 dL_agree_473 rfl (lT_n) (rfl) (by decide) (by decide) (N.v4 I) ?_
    refine xw_aload_n 475 dL_agree_474 rfl rfl rfl ?_
    refine xw_bipush 477 (nI 6) dL_agree_475 rfl (by decide) ?_
    refine xw_ialv (j := 6) 478 dL_agree_477 rfl (lT_n) (rfl) (by decide) (by decide) (N.v6 I) ?_
    refine xw_isub 479 dL_agree_478 rfl ?_
    refine xw_aload 481 dL_agree_479 rfl rfl rfl ?_
    refine xw_aload_n 482 dL_agree_481 rfl rfl rfl ?_
    refine xw_bipush 484 (nI 7) dL_agree_482 rfl (by decide) ?_
    refine xw_ialv (j := 7) 485 dL_agree_484 rfl (lT_n) (rfl) (by decide) (by decide) (N.v7 I) ?_
    refine xw_iconst 486 (nI 1) dL_agree_485 rfl (xofI 1) ?_
    refine xw_isub 487 dL_agree_486 rfl ?_
    rw [pk_sub hK1]
    refine xw_ialv (j := zI w 7 - 1) 488 dL_agree_487 rfl (lT_s) (rfl) (by omega) (by omega) (hst) ?_
    refine xw_iadd 489 dL_agree_488 rfl ?_
    rw [i_abc, pk_sub hb]
    refine xw_istore (ls' := [(9, _), (8, _), (7, _), (6, _), (5, _), (0, _), (1, _), (2, _), (3, _), (4, _)]) 491 dL_agree_489 rfl rfl rfl ?_
    refine xw_aload_n 492 dL_agree_491 rfl rfl rfl ?_
    refine xw_iconst 493 (nI 0) dL_agree_492 rfl (xofI 0) ?_
    refine xw_lV 496 dL_agree_493 rfl ok_B_count s_L_47 (xQr_ok (S_B_count I) (rCnt_k (by decide))) (lT_o) rfl rfl rfl rfl rfl rfl rfl rfl rfl ?_
    refine xw_aload_n 497 dL_agree_496 rfl rfl rfl ?_
    refine xw_iconst 498 (nI 0) dL_agree_497 rfl (xofI 0) ?_
    refine xw_ialv (j := 0) 499 dL_agree_498 rfl (lT_n) (rfl) (by decide) (by decide) (N.1) ?_
    refine xw_icmp_ne 649 502 dL_agree_499 rfl rfl (fun h499 => absurd (rfl) h499) (fun h499 => ?_)
    refine xw_aload_n 503 dL_agree_502 rfl rfl rfl ?_
    refine xw_iconst 504 (nI 1) dL_agree_503 rfl (xofI 1) ?_
    refine xw_lV 507 dL_agree_504 rfl ok_B_count s_L_47 (xQr_ok (S_B_count I) (rCnt_k (by decide))) (lT_o) rfl rfl rfl rfl rfl rfl rfl rfl rfl ?_
    refine xw_aload_n 508 dL_agree_507 rfl rfl rfl ?_
    refine xw_iconst 509 (nI 1) dL_agree_508 rfl (xofI 1) ?_
    refine xw_ialv (j := 1) 510 dL_agree_509 rfl (lT_n) (rfl) (by decide) (by decide) (N.2.1) ?_
    refine xw_icmp_ne 649 513 dL_agree_510 rfl rfl (fun h510 => absurd (rfl) h510) (fun h510 => ?_)
    refine xw_aload_n 514 dL_agree_513 rfl rfl rfl ?_
    refine xw_iconst 515 (nI 2) dL_agree_514 rfl (xofI 2) ?_
    refine xw_lV 518 dL_agree_515 rfl ok_B_count s_L_47 (xQr_ok (S_B_count I) (rCnt_k (by decide))) (lT_o) rfl rfl rfl rfl rfl rfl rfl rfl rfl ?_
    refine xw_aload_n 519 dL_agree_518 rfl rfl rfl ?_
    refine xw_bipush 521 (nI 6) dL_agree_519 rfl (by decide) ?_
    refine xw_ialv (j := 6) 522 dL_agree_521 rfl (lT_n) (rfl) (by decide) (by decide) (N.2.2.2.2.2.2.1) ?_
    refine xw_icmp_ne 649 525 dL_agree_522 rfl rfl (fun h522 => absurd (rfl) h522) (fun h522 => ?_)
    refine xw_aload_n 526 dL_agree_525 rfl rfl rfl ?_
    refine xw_iconst 527 (nI 3) dL_agree_526 rfl (xofI 3) ?_
    refine xw_lV 530 dL_agree_527 rfl ok_B_count s_L_47 (xQr_ok (S_B_count I) (rCnt_k (by decide))) (lT_o) rfl rfl rfl rfl rfl rfl rfl rfl rfl ?_
    refine xw_aload_n 531 dL_agree_530 rfl rfl rfl ?_
    refine xw_bipush 533 (nI 7) dL_agree_531 rfl (by decide) ?_
    refine xw_ialv (j := 7) 534 dL_agree_533 rfl (lT_n) (rfl) (by decide) (by decide) (N.2.2.2.2.2.2.2.1) ?_
    refine xw_icmp_ne 649 537 dL_agree_534 rfl rfl (fun h534 => absurd (rfl) h534) (fun h534 => ?_)
    refine xw_aload_n 538 dL_agree_537 rfl rfl rfl ?_
    refine xw_iconst 539 (nI 4) dL_agree_538 rfl (xofI 4) ?_
    refine xw_lV 542 dL_agree_539 rfl ok_B_count s_L_47 (xQr_ok (S_B_count I) (rCnt_k (by decide))) (lT_o) rfl rfl rfl rfl rfl rfl rfl rfl rfl ?_
    refine xw_aload_n 543 dL_agree_542 rfl rfl rfl ?_
    refine xw_aload_n 544 dL_agree_543 rfl rfl rfl ?_
    refine xw_aload_n 545 dL_agree_544 rfl rfl rfl ?_
    refine xw_iconst 546 (nI 0) dL_agree_545 rfl (xofI 0) ?_
    refine xw_aload_n 547 dL_agree_546 rfl rfl rfl ?_
    refine xw_bipush 549 (nI 6) dL_agree_547 rfl (by decide) ?_
    refine xw_ialv (j := 6) 550 dL_agree_549 rfl (lT_n) (rfl) (by decide) (by decide) (N.v6 I) ?_
    refine xw_pS 553 dL_agree_550 rfl ok_L_wrongs s_L_83 (S_L_wrongs lT_n lT_c (N.v0 I) (N.v1 I) (N.v2 I) (N.v3 I) hR1 hR2 hC1 hC2 (by omega) hA2 hS2 lT_b (by omega) (by omega)) (rfl) rfl rfl rfl rfl rfl rfl ?_
    refine xw_icmp_ne 649 556 dL_agree_553 rfl rfl (fun h553 => absurd (e4) h553) (fun h553 => ?_)
    refine xw_aload_n 557 dL_agree_556 rfl rfl rfl ?_
    refine xw_iconst 558 (nI 5) dL_agree_557 rfl (xofI 5) ?_
    refine xw_lV 561 dL_agree_558 rfl ok_B_count s_L_47 (xQr_ok (S_B_count I) (rCnt_k (by decide))) (lT_o) rfl rfl rfl rfl rfl rfl rfl rfl rfl ?_
    refine xw_iload 563 dL_agree_561 rfl rfl ?_
    refine xw_icmp_ne 649 566 dL_agree_563 rfl rfl (fun h563 => absurd (rfl) h563) (fun h563 => ?_)
    refine xw_aload_n 567 dL_agree_566 rfl rfl rfl ?_
    refine xw_bipush 569 (nI 6) dL_agree_567 rfl (by decide) ?_
    refine xw_lV 572 dL_agree_569 rfl ok_B_count s_L_47 (xQr_ok (S_B_count I) (rCnt_k (by decide))) (lT_o) rfl rfl rfl rfl rfl rfl rfl rfl rfl ?_
    refine xw_iload 574 dL_agree_572 rfl rfl ?_
    refine xw_icmp_ne 649 577 dL_agree_574 rfl rfl (fun h574 => absurd (rfl) h574) (fun h574 => ?_)
    refine xw_aload_n 578 dL_agree_577 rfl rfl rfl ?_
    refine xw_bipush 580 (nI 7) dL_agree_578 rfl (by decide) ?_
    refine xw_lV 583 dL_agree_580 rfl ok_B_count s_L_47 (xQr_ok (S_B_count I) (rCnt_k (by decide))) (lT_o) rfl rfl rfl rfl rfl rfl rfl rfl rfl ?_
    refine xw_iload 585 dL_agree_583 rfl rfl ?_
    refine xw_icmp_ne 649 588 dL_agree_585 rfl rfl (fun h585 => absurd (rfl) h585) (fun h585 => ?_)
    refine xw_aload_n 589 dL_agree_588 rfl rfl rfl ?_
    refine xw_bipush 591 (nI 8) dL_agree_589 rfl (by decide) ?_
    refine xw_lV 594 dL_agree_591 rfl ok_B_count s_L_47 (xQr_ok (S_B_count I) (rCnt_k (by decide))) (lT_o) rfl rfl rfl rfl rfl rfl rfl rfl rfl ?_
    refine xw_iload 596 dL_agree_594 rfl rfl ?_
    refine xw_icmp_ne 649 599 dL_agree_596 rfl rfl (fun h596 => absurd (rfl) h596) (fun h596 => ?_)
    refine xw_aload_n 600 dL_agree_599 rfl rfl rfl ?_
    refine xw_bipush 602 (nI 9) dL_agree_600 rfl (by decide) ?_
    refine xw_lV 605 dL_agree_602 rfl ok_B_count s_L_47 (xQr_ok (S_B_count I) (rCnt_k (by decide))) (lT_o) rfl rfl rfl rfl rfl rfl rfl rfl rfl ?_
    refine xw_aload_n 606 dL_agree_605 rfl rfl rfl ?_
    refine xw_bipush 608 (nI 8) dL_agree_606 rfl (by decide) ?_
    refine xw_ialv (j := 8) 609 dL_agree_608 rfl (lT_n) (rfl) (by decide) (by decide) (N.v8) ?_
    refine xw_icmp_ne 649 612 dL_agree_609 rfl rfl (fun h609 => absurd (rfl) h609) (fun h609 => ?_)
    refine xw_aload_n 613 dL_agree_612 rfl rfl rfl ?_
    refine xw_bipush 615 (nI 11) dL_agree_613 rfl (by decide) ?_
    refine xw_lV 618 dL_agree_615 rfl ok_B_count s_L_47 (xQr_ok (S_B_count I) (rCnt_k (by decide))) (lT_o) rfl rfl rfl rfl rfl rfl rfl rfl rfl ?_
    refine xw_iload 620 dL_agree_618 rfl rfl ?_
    refine xw_if_ge 627 623 dL_agree_620 rfl rfl (fun h620 => absurd h620 (hr)) (fun h620 => ?_)
    refine xw_iconst 624 (nI 0) dL_agree_623 rfl (xofI 0) ?_
    refine xw_goto 629 dL_agree_624 rfl ?_
    refine xw_icmp_ne 649 632 dL_agree_629 rfl rfl (fun h629 => absurd (e12) h629) (fun h629 => ?_)
    refine xw_aload_n 633 dL_agree_632 rfl rfl rfl ?_
    refine xw_bipush 635 (nI 12) dL_agree_633 rfl (by decide) ?_
    refine xw_lV 638 dL_agree_635 rfl ok_B_count s_L_47 (xQr_ok (S_B_count I) (rCnt_k (by decide))) (lT_o) rfl rfl rfl rfl rfl rfl rfl rfl rfl ?_
    refine xw_aload_n 639 dL_agree_638 rfl rfl rfl ?_
    refine xw_bipush 641 (nI 9) dL_agree_639 rfl (by decide) ?_
    refine xw_ialv (j := 9) 642 dL_agree_641 rfl (lT_n) (rfl) (by decide) (by decide) (N.v9) ?_
    refine xw_icmp_ne 649 645 dL_agree_642 rfl rfl (fun h642 => absurd (rfl) h642) (fun h642 => ?_)
    refine xw_iconst 646 (nI 1) dL_agree_645 rfl (xofI 1) ?_
    refine xw_goto 650 dL_agree_646 rfl ?_
    exact xw_zreturn dL_agree_650 rfl (by decide) (⟨rfl, rfl⟩)
theorem S_L_agree (I : xInv w) (N : lwN w m n) (C : lwC w ch) (B : lwB w be) (S : lwS w st) (U : lwU w) : xMet G L_agree [.ref 0, .ref 71, .ref 72, .ref 73, .ref 74] (bHp w sv qo (nI m) ql co sx (lT n ch be st J)) x 714 4284 (xRetV (.int (nI 1)) (bHp w sv qo (nI m) ql co sx (lT n ch be st J))) := by
  have hA1 := I.iA.2.1
  have hA2 := I.iA.2.2
  have hS2 := I.iS.2.2
  have hH2 := I.iH.2.2
  have hR1 := I.iR.2.1
  have hR2 := I.iR.2.2
  have hC1 := I.iC.2.1
  have hC2 := I.iC.2.2
  have hM2 := I.iM.2.2
  have hK1 := I.iK.2.1
  have hK2 := I.iK.2.2
  have s407 : xW G L_agree (xRetV (.int (nI 1)) (bHp w sv qo (nI m) ql co sx (lT n ch be st J))) 407 [(8, .int (nI (zopen w))), (7, .int (xsum (fun k => w (21 + k)) 6)), (6, .int (xsum (fun k => w (15 + k)) 6)), (5, .int (xsum (fun k => w (9 + k)) 6)), (0, .ref 0), (1, .ref 71), (2, .ref 72), (3, .ref 73), (4, .ref 74)] [] (bHp w sv qo (nI m) ql co sx (lT n ch be st J)) x (240 * 2 + 12) (240 * 12 + 72) := by
    refine xw_iconst 408 (nI 0) dL_agree_407 rfl (xofI 0) ?_
    refine xw_istore (ls' := [(9, _), (8, _), (7, _), (6, _), (5, _), (0, _), (1, _), (2, _), (3, _), (4, _)]) 410 dL_agree_408 rfl rfl rfl ?_
    exact xW.pick [0, 1, 2, 3, 4, 5, 6, 7, 8, 9] rfl (ag3 I N C B S U (agE I N C B S U) 240 0 (by omega) (by omega))
  have s252 : xW G L_agree (xRetV (.int (nI 1)) (bHp w sv qo (nI m) ql co sx (lT n ch be st J))) 252 [(8, .int (nI 0)), (7, .int (xsum (fun k => w (21 + k)) 6)), (6, .int (xsum (fun k => w (15 + k)) 6)), (5, .int (xsum (fun k => w (9 + k)) 6)), (0, .ref 0), (1, .ref 71), (2, .ref 72), (3, .ref 73), (4, .ref 74)] [] (bHp w sv qo (nI m) ql co sx (lT n ch be st J)) x (zI w 7 * 4 + (240 * 2 + 12)) (zI w 7 * 24 + (240 * 12 + 72)) := by
    refine xw_iconst 253 (nI 0) dL_agree_252 rfl (xofI 0) ?_
    refine xw_istore (ls' := [(9, _), (8, _), (7, _), (6, _), (5, _), (0, _), (1, _), (2, _), (3, _), (4, _)]) 255 dL_agree_253 rfl rfl rfl ?_
    exact xW.pick [0, 1, 2, 3, 4, 5, 6, 7, 8, 9] rfl (ag2 I N C B S U s407 (zI w 7) 0 (Nat.zero_add _))
  refine xW.less (kc' := 6 * 5 + (zI w 7 * 4 + (240 * 2 + 12))) (ks' := 6 * 30 + (zI w 7 * 24 + (240 * 12 + 72))) (by omega) (by omega) ?_
  refine xw_iconst 1 (nI 0) dL_agree_0 rfl (xofI 0) ?_
  refine xw_istore (ls' := [(5, _), (0, _), (1, _), (2, _), (3, _), (4, _)]) 3 dL_agree_1 rfl rfl rfl ?_
  refine xw_iconst 4 (nI 0) dL_agree_3 rfl (xofI 0) ?_
  refine xw_istore (ls' := [(6, _), (5, _), (0, _), (1, _), (2, _), (3, _), (4, _)]) 6 dL_agree_4 rfl rfl rfl ?_
  refine xw_iconst 7 (nI 0) dL_agree_6 rfl (xofI 0) ?_
  refine xw_istore (ls' := [(7, _), (6, _), (5, _), (0, _), (1, _), (2, _), (3, _), (4, _)]) 9 dL_agree_7 rfl rfl rfl ?_
  refine xw_iconst 10 (nI 0) dL_agree_9 rfl (xofI 0) ?_
  refine xw_istore (ls' := [(8, _), (7, _), (6, _), (5, _), (0, _), (1, _), (2, _), (3, _), (4, _)]) 12 dL_agree_10 rfl rfl rfl ?_
  refine xw_iconst 13 (nI 0) dL_agree_12 rfl (xofI 0) ?_
  refine xw_istore (ls' := [(9, _), (8, _), (7, _), (6, _), (5, _), (0, _), (1, _), (2, _), (3, _), (4, _)]) 15 dL_agree_13 rfl rfl rfl ?_
  exact xW.pick [0, 1, 2, 3, 4, 5, 6, 7, 8, 9] rfl (ag1 I N C B S U s252 6 0 rfl)
end P43

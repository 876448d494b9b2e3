/-! ===== the workshop's calls that change: join, recolour, turn, load, strings ===== -/
section P33
variable {G : xG} {x : Nat} {w : Nat → Int32} {sv : Nat → Nat → Int32} {q m ln : Nat} {co : Nat → Int32} {sx : xSx} {T : List xE}
def oJoi (s : xCS) : (Nat × Int32) × xCS := if zlen s.1 (zI s.1 7 - 1) = 0 then ((1, 0), s) else if zI s.1 7 < 48 then ((0, nI (if zhid (zjoin s.1) (zI s.1 7) = true then 1 else 0)), cSav s (zjoin s.1) s.2.2.2.2.1) else ((1, 0), s)
theorem S_B_join (I : xInv w) (hq : q < 6) (hm : m ≤ 6) : xMet G B_join [.ref 0] (bHp w sv (nI q) (nI m) (nI ln) co sx T) x 1 6 (xQc3 T (oJoi (w, sv, q, m, ln, co)).1 (oJoi (w, sv, q, m, ln, co)).2 xIS xIS) := by
  obtain ⟨K1, K2, K3⟩ := I.iK
  obtain ⟨M1, M2, M3⟩ := I.iM
  have hle : zlen w (zI w 7 - 1) ≤ 240 := by
    have := (I.el (s := zI w 7 - 1) (by omega)).2
    unfold zlen
    omega
  unfold oJoi
  dsimp only
  by_cases g0 : zlen w (zI w 7 - 1) = 0
  · rw [if_pos g0]
    refine xw_aload_n 1 dX4_join_0 rfl rfl rfl ?_
    refine xw_get 4 dX4_join_1 rfl f_X4_10 (rfl) rfl ?_
    refine xw_aload_n 5 dX4_join_4 rfl rfl rfl ?_
    refine xw_get 8 dX4_join_5 rfl f_X4_10 (rfl) rfl ?_
    refine xw_get 11 dX4_join_8 rfl f_X4_161 (rfl) rfl ?_
    refine xw_iconst 12 (nI 1) dX4_join_11 rfl (xofI 1) ?_
    refine xw_isub 13 dX4_join_12 rfl ?_
    rw [K1, nI_1s (by omega)]
    refine xw_pVN 16 dX4_join_13 rfl ok_W_lengthOf s_X4_164 (S_W_lengthOf bHp_wk I (by omega)) (bHp_len) (rfl) rfl rfl rfl rfl rfl rfl rfl ?_
    refine xw_if_eq 31 19 dX4_join_16 rfl rfl (fun h16 => ?_) (fun h16 => absurd (by rw [g0]; rfl) h16)
    exact xw_throw dX4_join_31 dX4_join_34 dX4_join_35 dX4_join_37 dX4_join_40 t_X4_56 x_X4_167 rfl rfl rfl rfl rfl rfl (⟨rfl, w, sx, xag_refl w, rfl⟩)
  · rw [if_neg g0]
    by_cases g1 : zI w 7 < 48
    · rw [if_pos g1]
      have J := zjoin_inv I g1
      have j7 : zI (zjoin w) 7 = zI w 7 + 1 := zI_k upd_at (by omega)
      have e7 : zjoin w 7 = nI (zI w 7 + 1) := upd_at
      by_cases g2 : zhid (zjoin w) (zI w 7) = true
      · rw [if_pos g2]
        have hh := S_W_isHidden (G := G) (x := x) (hp := (bHp (zjoin w) (va_up sv (zrE q m) w) (nI (zrO q m)) (nI (zrM m)) (nI ln) co sx T)) (p := 1) (s := zI w 7) bHp_wk J (by omega)
        rw [if_pos g2] at hh
        refine xw_aload_n 1 dX4_join_0 rfl rfl rfl ?_
        refine xw_get 4 dX4_join_1 rfl f_X4_10 (rfl) rfl ?_
        refine xw_aload_n 5 dX4_join_4 rfl rfl rfl ?_
        refine xw_get 8 dX4_join_5 rfl f_X4_10 (rfl) rfl ?_
        refine xw_get 11 dX4_join_8 rfl f_X4_161 (rfl) rfl ?_
        refine xw_iconst 12 (nI 1) dX4_join_11 rfl (xofI 1) ?_
        refine xw_isub 13 dX4_join_12 rfl ?_
        rw [K1, nI_1s (by omega)]
        refine xw_pVN 16 dX4_join_13 rfl ok_W_lengthOf s_X4_164 (S_W_lengthOf bHp_wk I (by omega)) (bHp_len) (rfl) rfl rfl rfl rfl rfl rfl rfl ?_
        refine xw_if_eq 31 19 dX4_join_16 rfl rfl (fun h16 => absurd h16 (nI_ne0 (by omega) (by omega))) (fun h16 => ?_)
        refine xw_aload_n 20 dX4_join_19 rfl rfl rfl ?_
        refine xw_get 23 dX4_join_20 rfl f_X4_10 (rfl) rfl ?_
        refine xw_get 26 dX4_join_23 rfl f_X4_161 (rfl) rfl ?_
        refine xw_bipush 28 (nI 48) dX4_join_26 rfl (by decide) ?_
        refine xw_icmp_lt 41 31 dX4_join_28 rfl rfl (fun h28 => ?_) (fun h28 => absurd (by rw [K1]; exact nI_lt g1 (by omega)) h28)
        refine xw_aload_n 42 dX4_join_41 rfl rfl rfl ?_
        refine xw_get 45 dX4_join_42 rfl f_X4_19 (rfl) rfl ?_
        refine xw_aload_n 46 dX4_join_45 rfl rfl rfl ?_
        refine xw_get 49 dX4_join_46 rfl f_X4_10 (rfl) rfl ?_
        refine xw_pVNv 52 dX4_join_49 rfl ok_H_save s_X4_61 (S_H_save hq hm) (bHp_len) (rfl) rfl rfl rfl rfl rfl rfl rfl ?_
        refine xw_aload_n 53 dX4_join_52 rfl rfl rfl ?_
        refine xw_get 56 dX4_join_53 rfl f_X4_10 (rfl) rfl ?_
        refine xw_get 59 dX4_join_56 rfl f_X4_169 (rfl) rfl ?_
        refine xw_aload_n 60 dX4_join_59 rfl rfl rfl ?_
        refine xw_get 63 dX4_join_60 rfl f_X4_10 (rfl) rfl ?_
        refine xw_get 66 dX4_join_63 rfl f_X4_161 (rfl) rfl ?_
        refine xw_aload_n 67 dX4_join_66 rfl rfl rfl ?_
        refine xw_get 70 dX4_join_67 rfl f_X4_10 (rfl) rfl ?_
        refine xw_get 73 dX4_join_70 rfl f_X4_149 (rfl) rfl ?_
        refine xw_pSv 76 dX4_join_73 rfl ok_B_put s_X4_123 (S_B_put (h1 := (bHp (upd w (387 + zI w 7) (w 6)) (va_up sv (zrE q m) w) (nI (zrO q m)) (nI (zrM m)) (nI ln) co sx T)) rfl (by decide) K1 g1 (bH_bg g1)) (bHp_len) rfl rfl rfl rfl rfl rfl ?_
        refine xw_aload_n 77 dX4_join_76 rfl rfl rfl ?_
        refine xw_get 80 dX4_join_77 rfl f_X4_10 (rfl) rfl ?_
        refine xw_dup 81 dX4_join_80 rfl rfl ?_
        refine xw_get 84 dX4_join_81 rfl f_X4_161 (rfl) rfl ?_
        refine xw_iconst 85 (nI 1) dX4_join_84 rfl (xofI 1) ?_
        refine xw_iadd 86 dX4_join_85 rfl ?_
        rw [show upd w (387 + zI w 7) (w 6) 7 = nI (zI w 7) from (upd_ne (by omega)).trans K1, nI_add]
        refine xw_put 89 dX4_join_86 rfl f_X4_161 (rfl) ⟨rfl, rfl⟩ rfl rfl ((bH_o7 : _ = (bHp (zjoin w) (va_up sv (zrE q m) w) (nI (zrO q m)) (nI (zrM m)) (nI ln) co sx T))) ?_
        refine xw_aload_n 90 dX4_join_89 rfl rfl rfl ?_
        refine xw_get 93 dX4_join_90 rfl f_X4_10 (rfl) rfl ?_
        refine xw_aload_n 94 dX4_join_93 rfl rfl rfl ?_
        refine xw_get 97 dX4_join_94 rfl f_X4_10 (rfl) rfl ?_
        refine xw_get 100 dX4_join_97 rfl f_X4_161 (rfl) rfl ?_
        refine xw_iconst 101 (nI 1) dX4_join_100 rfl (xofI 1) ?_
        refine xw_isub 102 dX4_join_101 rfl ?_
        rw [show upd (upd w (387 + zI w 7) (w 6)) 7 (nI (zI w 7 + 1)) 7 = nI (zI w 7 + 1) from upd_at, nI_1s (by omega), Nat.add_sub_cancel]
        refine xw_pVN 105 dX4_join_102 rfl ok_W_isHidden s_X4_172 (hh) (bHp_len) (rfl) rfl rfl rfl rfl rfl rfl rfl ?_
        refine xw_if_eq 112 108 dX4_join_105 rfl rfl (fun h105 => absurd h105 (by decide)) (fun h105 => ?_)
        refine xw_iconst 109 (nI 1) dX4_join_108 rfl (xofI 1) ?_
        refine xw_goto 113 dX4_join_109 rfl ?_
        exact xw_ireturn dX4_join_113 rfl (⟨rfl, _, sx, xag_refl _, rfl⟩)
      · rw [if_neg g2]
        have hh := S_W_isHidden (G := G) (x := x) (hp := (bHp (zjoin w) (va_up sv (zrE q m) w) (nI (zrO q m)) (nI (zrM m)) (nI ln) co sx T)) (p := 1) (s := zI w 7) bHp_wk J (by omega)
        rw [if_neg g2] at hh
        refine xw_aload_n 1 dX4_join_0 rfl rfl rfl ?_
        refine xw_get 4 dX4_join_1 rfl f_X4_10 (rfl) rfl ?_
        refine xw_aload_n 5 dX4_join_4 rfl rfl rfl ?_
        refine xw_get 8 dX4_join_5 rfl f_X4_10 (rfl) rfl ?_
        refine xw_get 11 dX4_join_8 rfl f_X4_161 (rfl) rfl ?_
        refine xw_iconst 12 (nI 1) dX4_join_11 rfl (xofI 1) ?_
        refine xw_isub 13 dX4_join_12 rfl ?_
        rw [K1, nI_1s (by omega)]
        refine xw_pVN 16 dX4_join_13 rfl ok_W_lengthOf s_X4_164 (S_W_lengthOf bHp_wk I (by omega)) (bHp_len) (rfl) rfl rfl rfl rfl rfl rfl rfl ?_
        refine xw_if_eq 31 19 dX4_join_16 rfl rfl (fun h16 => absurd h16 (nI_ne0 (by omega) (by omega))) (fun h16 => ?_)
        refine xw_aload_n 20 dX4_join_19 rfl rfl rfl ?_
        refine xw_get 23 dX4_join_20 rfl f_X4_10 (rfl) rfl ?_
        refine xw_get 26 dX4_join_23 rfl f_X4_161 (rfl) rfl ?_
        refine xw_bipush 28 (nI 48) dX4_join_26 rfl (by decide) ?_
        refine xw_icmp_lt 41 31 dX4_join_28 rfl rfl (fun h28 => ?_) (fun h28 => absurd (by rw [K1]; exact nI_lt g1 (by omega)) h28)
        refine xw_aload_n 42 dX4_join_41 rfl rfl rfl ?_
        refine xw_get 45 dX4_join_42 rfl f_X4_19 (rfl) rfl ?_
        refine xw_aload_n 46 dX4_join_45 rfl rfl rfl ?_
        refine xw_get 49 dX4_join_46 rfl f_X4_10 (rfl) rfl ?_
        refine xw_pVNv 52 dX4_join_49 rfl ok_H_save s_X4_61 (S_H_save hq hm) (bHp_len) (rfl) rfl rfl rfl rfl rfl rfl rfl ?_
        refine xw_aload_n 53 dX4_join_52 rfl rfl rfl ?_
        refine xw_get 56 dX4_join_53 rfl f_X4_10 (rfl) rfl ?_
        refine xw_get 59 dX4_join_56 rfl f_X4_169 (rfl) rfl ?_
        refine xw_aload_n 60 dX4_join_59 rfl rfl rfl ?_
        refine xw_get 63 dX4_join_60 rfl f_X4_10 (rfl) rfl ?_
        refine xw_get 66 dX4_join_63 rfl f_X4_161 (rfl) rfl ?_
        refine xw_aload_n 67 dX4_join_66 rfl rfl rfl ?_
        refine xw_get 70 dX4_join_67 rfl f_X4_10 (rfl) rfl ?_
        refine xw_get 73 dX4_join_70 rfl f_X4_149 (rfl) rfl ?_
        refine xw_pSv 76 dX4_join_73 rfl ok_B_put s_X4_123 (S_B_put (h1 := (bHp (upd w (387 + zI w 7) (w 6)) (va_up sv (zrE q m) w) (nI (zrO q m)) (nI (zrM m)) (nI ln) co sx T)) rfl (by decide) K1 g1 (bH_bg g1)) (bHp_len) rfl rfl rfl rfl rfl rfl ?_
        refine xw_aload_n 77 dX4_join_76 rfl rfl rfl ?_
        refine xw_get 80 dX4_join_77 rfl f_X4_10 (rfl) rfl ?_
        refine xw_dup 81 dX4_join_80 rfl rfl ?_
        refine xw_get 84 dX4_join_81 rfl f_X4_161 (rfl) rfl ?_
        refine xw_iconst 85 (nI 1) dX4_join_84 rfl (xofI 1) ?_
        refine xw_iadd 86 dX4_join_85 rfl ?_
        rw [show upd w (387 + zI w 7) (w 6) 7 = nI (zI w 7) from (upd_ne (by omega)).trans K1, nI_add]
        refine xw_put 89 dX4_join_86 rfl f_X4_161 (rfl) ⟨rfl, rfl⟩ rfl rfl ((bH_o7 : _ = (bHp (zjoin w) (va_up sv (zrE q m) w) (nI (zrO q m)) (nI (zrM m)) (nI ln) co sx T))) ?_
        refine xw_aload_n 90 dX4_join_89 rfl rfl rfl ?_
        refine xw_get 93 dX4_join_90 rfl f_X4_10 (rfl) rfl ?_
        refine xw_aload_n 94 dX4_join_93 rfl rfl rfl ?_
        refine xw_get 97 dX4_join_94 rfl f_X4_10 (rfl) rfl ?_
        refine xw_get 100 dX4_join_97 rfl f_X4_161 (rfl) rfl ?_
        refine xw_iconst 101 (nI 1) dX4_join_100 rfl (xofI 1) ?_
        refine xw_isub 102 dX4_join_101 rfl ?_
        rw [show upd (upd w (387 + zI w 7) (w 6)) 7 (nI (zI w 7 + 1)) 7 = nI (zI w 7 + 1) from upd_at, nI_1s (by omega), Nat.add_sub_cancel]
        refine xw_pVN 105 dX4_join_102 rfl ok_W_isHidden s_X4_172 (hh) (bHp_len) (rfl) rfl rfl rfl rfl rfl rfl rfl ?_
        refine xw_if_eq 112 108 dX4_join_105 rfl rfl (fun h105 => ?_) (fun h105 => absurd (rfl) h105)
        refine xw_iconst 113 (nI 0) dX4_join_112 rfl (xofI 0) ?_
        exact xw_ireturn dX4_join_113 rfl (⟨rfl, _, sx, xag_refl _, rfl⟩)
    · rw [if_neg g1]
      refine xw_aload_n 1 dX4_join_0 rfl rfl rfl ?_
      refine xw_get 4 dX4_join_1 rfl f_X4_10 (rfl) rfl ?_
      refine xw_aload_n 5 dX4_join_4 rfl rfl rfl ?_
      refine xw_get 8 dX4_join_5 rfl f_X4_10 (rfl) rfl ?_
      refine xw_get 11 dX4_join_8 rfl f_X4_161 (rfl) rfl ?_
      refine xw_iconst 12 (nI 1) dX4_join_11 rfl (xofI 1) ?_
      refine xw_isub 13 dX4_join_12 rfl ?_
      rw [K1, nI_1s (by omega)]
      refine xw_pVN 16 dX4_join_13 rfl ok_W_lengthOf s_X4_164 (S_W_lengthOf bHp_wk I (by omega)) (bHp_len) (rfl) rfl rfl rfl rfl rfl rfl rfl ?_
      refine xw_if_eq 31 19 dX4_join_16 rfl rfl (fun h16 => absurd h16 (nI_ne0 (by omega) (by omega))) (fun h16 => ?_)
      refine xw_aload_n 20 dX4_join_19 rfl rfl rfl ?_
      refine xw_get 23 dX4_join_20 rfl f_X4_10 (rfl) rfl ?_
      refine xw_get 26 dX4_join_23 rfl f_X4_161 (rfl) rfl ?_
      refine xw_bipush 28 (nI 48) dX4_join_26 rfl (by decide) ?_
      refine xw_icmp_lt 41 31 dX4_join_28 rfl rfl (fun h28 => absurd h28 (by rw [K1]; exact nI_nlt (by omega) (by omega))) (fun h28 => ?_)
      exact xw_throw dX4_join_31 dX4_join_34 dX4_join_35 dX4_join_37 dX4_join_40 t_X4_56 x_X4_167 rfl rfl rfl rfl rfl rfl (⟨rfl, w, sx, xag_refl w, rfl⟩)
end P33

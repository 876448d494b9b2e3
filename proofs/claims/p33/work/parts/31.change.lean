/-! ===== the workshop's calls that change ===== -/
/-- the class's state: the work, the saved works, the ring's oldest and how many, the buffer's length and characters -/
abbrev xCS : Type := (Nat → Int32) × (Nat → Nat → Int32) × Nat × Nat × Nat × (Nat → Int32)
def cHp (s : xCS) (sx : xSx) (T : List xE) : List xE := bHp s.1 s.2.1 (nI s.2.2.1) (nI s.2.2.2.1) (nI s.2.2.2.2.1) s.2.2.2.2.2 sx T
/-- w' now, the work before it saved; the buffer's length ln' -/
def cSav (s : xCS) (w' : Nat → Int32) (ln' : Nat) : xCS := (w', va_up s.2.1 (zrE s.2.2.1 s.2.2.2.1) s.1, zrO s.2.2.1 s.2.2.2.1, zrM s.2.2.2.1, ln', s.2.2.2.2.2)
/-- the answer r and the state s, up to what lies outside the chart and to what is scratch -/
def xQc3 (T : List xE) (r : Nat × Int32) (s : xCS) (E1 E2 : String) : xO → List xE → Prop := fun o hp' => o = xo3 r E1 E2 ∧ ∃ (w' : Nat → Int32) (sx : xSx), xag w' s.1 ∧ hp' = cHp (w', s.2) sx T
section P31
variable {G : xG} {x : Nat} {w : Nat → Int32} {sv : Nat → Nat → Int32} {q m ln : Nat} {co : Nat → Int32} {sx : xSx} {T : List xE}
def oApp (s : xCS) (p : Int32) : (Nat × Int32) × xCS := if xin p 33 126 then (if s.2.2.2.2.1 < 60 then ((0, nI (s.2.2.2.2.1 + 1)), (s.1, s.2.1, s.2.2.1, s.2.2.2.1, s.2.2.2.2.1 + 1, upd s.2.2.2.2.2 s.2.2.2.2.1 p)) else ((2, 0), s)) else ((1, 0), s)
theorem S_B_append {p : Int32} (hl : ln ≤ 60) : xMet G B_append [.ref 0, .int p] (bHp w sv (nI q) (nI m) (nI ln) co sx T) x 1 6 (xQc3 T (oApp (w, sv, q, m, ln, co) p).1 (oApp (w, sv, q, m, ln, co) p).2 xIA xIS) := by
  unfold oApp
  dsimp only
  by_cases g0 : xin p 33 126
  · rw [if_pos g0]
    by_cases g1 : ln < 60
    · rw [if_pos g1]
      refine xw_iload_n 1 dX4_append_0 rfl rfl ?_
      refine xw_bipush 3 (nI 33) dX4_append_1 rfl (by decide) ?_
      refine xw_icmp_lt 12 6 dX4_append_3 rfl rfl (fun h3 => absurd h3 (g0.1)) (fun h3 => ?_)
      refine xw_iload_n 7 dX4_append_6 rfl rfl ?_
      refine xw_bipush 9 (nI 126) dX4_append_7 rfl (by decide) ?_
      refine xw_icmp_le 22 12 dX4_append_9 rfl rfl (fun h9 => ?_) (fun h9 => absurd ((Int32.not_lt.mp g0.2)) h9)
      refine xw_aload_n 23 dX4_append_22 rfl rfl rfl ?_
      refine xw_get 26 dX4_append_23 rfl f_X4_26 (rfl) rfl ?_
      refine xw_get 29 dX4_append_26 rfl f_X4_191 (rfl) rfl ?_
      refine xw_bipush 31 (nI 60) dX4_append_29 rfl (by decide) ?_
      refine xw_icmp_lt 44 34 dX4_append_31 rfl rfl (fun h31 => ?_) (fun h31 => absurd (nI_lt g1 (by decide)) h31)
      refine xw_aload_n 45 dX4_append_44 rfl rfl rfl ?_
      refine xw_get 48 dX4_append_45 rfl f_X4_26 (rfl) rfl ?_
      refine xw_get 51 dX4_append_48 rfl f_X4_196 (rfl) rfl ?_
      refine xw_aload_n 52 dX4_append_51 rfl rfl rfl ?_
      refine xw_get 55 dX4_append_52 rfl f_X4_26 (rfl) rfl ?_
      refine xw_get 58 dX4_append_55 rfl f_X4_191 (rfl) rfl ?_
      refine xw_iload_n 59 dX4_append_58 rfl rfl ?_
      refine xw_pSv 62 dX4_append_59 rfl ok_B_put s_X4_123 (S_B_put (h1 := bHp w sv (nI q) (nI m) (nI ln) (upd co ln p) sx T) rfl (by decide) rfl (by omega) rfl) (bHp_len) rfl rfl rfl rfl rfl rfl ?_
      refine xw_aload_n 63 dX4_append_62 rfl rfl rfl ?_
      refine xw_get 66 dX4_append_63 rfl f_X4_26 (rfl) rfl ?_
      refine xw_dup 67 dX4_append_66 rfl rfl ?_
      refine xw_get 70 dX4_append_67 rfl f_X4_191 (rfl) rfl ?_
      refine xw_iconst 71 (nI 1) dX4_append_70 rfl (xofI 1) ?_
      refine xw_iadd 72 dX4_append_71 rfl ?_
      rw [nI_add]
      refine xw_put 75 dX4_append_72 rfl f_X4_191 (rfl) ⟨rfl, rfl⟩ rfl rfl ((rfl : _ = bHp w sv (nI q) (nI m) (nI (ln + 1)) (upd co ln p) sx T)) ?_
      refine xw_aload_n 76 dX4_append_75 rfl rfl rfl ?_
      refine xw_get 79 dX4_append_76 rfl f_X4_26 (rfl) rfl ?_
      refine xw_get 82 dX4_append_79 rfl f_X4_191 (rfl) rfl ?_
      exact xw_ireturn dX4_append_82 rfl (⟨rfl, w, sx, xag_refl w, rfl⟩)
    · rw [if_neg g1]
      refine xw_iload_n 1 dX4_append_0 rfl rfl ?_
      refine xw_bipush 3 (nI 33) dX4_append_1 rfl (by decide) ?_
      refine xw_icmp_lt 12 6 dX4_append_3 rfl rfl (fun h3 => absurd h3 (g0.1)) (fun h3 => ?_)
      refine xw_iload_n 7 dX4_append_6 rfl rfl ?_
      refine xw_bipush 9 (nI 126) dX4_append_7 rfl (by decide) ?_
      refine xw_icmp_le 22 12 dX4_append_9 rfl rfl (fun h9 => ?_) (fun h9 => absurd ((Int32.not_lt.mp g0.2)) h9)
      refine xw_aload_n 23 dX4_append_22 rfl rfl rfl ?_
      refine xw_get 26 dX4_append_23 rfl f_X4_26 (rfl) rfl ?_
      refine xw_get 29 dX4_append_26 rfl f_X4_191 (rfl) rfl ?_
      refine xw_bipush 31 (nI 60) dX4_append_29 rfl (by decide) ?_
      refine xw_icmp_lt 44 34 dX4_append_31 rfl rfl (fun h31 => absurd h31 (nI_nlt (by omega) (by omega))) (fun h31 => ?_)
      exact xw_throw dX4_append_34 dX4_append_37 dX4_append_38 dX4_append_40 dX4_append_43 t_X4_56 x_X4_194 rfl rfl rfl rfl rfl rfl (⟨rfl, w, sx, xag_refl w, rfl⟩)
  · rw [if_neg g0]
    by_cases g1 : p < nI 33
    · skip
      refine xw_iload_n 1 dX4_append_0 rfl rfl ?_
      refine xw_bipush 3 (nI 33) dX4_append_1 rfl (by decide) ?_
      refine xw_icmp_lt 12 6 dX4_append_3 rfl rfl (fun h3 => ?_) (fun h3 => absurd (g1) h3)
      exact xw_throw dX4_append_12 dX4_append_15 dX4_append_16 dX4_append_18 dX4_append_21 t_X4_45 x_X4_189 rfl rfl rfl rfl rfl rfl (⟨rfl, w, sx, xag_refl w, rfl⟩)
    · have g2 := (xin_n g0).resolve_left g1
      refine xw_iload_n 1 dX4_append_0 rfl rfl ?_
      refine xw_bipush 3 (nI 33) dX4_append_1 rfl (by decide) ?_
      refine xw_icmp_lt 12 6 dX4_append_3 rfl rfl (fun h3 => absurd h3 (g1)) (fun h3 => ?_)
      refine xw_iload_n 7 dX4_append_6 rfl rfl ?_
      refine xw_bipush 9 (nI 126) dX4_append_7 rfl (by decide) ?_
      refine xw_icmp_le 22 12 dX4_append_9 rfl rfl (fun h9 => absurd h9 ((Int32.not_le.mpr g2))) (fun h9 => ?_)
      exact xw_throw dX4_append_12 dX4_append_15 dX4_append_16 dX4_append_18 dX4_append_21 t_X4_45 x_X4_189 rfl rfl rfl rfl rfl rfl (⟨rfl, w, sx, xag_refl w, rfl⟩)
def oCru (s : xCS) (p : Int32) : (Nat × Int32) × xCS := if xlt p (zI s.1 6) then ((0, nI (zI s.1 6 - 1)), cSav s (zcrush s.1 (pN p)) s.2.2.2.2.1) else ((1, 0), s)
theorem S_B_crush {p : Int32} (I : xInv w) (hq : q < 6) (hm : m ≤ 6) : xMet G B_crush [.ref 0, .int p] (bHp w sv (nI q) (nI m) (nI ln) co sx T) x 1 6 (xQc3 T (oCru (w, sv, q, m, ln, co) p).1 (oCru (w, sv, q, m, ln, co) p).2 xIX xIX) := by
  obtain ⟨M1, M2, M3⟩ := I.iM
  unfold oCru
  dsimp only
  by_cases g0 : xlt p (zI w 6)
  · rw [if_pos g0]
    obtain ⟨a, a1, rfl⟩ := xlt_y (by omega) g0
    rw [pN_k (by omega)]
    have e6 : zcrush w a 6 = nI (zI w 6 - 1) := by
      unfold zcrush
      by_cases h : zgo w a = true
      · rw [if_pos h, upd_ne (by decide), upd_at]
      · rw [if_neg h, upd_at]
    refine xw_aload_n 1 dX4_crush_0 rfl rfl rfl ?_
    refine xw_iload_n 2 dX4_crush_1 rfl rfl ?_
    refine xw_pV 5 dX4_crush_2 rfl ok_B_isStrung s_X4_175 (S_B_isStrung_y I a1) (bHp_len) (rfl) rfl rfl rfl rfl rfl rfl rfl ?_
    refine xw_if_ne 18 8 dX4_crush_5 rfl rfl (fun h5 => ?_) (fun h5 => absurd h5 (by decide))
    refine xw_aload_n 19 dX4_crush_18 rfl rfl rfl ?_
    refine xw_get 22 dX4_crush_19 rfl f_X4_19 (rfl) rfl ?_
    refine xw_aload_n 23 dX4_crush_22 rfl rfl rfl ?_
    refine xw_get 26 dX4_crush_23 rfl f_X4_10 (rfl) rfl ?_
    refine xw_pVNv 29 dX4_crush_26 rfl ok_H_save s_X4_61 (S_H_save hq hm) (bHp_len) (rfl) rfl rfl rfl rfl rfl rfl rfl ?_
    refine xw_aload_n 30 dX4_crush_29 rfl rfl rfl ?_
    refine xw_get 33 dX4_crush_30 rfl f_X4_10 (rfl) rfl ?_
    refine xw_iload_n 34 dX4_crush_33 rfl rfl ?_
    refine xw_pVNv 37 dX4_crush_34 rfl ok_W_crushBead s_X4_180 (S_W_crushBead I a1) (bHp_len) (rfl) rfl rfl rfl rfl rfl rfl rfl ?_
    refine xw_aload_n 38 dX4_crush_37 rfl rfl rfl ?_
    refine xw_get 41 dX4_crush_38 rfl f_X4_10 (rfl) rfl ?_
    refine xw_get 44 dX4_crush_41 rfl f_X4_149 (rfl) rfl ?_
    rw [e6]
    exact xw_ireturn dX4_crush_44 rfl (⟨rfl, _, sx, xag_refl _, rfl⟩)
  · rw [if_neg g0]
    refine xw_aload_n 1 dX4_crush_0 rfl rfl rfl ?_
    refine xw_iload_n 2 dX4_crush_1 rfl rfl ?_
    refine xw_pV 5 dX4_crush_2 rfl ok_B_isStrung s_X4_175 (S_B_isStrung_n (by rw [M1]; exact xlt_n g0)) (bHp_len) (rfl) rfl rfl rfl rfl rfl rfl rfl ?_
    refine xw_if_ne 18 8 dX4_crush_5 rfl rfl (fun h5 => absurd (rfl) h5) (fun h5 => ?_)
    exact xw_throw dX4_crush_8 dX4_crush_11 dX4_crush_12 dX4_crush_14 dX4_crush_17 t_X4_103 x_X4_178 rfl rfl rfl rfl rfl rfl (⟨rfl, w, sx, xag_refl w, rfl⟩)
def oUnp (s : xCS) (p : Int32) : (Nat × Int32) × xCS := if xin p 1 240 then (if ¬ s.1 6 < p then ((0, nI (zI s.1 6 - pN p)), cSav s (zunp s.1 (pN p)) s.2.2.2.2.1) else ((2, 0), s)) else ((1, 0), s)
theorem S_B_unpick {p : Int32} (I : xInv w) (hq : q < 6) (hm : m ≤ 6) : xMet G B_unpick [.ref 0, .int p] (bHp w sv (nI q) (nI m) (nI ln) co sx T) x 1 6 (xQc3 T (oUnp (w, sv, q, m, ln, co) p).1 (oUnp (w, sv, q, m, ln, co) p).2 xIA xIS) := by
  obtain ⟨M1, M2, M3⟩ := I.iM
  unfold oUnp
  dsimp only
  by_cases g0 : xin p 1 240
  · rw [if_pos g0]
    obtain ⟨a, a1, a2, rfl⟩ := xin_y (by decide) (by decide) g0
    rw [pN_k (by omega)]
    by_cases g1 : ¬ w 6 < nI a
    · rw [if_pos g1]
      have ha : a ≤ zI w 6 := by
        rw [M1, nI_ltI (by omega) (by omega)] at g1
        omega
      have e6 : zunp w a 6 = nI (zI w 6 - a) := by
        unfold zunp zoff2 zoff1
        rw [upd_ne (by decide), upd_ne (by decide), upd_at]
      refine xw_iload_n 1 dX4_unpick_0 rfl rfl ?_
      refine xw_iconst 2 (nI 1) dX4_unpick_1 rfl (xofI 1) ?_
      refine xw_icmp_lt 12 5 dX4_unpick_2 rfl rfl (fun h2 => absurd h2 (g0.1)) (fun h2 => ?_)
      refine xw_iload_n 6 dX4_unpick_5 rfl rfl ?_
      refine xw_sipush 9 (nI 240) dX4_unpick_6 rfl (by decide) ?_
      refine xw_icmp_le 22 12 dX4_unpick_9 rfl rfl (fun h9 => ?_) (fun h9 => absurd ((Int32.not_lt.mp g0.2)) h9)
      refine xw_iload_n 23 dX4_unpick_22 rfl rfl ?_
      refine xw_aload_n 24 dX4_unpick_23 rfl rfl rfl ?_
      refine xw_get 27 dX4_unpick_24 rfl f_X4_10 (rfl) rfl ?_
      refine xw_get 30 dX4_unpick_27 rfl f_X4_149 (rfl) rfl ?_
      refine xw_icmp_le 43 33 dX4_unpick_30 rfl rfl (fun h30 => ?_) (fun h30 => absurd ((Int32.not_lt.mp g1)) h30)
      refine xw_aload_n 44 dX4_unpick_43 rfl rfl rfl ?_
      refine xw_get 47 dX4_unpick_44 rfl f_X4_19 (rfl) rfl ?_
      refine xw_aload_n 48 dX4_unpick_47 rfl rfl rfl ?_
      refine xw_get 51 dX4_unpick_48 rfl f_X4_10 (rfl) rfl ?_
      refine xw_pVNv 54 dX4_unpick_51 rfl ok_H_save s_X4_61 (S_H_save hq hm) (bHp_len) (rfl) rfl rfl rfl rfl rfl rfl rfl ?_
      refine xw_aload_n 55 dX4_unpick_54 rfl rfl rfl ?_
      refine xw_get 58 dX4_unpick_55 rfl f_X4_10 (rfl) rfl ?_
      refine xw_iload_n 59 dX4_unpick_58 rfl rfl ?_
      refine xw_pVNv 62 dX4_unpick_59 rfl ok_W_takeOff s_X4_186 (S_W_takeOff I ha) (bHp_len) (rfl) rfl rfl rfl rfl rfl rfl rfl ?_
      refine xw_aload_n 63 dX4_unpick_62 rfl rfl rfl ?_
      refine xw_get 66 dX4_unpick_63 rfl f_X4_10 (rfl) rfl ?_
      refine xw_get 69 dX4_unpick_66 rfl f_X4_149 (rfl) rfl ?_
      rw [e6]
      exact xw_ireturn dX4_unpick_69 rfl (⟨rfl, _, sx, xag_refl _, rfl⟩)
    · rw [if_neg g1]
      refine xw_iload_n 1 dX4_unpick_0 rfl rfl ?_
      refine xw_iconst 2 (nI 1) dX4_unpick_1 rfl (xofI 1) ?_
      refine xw_icmp_lt 12 5 dX4_unpick_2 rfl rfl (fun h2 => absurd h2 (g0.1)) (fun h2 => ?_)
      refine xw_iload_n 6 dX4_unpick_5 rfl rfl ?_
      refine xw_sipush 9 (nI 240) dX4_unpick_6 rfl (by decide) ?_
      refine xw_icmp_le 22 12 dX4_unpick_9 rfl rfl (fun h9 => ?_) (fun h9 => absurd ((Int32.not_lt.mp g0.2)) h9)
      refine xw_iload_n 23 dX4_unpick_22 rfl rfl ?_
      refine xw_aload_n 24 dX4_unpick_23 rfl rfl rfl ?_
      refine xw_get 27 dX4_unpick_24 rfl f_X4_10 (rfl) rfl ?_
      refine xw_get 30 dX4_unpick_27 rfl f_X4_149 (rfl) rfl ?_
      refine xw_icmp_le 43 33 dX4_unpick_30 rfl rfl (fun h30 => absurd h30 ((Int32.not_le.mpr (Decidable.of_not_not g1)))) (fun h30 => ?_)
      exact xw_throw dX4_unpick_33 dX4_unpick_36 dX4_unpick_37 dX4_unpick_39 dX4_unpick_42 t_X4_56 x_X4_184 rfl rfl rfl rfl rfl rfl (⟨rfl, w, sx, xag_refl w, rfl⟩)
  · rw [if_neg g0]
    by_cases g1 : p < nI 1
    · skip
      refine xw_iload_n 1 dX4_unpick_0 rfl rfl ?_
      refine xw_iconst 2 (nI 1) dX4_unpick_1 rfl (xofI 1) ?_
      refine xw_icmp_lt 12 5 dX4_unpick_2 rfl rfl (fun h2 => ?_) (fun h2 => absurd (g1) h2)
      exact xw_throw dX4_unpick_12 dX4_unpick_15 dX4_unpick_16 dX4_unpick_18 dX4_unpick_21 t_X4_45 x_X4_147 rfl rfl rfl rfl rfl rfl (⟨rfl, w, sx, xag_refl w, rfl⟩)
    · have g2 := (xin_n g0).resolve_left g1
      refine xw_iload_n 1 dX4_unpick_0 rfl rfl ?_
      refine xw_iconst 2 (nI 1) dX4_unpick_1 rfl (xofI 1) ?_
      refine xw_icmp_lt 12 5 dX4_unpick_2 rfl rfl (fun h2 => absurd h2 (g1)) (fun h2 => ?_)
      refine xw_iload_n 6 dX4_unpick_5 rfl rfl ?_
      refine xw_sipush 9 (nI 240) dX4_unpick_6 rfl (by decide) ?_
      refine xw_icmp_le 22 12 dX4_unpick_9 rfl rfl (fun h9 => absurd h9 ((Int32.not_le.mpr g2))) (fun h9 => ?_)
      exact xw_throw dX4_unpick_12 dX4_unpick_15 dX4_unpick_16 dX4_unpick_18 dX4_unpick_21 t_X4_45 x_X4_147 rfl rfl rfl rfl rfl rfl (⟨rfl, w, sx, xag_refl w, rfl⟩)
def zbuy (w : Nat → Int32) (c : Nat) (v : Int32) : Nat → Int32 := upd (upd w (15 + c) (w (15 + c) + v)) (9 + c) (upd w (15 + c) (w (15 + c) + v) (9 + c) + v)
def oBuy (s : xCS) (p r : Int32) : (Nat × Int32) × xCS := if xlt p 6 then (if xin r 1 100 then (if ¬ nI 600 < s.1 (15 + pN p) + r then ((0, zbuy s.1 (pN p) r (9 + pN p)), cSav s (zbuy s.1 (pN p) r) s.2.2.2.2.1) else ((2, 0), s)) else ((1, 0), s)) else ((1, 0), s)
theorem S_B_buy {p r : Int32} (hq : q < 6) (hm : m ≤ 6) : xMet G B_buy [.ref 0, .int p, .int r] (bHp w sv (nI q) (nI m) (nI ln) co sx T) x 1 6 (xQc3 T (oBuy (w, sv, q, m, ln, co) p r).1 (oBuy (w, sv, q, m, ln, co) p r).2 xIA xIS) := by
  unfold oBuy
  dsimp only
  by_cases g0 : xlt p 6
  · rw [if_pos g0]
    obtain ⟨a, a1, rfl⟩ := xlt_y (by decide) g0
    rw [pN_k (by omega)]
    by_cases g1 : xin r 1 100
    · rw [if_pos g1]
      obtain ⟨b, b1, b2, rfl⟩ := xin_y (by decide) (by decide) g1
      by_cases g2 : ¬ nI 600 < w (15 + a) + nI b
      · rw [if_pos g2]
        refine xw_iload_n 1 dX4_buy_0 rfl rfl ?_
        refine xw_pS 4 dX4_buy_1 rfl ok_B_isColour s_X4_91 (S_B_isColour_y a1) (bHp_len) rfl rfl rfl rfl rfl rfl ?_
        refine xw_if_eq 18 7 dX4_buy_4 rfl rfl (fun h4 => absurd h4 (by decide)) (fun h4 => ?_)
        refine xw_iload_n 8 dX4_buy_7 rfl rfl ?_
        refine xw_iconst 9 (nI 1) dX4_buy_8 rfl (xofI 1) ?_
        refine xw_icmp_lt 18 12 dX4_buy_9 rfl rfl (fun h9 => absurd h9 (g1.1)) (fun h9 => ?_)
        refine xw_iload_n 13 dX4_buy_12 rfl rfl ?_
        refine xw_bipush 15 (nI 100) dX4_buy_13 rfl (by decide) ?_
        refine xw_icmp_le 28 18 dX4_buy_15 rfl rfl (fun h15 => ?_) (fun h15 => absurd ((Int32.not_lt.mp g1.2)) h15)
        refine xw_aload_n 29 dX4_buy_28 rfl rfl rfl ?_
        refine xw_get 32 dX4_buy_29 rfl f_X4_10 (rfl) rfl ?_
        refine xw_get 35 dX4_buy_32 rfl f_X4_129 (rfl) rfl ?_
        refine xw_iload_n 36 dX4_buy_35 rfl rfl ?_
        refine xw_pS 39 dX4_buy_36 rfl ok_B_at s_X4_111 (S_B_ats bHp_wk.bo (j := a) (by decide) rfl a1 rfl) (bHp_len) rfl rfl rfl rfl rfl rfl ?_
        refine xw_iload_n 40 dX4_buy_39 rfl rfl ?_
        refine xw_iadd 41 dX4_buy_40 rfl ?_
        refine xw_sipush 44 (nI 600) dX4_buy_41 rfl (by decide) ?_
        refine xw_icmp_le 57 47 dX4_buy_44 rfl rfl (fun h44 => ?_) (fun h44 => absurd ((Int32.not_lt.mp g2)) h44)
        refine xw_aload_n 58 dX4_buy_57 rfl rfl rfl ?_
        refine xw_get 61 dX4_buy_58 rfl f_X4_19 (rfl) rfl ?_
        refine xw_aload_n 62 dX4_buy_61 rfl rfl rfl ?_
        refine xw_get 65 dX4_buy_62 rfl f_X4_10 (rfl) rfl ?_
        refine xw_pVNv 68 dX4_buy_65 rfl ok_H_save s_X4_61 (S_H_save hq hm) (bHp_len) (rfl) rfl rfl rfl rfl rfl rfl rfl ?_
        refine xw_aload_n 69 dX4_buy_68 rfl rfl rfl ?_
        refine xw_get 72 dX4_buy_69 rfl f_X4_10 (rfl) rfl ?_
        refine xw_get 75 dX4_buy_72 rfl f_X4_129 (rfl) rfl ?_
        refine xw_iload_n 76 dX4_buy_75 rfl rfl ?_
        refine xw_iload_n 77 dX4_buy_76 rfl rfl ?_
        refine xw_pSv 80 dX4_buy_77 rfl ok_B_add s_X4_134 (S_B_add (h1 := (bHp (upd w (15 + a) (w (15 + a) + nI b)) (va_up sv (zrE q m) w) (nI (zrO q m)) (nI (zrM m)) (nI ln) co sx T)) rfl (by decide) rfl a1 (by rw [xsl_at a1]; exact bH_bo a1)) (bHp_len) rfl rfl rfl rfl rfl rfl ?_
        refine xw_aload_n 81 dX4_buy_80 rfl rfl rfl ?_
        refine xw_get 84 dX4_buy_81 rfl f_X4_10 (rfl) rfl ?_
        refine xw_get 87 dX4_buy_84 rfl f_X4_137 (rfl) rfl ?_
        refine xw_iload_n 88 dX4_buy_87 rfl rfl ?_
        refine xw_iload_n 89 dX4_buy_88 rfl rfl ?_
        refine xw_pSv 92 dX4_buy_89 rfl ok_B_add s_X4_134 (S_B_add (h1 := (bHp (upd (upd w (15 + a) (w (15 + a) + nI b)) (9 + a) ((upd w (15 + a) (w (15 + a) + nI b)) (9 + a) + nI b)) (va_up sv (zrE q m) w) (nI (zrO q m)) (nI (zrM m)) (nI ln) co sx T)) rfl (by decide) rfl a1 (by rw [xsl_at a1]; exact bH_st a1)) (bHp_len) rfl rfl rfl rfl rfl rfl ?_
        refine xw_aload_n 93 dX4_buy_92 rfl rfl rfl ?_
        refine xw_get 96 dX4_buy_93 rfl f_X4_10 (rfl) rfl ?_
        refine xw_get 99 dX4_buy_96 rfl f_X4_137 (rfl) rfl ?_
        refine xw_iload_n 100 dX4_buy_99 rfl rfl ?_
        refine xw_pS 103 dX4_buy_100 rfl ok_B_at s_X4_111 (S_B_ats bHp_wk.st (j := a) (by decide) rfl a1 rfl) (bHp_len) rfl rfl rfl rfl rfl rfl ?_
        exact xw_ireturn dX4_buy_103 rfl (⟨rfl, _, sx, xag_refl _, rfl⟩)
      · rw [if_neg g2]
        refine xw_iload_n 1 dX4_buy_0 rfl rfl ?_
        refine xw_pS 4 dX4_buy_1 rfl ok_B_isColour s_X4_91 (S_B_isColour_y a1) (bHp_len) rfl rfl rfl rfl rfl rfl ?_
        refine xw_if_eq 18 7 dX4_buy_4 rfl rfl (fun h4 => absurd h4 (by decide)) (fun h4 => ?_)
        refine xw_iload_n 8 dX4_buy_7 rfl rfl ?_
        refine xw_iconst 9 (nI 1) dX4_buy_8 rfl (xofI 1) ?_
        refine xw_icmp_lt 18 12 dX4_buy_9 rfl rfl (fun h9 => absurd h9 (g1.1)) (fun h9 => ?_)
        refine xw_iload_n 13 dX4_buy_12 rfl rfl ?_
        refine xw_bipush 15 (nI 100) dX4_buy_13 rfl (by decide) ?_
        refine xw_icmp_le 28 18 dX4_buy_15 rfl rfl (fun h15 => ?_) (fun h15 => absurd ((Int32.not_lt.mp g1.2)) h15)
        refine xw_aload_n 29 dX4_buy_28 rfl rfl rfl ?_
        refine xw_get 32 dX4_buy_29 rfl f_X4_10 (rfl) rfl ?_
        refine xw_get 35 dX4_buy_32 rfl f_X4_129 (rfl) rfl ?_
        refine xw_iload_n 36 dX4_buy_35 rfl rfl ?_
        refine xw_pS 39 dX4_buy_36 rfl ok_B_at s_X4_111 (S_B_ats bHp_wk.bo (j := a) (by decide) rfl a1 rfl) (bHp_len) rfl rfl rfl rfl rfl rfl ?_
        refine xw_iload_n 40 dX4_buy_39 rfl rfl ?_
        refine xw_iadd 41 dX4_buy_40 rfl ?_
        refine xw_sipush 44 (nI 600) dX4_buy_41 rfl (by decide) ?_
        refine xw_icmp_le 57 47 dX4_buy_44 rfl rfl (fun h44 => absurd h44 ((Int32.not_le.mpr (Decidable.of_not_not g2)))) (fun h44 => ?_)
        exact xw_throw dX4_buy_47 dX4_buy_50 dX4_buy_51 dX4_buy_53 dX4_buy_56 t_X4_56 x_X4_132 rfl rfl rfl rfl rfl rfl (⟨rfl, w, sx, xag_refl w, rfl⟩)
    · rw [if_neg g1]
      by_cases g2 : r < nI 1
      · skip
        refine xw_iload_n 1 dX4_buy_0 rfl rfl ?_
        refine xw_pS 4 dX4_buy_1 rfl ok_B_isColour s_X4_91 (S_B_isColour_y a1) (bHp_len) rfl rfl rfl rfl rfl rfl ?_
        refine xw_if_eq 18 7 dX4_buy_4 rfl rfl (fun h4 => absurd h4 (by decide)) (fun h4 => ?_)
        refine xw_iload_n 8 dX4_buy_7 rfl rfl ?_
        refine xw_iconst 9 (nI 1) dX4_buy_8 rfl (xofI 1) ?_
        refine xw_icmp_lt 18 12 dX4_buy_9 rfl rfl (fun h9 => ?_) (fun h9 => absurd (g2) h9)
        exact xw_throw dX4_buy_18 dX4_buy_21 dX4_buy_22 dX4_buy_24 dX4_buy_27 t_X4_45 x_X4_127 rfl rfl rfl rfl rfl rfl (⟨rfl, w, sx, xag_refl w, rfl⟩)
      · have g3 := (xin_n g1).resolve_left g2
        refine xw_iload_n 1 dX4_buy_0 rfl rfl ?_
        refine xw_pS 4 dX4_buy_1 rfl ok_B_isColour s_X4_91 (S_B_isColour_y a1) (bHp_len) rfl rfl rfl rfl rfl rfl ?_
        refine xw_if_eq 18 7 dX4_buy_4 rfl rfl (fun h4 => absurd h4 (by decide)) (fun h4 => ?_)
        refine xw_iload_n 8 dX4_buy_7 rfl rfl ?_
        refine xw_iconst 9 (nI 1) dX4_buy_8 rfl (xofI 1) ?_
        refine xw_icmp_lt 18 12 dX4_buy_9 rfl rfl (fun h9 => absurd h9 (g2)) (fun h9 => ?_)
        refine xw_iload_n 13 dX4_buy_12 rfl rfl ?_
        refine xw_bipush 15 (nI 100) dX4_buy_13 rfl (by decide) ?_
        refine xw_icmp_le 28 18 dX4_buy_15 rfl rfl (fun h15 => absurd h15 ((Int32.not_le.mpr g3))) (fun h15 => ?_)
        exact xw_throw dX4_buy_18 dX4_buy_21 dX4_buy_22 dX4_buy_24 dX4_buy_27 t_X4_45 x_X4_127 rfl rfl rfl rfl rfl rfl (⟨rfl, w, sx, xag_refl w, rfl⟩)
  · rw [if_neg g0]
    refine xw_iload_n 1 dX4_buy_0 rfl rfl ?_
    refine xw_pS 4 dX4_buy_1 rfl ok_B_isColour s_X4_91 (S_B_isColour_n (xlt_n g0)) (bHp_len) rfl rfl rfl rfl rfl rfl ?_
    refine xw_if_eq 18 7 dX4_buy_4 rfl rfl (fun h4 => ?_) (fun h4 => absurd (rfl) h4)
    exact xw_throw dX4_buy_18 dX4_buy_21 dX4_buy_22 dX4_buy_24 dX4_buy_27 t_X4_45 x_X4_127 rfl rfl rfl rfl rfl rfl (⟨rfl, w, sx, xag_refl w, rfl⟩)
def oUnd (s : xCS) : (Nat × Int32) × xCS := if s.2.2.2.1 = 0 then ((1, 0), s) else ((0, nI (s.2.2.2.1 - 1)), (s.2.1 ((s.2.2.1 + (s.2.2.2.1 - 1)) % 6), s.2.1, s.2.2.1, s.2.2.2.1 - 1, s.2.2.2.2))
def zlo (k : Nat) : Nat := if k = 0 then 3 else if k = 1 then 0 else if k = 2 then 5 else 0
def zhi (k : Nat) : Nat := if k = 0 then 15 else if k = 1 then 11 else if k = 2 then 240 else 5
theorem xSta_lo (S : xSta G) {a : Nat} (h : a < 4) : (xgr G 2).2 a = nI (zlo a) := by
  obtain ⟨-, ⟨-, e0, e1, e2, e3⟩, -⟩ := S
  rcases (show a = 0 ∨ a = 1 ∨ a = 2 ∨ a = 3 by omega) with rfl | rfl | rfl | rfl <;> assumption
theorem xSta_hi (S : xSta G) {a : Nat} (h : a < 4) : (xgr G 3).2 a = nI (zhi a) := by
  obtain ⟨-, -, -, e0, e1, e2, e3⟩ := S
  rcases (show a = 0 ∨ a = 1 ∨ a = 2 ∨ a = 3 by omega) with rfl | rfl | rfl | rfl <;> assumption
def oSet (s : xCS) (p v : Int32) : (Nat × Int32) × xCS := if xlt p 4 then (if xin v (zlo (pN p)) (zhi (pN p)) then ((0, s.1 (pN p)), cSav s (upd s.1 (pN p) v) s.2.2.2.2.1) else ((2, 0), s)) else ((1, 0), s)
theorem S_B_set {p v : Int32} (S : xSta G) (hq : q < 6) (hm : m ≤ 6) : xMet G B_set [.ref 0, .int p, .int v] (bHp w sv (nI q) (nI m) (nI ln) co sx T) x 1 6 (xQc3 T (oSet (w, sv, q, m, ln, co) p v).1 (oSet (w, sv, q, m, ln, co) p v).2 xIX xIA) := by
  unfold oSet
  dsimp only
  by_cases g0 : xlt p 4
  · rw [if_pos g0]
    obtain ⟨a, a1, rfl⟩ := xlt_y (by decide) g0
    rw [pN_k (by omega)]
    by_cases g1 : xin v (zlo a) (zhi a)
    · rw [if_pos g1]
      refine xw_iload_n 1 dX4_set_0 rfl rfl ?_
      refine xw_pS 4 dX4_set_1 rfl ok_B_isSetting s_X4_100 (S_B_isSetting_y a1) (bHp_len) rfl rfl rfl rfl rfl rfl ?_
      refine xw_if_ne 17 7 dX4_set_4 rfl rfl (fun h4 => ?_) (fun h4 => absurd h4 (by decide))
      refine xw_iload_n 18 dX4_set_17 rfl rfl ?_
      refine xw_getstatic 21 2 dX4_set_18 rfl (by decide) g_X4_108 ?_
      refine xw_iload_n 22 dX4_set_21 rfl rfl ?_
      refine xw_pS 25 dX4_set_22 rfl ok_B_at s_X4_111 (S_B_at_rov (r := 2) (by decide) S.2.1.1 rfl a1 (xSta_lo S a1)) (bHp_len) rfl rfl rfl rfl rfl rfl ?_
      refine xw_icmp_lt 39 28 dX4_set_25 rfl rfl (fun h25 => absurd h25 (g1.1)) (fun h25 => ?_)
      refine xw_iload_n 29 dX4_set_28 rfl rfl ?_
      refine xw_getstatic 32 3 dX4_set_29 rfl (by decide) g_X4_115 ?_
      refine xw_iload_n 33 dX4_set_32 rfl rfl ?_
      refine xw_pS 36 dX4_set_33 rfl ok_B_at s_X4_111 (S_B_at_rov (r := 3) (by decide) S.2.2.1 rfl a1 (xSta_hi S a1)) (bHp_len) rfl rfl rfl rfl rfl rfl ?_
      refine xw_icmp_le 49 39 dX4_set_36 rfl rfl (fun h36 => ?_) (fun h36 => absurd ((Int32.not_lt.mp g1.2)) h36)
      refine xw_aload_n 50 dX4_set_49 rfl rfl rfl ?_
      refine xw_get 53 dX4_set_50 rfl f_X4_19 (rfl) rfl ?_
      refine xw_aload_n 54 dX4_set_53 rfl rfl rfl ?_
      refine xw_get 57 dX4_set_54 rfl f_X4_10 (rfl) rfl ?_
      refine xw_pVNv 60 dX4_set_57 rfl ok_H_save s_X4_61 (S_H_save hq hm) (bHp_len) (rfl) rfl rfl rfl rfl rfl rfl rfl ?_
      refine xw_aload_n 61 dX4_set_60 rfl rfl rfl ?_
      refine xw_get 64 dX4_set_61 rfl f_X4_10 (rfl) rfl ?_
      refine xw_get 67 dX4_set_64 rfl f_X4_120 (rfl) rfl ?_
      refine xw_iload_n 68 dX4_set_67 rfl rfl ?_
      refine xw_pS 71 dX4_set_68 rfl ok_B_at s_X4_111 (S_B_ats bHp_wk.se (j := a) (by decide) rfl a1 (congrArg w (Nat.zero_add a))) (bHp_len) rfl rfl rfl rfl rfl rfl ?_
      refine xw_istore_n (ls' := [(3, _), (0, _), (1, _), (2, _)]) 72 dX4_set_71 rfl rfl rfl ?_
      refine xw_aload_n 73 dX4_set_72 rfl rfl rfl ?_
      refine xw_get 76 dX4_set_73 rfl f_X4_10 (rfl) rfl ?_
      refine xw_get 79 dX4_set_76 rfl f_X4_120 (rfl) rfl ?_
      refine xw_iload_n 80 dX4_set_79 rfl rfl ?_
      refine xw_iload_n 81 dX4_set_80 rfl rfl ?_
      refine xw_pSv 84 dX4_set_81 rfl ok_B_put s_X4_123 (S_B_put (h1 := (bHp (upd w a v) (va_up sv (zrE q m) w) (nI (zrO q m)) (nI (zrM m)) (nI ln) co sx T)) rfl (by decide) rfl a1 (by have := bH_se (w := w) (sv := va_up sv (zrE q m) w) (qo := nI (zrO q m)) (qm := nI (zrM m)) (ql := nI ln) (co := co) (sx := sx) (T := T) (v := v) a1; rw [Nat.zero_add] at this; exact this)) (bHp_len) rfl rfl rfl rfl rfl rfl ?_
      refine xw_iload_n 85 dX4_set_84 rfl rfl ?_
      exact xw_ireturn dX4_set_85 rfl (⟨rfl, _, sx, xag_refl _, rfl⟩)
    · rw [if_neg g1]
      by_cases g2 : v < nI (zlo a)
      · skip
        refine xw_iload_n 1 dX4_set_0 rfl rfl ?_
        refine xw_pS 4 dX4_set_1 rfl ok_B_isSetting s_X4_100 (S_B_isSetting_y a1) (bHp_len) rfl rfl rfl rfl rfl rfl ?_
        refine xw_if_ne 17 7 dX4_set_4 rfl rfl (fun h4 => ?_) (fun h4 => absurd h4 (by decide))
        refine xw_iload_n 18 dX4_set_17 rfl rfl ?_
        refine xw_getstatic 21 2 dX4_set_18 rfl (by decide) g_X4_108 ?_
        refine xw_iload_n 22 dX4_set_21 rfl rfl ?_
        refine xw_pS 25 dX4_set_22 rfl ok_B_at s_X4_111 (S_B_at_rov (r := 2) (by decide) S.2.1.1 rfl a1 (xSta_lo S a1)) (bHp_len) rfl rfl rfl rfl rfl rfl ?_
        refine xw_icmp_lt 39 28 dX4_set_25 rfl rfl (fun h25 => ?_) (fun h25 => absurd (g2) h25)
        exact xw_throw dX4_set_39 dX4_set_42 dX4_set_43 dX4_set_45 dX4_set_48 t_X4_45 x_X4_118 rfl rfl rfl rfl rfl rfl (⟨rfl, w, sx, xag_refl w, rfl⟩)
      · have g3 := (xin_n g1).resolve_left g2
        refine xw_iload_n 1 dX4_set_0 rfl rfl ?_
        refine xw_pS 4 dX4_set_1 rfl ok_B_isSetting s_X4_100 (S_B_isSetting_y a1) (bHp_len) rfl rfl rfl rfl rfl rfl ?_
        refine xw_if_ne 17 7 dX4_set_4 rfl rfl (fun h4 => ?_) (fun h4 => absurd h4 (by decide))
        refine xw_iload_n 18 dX4_set_17 rfl rfl ?_
        refine xw_getstatic 21 2 dX4_set_18 rfl (by decide) g_X4_108 ?_
        refine xw_iload_n 22 dX4_set_21 rfl rfl ?_
        refine xw_pS 25 dX4_set_22 rfl ok_B_at s_X4_111 (S_B_at_rov (r := 2) (by decide) S.2.1.1 rfl a1 (xSta_lo S a1)) (bHp_len) rfl rfl rfl rfl rfl rfl ?_
        refine xw_icmp_lt 39 28 dX4_set_25 rfl rfl (fun h25 => absurd h25 (g2)) (fun h25 => ?_)
        refine xw_iload_n 29 dX4_set_28 rfl rfl ?_
        refine xw_getstatic 32 3 dX4_set_29 rfl (by decide) g_X4_115 ?_
        refine xw_iload_n 33 dX4_set_32 rfl rfl ?_
        refine xw_pS 36 dX4_set_33 rfl ok_B_at s_X4_111 (S_B_at_rov (r := 3) (by decide) S.2.2.1 rfl a1 (xSta_hi S a1)) (bHp_len) rfl rfl rfl rfl rfl rfl ?_
        refine xw_icmp_le 49 39 dX4_set_36 rfl rfl (fun h36 => absurd h36 ((Int32.not_le.mpr g3))) (fun h36 => ?_)
        exact xw_throw dX4_set_39 dX4_set_42 dX4_set_43 dX4_set_45 dX4_set_48 t_X4_45 x_X4_118 rfl rfl rfl rfl rfl rfl (⟨rfl, w, sx, xag_refl w, rfl⟩)
  · rw [if_neg g0]
    refine xw_iload_n 1 dX4_set_0 rfl rfl ?_
    refine xw_pS 4 dX4_set_1 rfl ok_B_isSetting s_X4_100 (S_B_isSetting_n (xlt_n g0)) (bHp_len) rfl rfl rfl rfl rfl rfl ?_
    refine xw_if_ne 17 7 dX4_set_4 rfl rfl (fun h4 => absurd (rfl) h4) (fun h4 => ?_)
    exact xw_throw dX4_set_7 dX4_set_10 dX4_set_11 dX4_set_13 dX4_set_16 t_X4_103 x_X4_105 rfl rfl rfl rfl rfl rfl (⟨rfl, w, sx, xag_refl w, rfl⟩)
end P31

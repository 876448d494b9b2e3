/-! ===== Work.copyFrom, History ===== -/
/-- w at the place p -/
def xput (hp : List xE) (p : Nat) (w : Nat → Int32) : List xE :=
  (((((((((hp.set (p + 1) (.inr (0, [.ref (p + 2), .int (w 4), .int (w 5)]))).set (p + 2) (.inl (0, 120, .inl (xsl w 27 120)))).set (p + 3) (.inl (0, 4, .inl (xsl w 0 4)))).set (p + 4) (.inl (0, 6, .inl (xsl w 9 6)))).set (p + 5) (.inl (0, 6, .inl (xsl w 15 6)))).set (p + 6) (.inl (0, 6, .inl (xsl w 21 6)))).set (p + 7) (.inl (0, 240, .inl (xsl w 147 240)))).set (p + 8) (.inl (0, 48, .inl (xsl w 387 48))))).set p (.inr (3, [.ref (p + 1), .ref (p + 3), .ref (p + 4), .ref (p + 5), .ref (p + 6), .ref (p + 7), .ref (p + 8), .int (w 6), .int (w 7), .int (w 8)]))
theorem xput_len (hp : List xE) (p : Nat) (w : Nat → Int32) : (xput hp p w).length = hp.length := by simp [xput]
section P18
variable {G : xG} {hp : List xE} {x : Nat} {w w' : Nat → Int32} {sv : Nat → Nat → Int32} {qo qm ql : Int32} {co : Nat → Int32} {sx : xSx} {T : List xE}
theorem S_W_copyFrom {p j : Nat} (Wp : xWk hp p w') (Wj : xWk hp j w) (hne : p + 8 < j ∨ j + 8 < p) : xMet G W_copyFrom [.ref p, .ref j] hp x 0 0 (xRet none (xput hp p w)) := by
  refine xw_aload_n 1 dX3_copyFrom_0 rfl rfl rfl ?_
  refine xw_ifnonnull 5 dX3_copyFrom_1 rfl rfl rfl ?_
  refine xw_aload_n 6 dX3_copyFrom_5 rfl rfl rfl ?_
  refine xw_get 9 dX3_copyFrom_6 rfl f_X3_12 (Wp.o) rfl ?_
  refine xw_aload_n 10 dX3_copyFrom_9 rfl rfl rfl ?_
  refine xw_get 13 dX3_copyFrom_10 rfl f_X3_12 (Wj.o) rfl ?_
  refine xw_pVNv 16 dX3_copyFrom_13 rfl ok_C_copyFrom s_X3_54 (S_C_copyFrom Wp.ch Wp.ce Wj.ch Wj.ce (by omega) (by omega) (by rw [xsl_mix])) (by rw [List.length_set, List.length_set]) (Wp.ch) rfl rfl rfl rfl rfl rfl rfl ?_
  refine xw_aload_n 17 dX3_copyFrom_16 rfl rfl rfl ?_
  refine xw_get 20 dX3_copyFrom_17 rfl f_X3_18 (by rw [xset_ne (by omega), xset_ne (by omega)]; exact Wj.o) rfl ?_
  refine xw_aload_n 21 dX3_copyFrom_20 rfl rfl rfl ?_
  refine xw_get 24 dX3_copyFrom_21 rfl f_X3_18 (by rw [xset_ne (by omega), xset_ne (by omega)]; exact Wp.o) rfl ?_
  refine xw_pSNv 27 dX3_copyFrom_24 rfl ok_B_copy s_X3_25 (S_B_copy (by rw [xset_ne (by omega), xset_ne (by omega)]; exact Wj.se) (by rw [xset_ne (by omega), xset_ne (by omega)]; exact Wp.se) (by omega) (by decide) (by rw [xsl_mix])) (by simp only [List.length_set]) rfl rfl rfl rfl rfl rfl ?_
  refine xw_aload_n 28 dX3_copyFrom_27 rfl rfl rfl ?_
  refine xw_get 31 dX3_copyFrom_28 rfl f_X3_29 (by rw [xset_ne (by omega), xset_ne (by omega), xset_ne (by omega)]; exact Wj.o) rfl ?_
  refine xw_aload_n 32 dX3_copyFrom_31 rfl rfl rfl ?_
  refine xw_get 35 dX3_copyFrom_32 rfl f_X3_29 (by rw [xset_ne (by omega), xset_ne (by omega), xset_ne (by omega)]; exact Wp.o) rfl ?_
  refine xw_pSNv 38 dX3_copyFrom_35 rfl ok_B_copy s_X3_25 (S_B_copy (by rw [xset_ne (by omega), xset_ne (by omega), xset_ne (by omega)]; exact Wj.st) (by rw [xset_ne (by omega), xset_ne (by omega), xset_ne (by omega)]; exact Wp.st) (by omega) (by decide) (by rw [xsl_mix])) (by simp only [List.length_set]) rfl rfl rfl rfl rfl rfl ?_
  refine xw_aload_n 39 dX3_copyFrom_38 rfl rfl rfl ?_
  refine xw_get 42 dX3_copyFrom_39 rfl f_X3_32 (by rw [xset_ne (by omega), xset_ne (by omega), xset_ne (by omega), xset_ne (by omega)]; exact Wj.o) rfl ?_
  refine xw_aload_n 43 dX3_copyFrom_42 rfl rfl rfl ?_
  refine xw_get 46 dX3_copyFrom_43 rfl f_X3_32 (by rw [xset_ne (by omega), xset_ne (by omega), xset_ne (by omega), xset_ne (by omega)]; exact Wp.o) rfl ?_
  refine xw_pSNv 49 dX3_copyFrom_46 rfl ok_B_copy s_X3_25 (S_B_copy (by rw [xset_ne (by omega), xset_ne (by omega), xset_ne (by omega), xset_ne (by omega)]; exact Wj.bo) (by rw [xset_ne (by omega), xset_ne (by omega), xset_ne (by omega), xset_ne (by omega)]; exact Wp.bo) (by omega) (by decide) (by rw [xsl_mix])) (by simp only [List.length_set]) rfl rfl rfl rfl rfl rfl ?_
  refine xw_aload_n 50 dX3_copyFrom_49 rfl rfl rfl ?_
  refine xw_get 53 dX3_copyFrom_50 rfl f_X3_35 (by rw [xset_ne (by omega), xset_ne (by omega), xset_ne (by omega), xset_ne (by omega), xset_ne (by omega)]; exact Wj.o) rfl ?_
  refine xw_aload_n 54 dX3_copyFrom_53 rfl rfl rfl ?_
  refine xw_get 57 dX3_copyFrom_54 rfl f_X3_35 (by rw [xset_ne (by omega), xset_ne (by omega), xset_ne (by omega), xset_ne (by omega), xset_ne (by omega)]; exact Wp.o) rfl ?_
  refine xw_pSNv 60 dX3_copyFrom_57 rfl ok_B_copy s_X3_25 (S_B_copy (by rw [xset_ne (by omega), xset_ne (by omega), xset_ne (by omega), xset_ne (by omega), xset_ne (by omega)]; exact Wj.cr) (by rw [xset_ne (by omega), xset_ne (by omega), xset_ne (by omega), xset_ne (by omega), xset_ne (by omega)]; exact Wp.cr) (by omega) (by decide) (by rw [xsl_mix])) (by simp only [List.length_set]) rfl rfl rfl rfl rfl rfl ?_
  refine xw_aload_n 61 dX3_copyFrom_60 rfl rfl rfl ?_
  refine xw_get 64 dX3_copyFrom_61 rfl f_X3_38 (by rw [xset_ne (by omega), xset_ne (by omega), xset_ne (by omega), xset_ne (by omega), xset_ne (by omega), xset_ne (by omega)]; exact Wj.o) rfl ?_
  refine xw_aload_n 65 dX3_copyFrom_64 rfl rfl rfl ?_
  refine xw_get 68 dX3_copyFrom_65 rfl f_X3_38 (by rw [xset_ne (by omega), xset_ne (by omega), xset_ne (by omega), xset_ne (by omega), xset_ne (by omega), xset_ne (by omega)]; exact Wp.o) rfl ?_
  refine xw_pSNv 71 dX3_copyFrom_68 rfl ok_B_copy s_X3_25 (S_B_copy (by rw [xset_ne (by omega), xset_ne (by omega), xset_ne (by omega), xset_ne (by omega), xset_ne (by omega), xset_ne (by omega)]; exact Wj.be) (by rw [xset_ne (by omega), xset_ne (by omega), xset_ne (by omega), xset_ne (by omega), xset_ne (by omega), xset_ne (by omega)]; exact Wp.be) (by omega) (by decide) (by rw [xsl_mix])) (by simp only [List.length_set]) rfl rfl rfl rfl rfl rfl ?_
  refine xw_aload_n 72 dX3_copyFrom_71 rfl rfl rfl ?_
  refine xw_get 75 dX3_copyFrom_72 rfl f_X3_41 (by rw [xset_ne (by omega), xset_ne (by omega), xset_ne (by omega), xset_ne (by omega), xset_ne (by omega), xset_ne (by omega), xset_ne (by omega)]; exact Wj.o) rfl ?_
  refine xw_aload_n 76 dX3_copyFrom_75 rfl rfl rfl ?_
  refine xw_get 79 dX3_copyFrom_76 rfl f_X3_41 (by rw [xset_ne (by omega), xset_ne (by omega), xset_ne (by omega), xset_ne (by omega), xset_ne (by omega), xset_ne (by omega), xset_ne (by omega)]; exact Wp.o) rfl ?_
  refine xw_pSNv 82 dX3_copyFrom_79 rfl ok_B_copy s_X3_25 (S_B_copy (by rw [xset_ne (by omega), xset_ne (by omega), xset_ne (by omega), xset_ne (by omega), xset_ne (by omega), xset_ne (by omega), xset_ne (by omega)]; exact Wj.bg) (by rw [xset_ne (by omega), xset_ne (by omega), xset_ne (by omega), xset_ne (by omega), xset_ne (by omega), xset_ne (by omega), xset_ne (by omega)]; exact Wp.bg) (by omega) (by decide) (by rw [xsl_mix])) (by simp only [List.length_set]) rfl rfl rfl rfl rfl rfl ?_
  refine xw_aload_n 83 dX3_copyFrom_82 rfl rfl rfl ?_
  refine xw_aload_n 84 dX3_copyFrom_83 rfl rfl rfl ?_
  refine xw_get 87 dX3_copyFrom_84 rfl f_X3_44 (by rw [xset_ne (by omega), xset_ne (by omega), xset_ne (by omega), xset_ne (by omega), xset_ne (by omega), xset_ne (by omega), xset_ne (by omega), xset_ne (by omega)]; exact Wj.o) rfl ?_
  refine xw_put 90 dX3_copyFrom_87 rfl f_X3_44 (by rw [xset_ne (by omega), xset_ne (by omega), xset_ne (by omega), xset_ne (by omega), xset_ne (by omega), xset_ne (by omega), xset_ne (by omega), xset_ne (by omega)]; exact Wp.o) ⟨rfl, rfl⟩ rfl rfl (rfl) ?_
  refine xw_aload_n 91 dX3_copyFrom_90 rfl rfl rfl ?_
  refine xw_aload_n 92 dX3_copyFrom_91 rfl rfl rfl ?_
  refine xw_get 95 dX3_copyFrom_92 rfl f_X3_48 (by rw [xset_ne (by omega), xset_ne (by omega), xset_ne (by omega), xset_ne (by omega), xset_ne (by omega), xset_ne (by omega), xset_ne (by omega), xset_ne (by omega), xset_ne (by omega)]; exact Wj.o) rfl ?_
  refine xw_put 98 dX3_copyFrom_95 rfl f_X3_48 (xset_at (by rw [xset_ne (by omega), xset_ne (by omega), xset_ne (by omega), xset_ne (by omega), xset_ne (by omega), xset_ne (by omega), xset_ne (by omega), xset_ne (by omega)]; exact Wp.o)) ⟨rfl, rfl⟩ rfl rfl (by rw [List.set_set]) ?_
  refine xw_aload_n 99 dX3_copyFrom_98 rfl rfl rfl ?_
  refine xw_aload_n 100 dX3_copyFrom_99 rfl rfl rfl ?_
  refine xw_get 103 dX3_copyFrom_100 rfl f_X3_51 (by rw [xset_ne (by omega), xset_ne (by omega), xset_ne (by omega), xset_ne (by omega), xset_ne (by omega), xset_ne (by omega), xset_ne (by omega), xset_ne (by omega), xset_ne (by omega)]; exact Wj.o) rfl ?_
  refine xw_put 106 dX3_copyFrom_103 rfl f_X3_51 (xset_at (by rw [xset_ne (by omega), xset_ne (by omega), xset_ne (by omega), xset_ne (by omega), xset_ne (by omega), xset_ne (by omega), xset_ne (by omega), xset_ne (by omega)]; exact Wp.o)) ⟨rfl, rfl⟩ rfl rfl (by rw [List.set_set]) ?_
  exact xw_return dX3_copyFrom_106 rfl (⟨rfl, rfl⟩)
theorem bHp_svk {e : Nat} (he : e < 6) : xWk (bHp w sv qo qm ql co sx T) (12 + 9 * e) (sv e) := by
  rcases (show e = 0 ∨ e = 1 ∨ e = 2 ∨ e = 3 ∨ e = 4 ∨ e = 5 by omega) with rfl | rfl | rfl | rfl | rfl | rfl <;> exact ⟨rfl, rfl, rfl, rfl, rfl, rfl, rfl, rfl, rfl⟩
theorem bHp_put {e : Nat} (he : e < 6) : xput (bHp w sv qo qm ql co sx T) (12 + 9 * e) w' = (bHp w (va_up sv e w') qo qm ql co sx T) := by
  rcases (show e = 0 ∨ e = 1 ∨ e = 2 ∨ e = 3 ∨ e = 4 ∨ e = 5 by omega) with rfl | rfl | rfl | rfl | rfl | rfl <;> rfl
theorem bHp_put1 : xput (bHp w sv qo qm ql co sx T) 1 w' = (bHp w' sv qo qm ql co sx T) := rfl
theorem xSv_at {i : Nat} (h : i < 6) : xSv i = some (12 + 9 * i) := if_pos h
theorem S_H_slot {q a : Nat} (hq : q < 6) (ha : a < 100) : xMet G H_slot [.ref 10, .int (nI a)] (bHp w sv (nI q) qm ql co sx T) x 0 0 (xRetV (.ref (12 + 9 * ((q + a) % 6))) (bHp w sv (nI q) qm ql co sx T)) := by
  have hlt : (q + a) % 6 < 6 := Nat.mod_lt _ (by decide)
  refine xw_aload_n 1 dX1_slot_0 rfl rfl rfl ?_
  refine xw_get 4 dX1_slot_1 rfl f_X1_18 (rfl) rfl ?_
  refine xw_iload_n 5 dX1_slot_4 rfl rfl ?_
  refine xw_iadd 6 dX1_slot_5 rfl ?_
  refine xw_bipush 8 (nI 6) dX1_slot_6 rfl (by decide) ?_
  rw [nI_add]
  refine xw_irem 9 dX1_slot_8 rfl (by decide) ?_
  rw [pk_rem (d := 6) (by omega) (by decide) (by decide)]
  refine xw_istore_n (ls' := [(2, _), (0, _), (1, _)]) 10 dX1_slot_9 rfl rfl rfl ?_
  refine xw_iload_n 11 dX1_slot_10 rfl rfl ?_
  refine xw_if_lt 23 14 dX1_slot_11 rfl rfl (fun h11 => absurd h11 (nI_pos (by omega))) (fun h11 => ?_)
  refine xw_iload_n 15 dX1_slot_14 rfl rfl ?_
  refine xw_aload_n 16 dX1_slot_15 rfl rfl rfl ?_
  refine xw_get 19 dX1_slot_16 rfl f_X1_11 (rfl) rfl ?_
  refine xw_alen 20 dX1_slot_19 rfl (by decide) (rfl) ?_
  refine xw_icmp_lt 25 23 dX1_slot_20 rfl rfl (fun h20 => ?_) (fun h20 => absurd (nI_lt hlt (by decide)) h20)
  refine xw_aload_n 26 dX1_slot_25 rfl rfl rfl ?_
  refine xw_get 29 dX1_slot_26 rfl f_X1_11 (rfl) rfl ?_
  refine xw_iload_n 30 dX1_slot_29 rfl rfl ?_
  refine xw_aaload (j := (q + a) % 6) 31 dX1_slot_30 rfl (rfl) (rfl) (by omega) (by omega) (xSv_at hlt) ?_
  exact xw_areturn dX1_slot_31 rfl rfl (⟨rfl, rfl⟩)
/-- the ring behind a save: the place that is filled, the oldest, how many -/
def zrE (q m : Nat) : Nat := if 6 ≤ m then ((q + 1) % 6 + 5) % 6 else (q + m) % 6
def zrO (q m : Nat) : Nat := if 6 ≤ m then (q + 1) % 6 else q
def zrM (m : Nat) : Nat := if 6 ≤ m then 6 else m + 1
theorem S_H_save {q m : Nat} (hq : q < 6) (hm : m ≤ 6) : xMet G H_save [.ref 10, .ref 1] (bHp w sv (nI q) (nI m) ql co sx T) x 0 0 (xRet none (bHp w (va_up sv (zrE q m) w) (nI (zrO q m)) (nI (zrM m)) ql co sx T)) := by
  by_cases h6 : 6 ≤ m
  · have e6 : m = 6 := by omega
    subst e6
    have h1 : zrO q 6 = (q + 1) % 6 := rfl
    have h2 : zrE q 6 = ((q + 1) % 6 + 5) % 6 := rfl
    have hlt : (q + 1) % 6 < 6 := Nat.mod_lt _ (by decide)
    have hlt2 : ((q + 1) % 6 + 5) % 6 < 6 := Nat.mod_lt _ (by decide)
    rw [h1, h2]
    refine xw_aload_n 1 dX1_save_0 rfl rfl rfl ?_
    refine xw_get 4 dX1_save_1 rfl f_X1_22 (rfl) rfl ?_
    refine xw_bipush 6 (nI 6) dX1_save_4 rfl (by decide) ?_
    refine xw_icmp_lt 32 9 dX1_save_6 rfl rfl (fun h6 => absurd h6 (nI_nlt (Nat.le_refl _) (by decide))) (fun h6 => ?_)
    refine xw_aload_n 10 dX1_save_9 rfl rfl rfl ?_
    refine xw_aload_n 11 dX1_save_10 rfl rfl rfl ?_
    refine xw_get 14 dX1_save_11 rfl f_X1_18 (rfl) rfl ?_
    refine xw_iconst 15 (nI 1) dX1_save_14 rfl (xofI 1) ?_
    refine xw_iadd 16 dX1_save_15 rfl ?_
    refine xw_bipush 18 (nI 6) dX1_save_16 rfl (by decide) ?_
    rw [nI_add]
    refine xw_irem 19 dX1_save_18 rfl (by decide) ?_
    rw [pk_rem (d := 6) (by omega) (by decide) (by decide)]
    refine xw_put 22 dX1_save_19 rfl f_X1_18 (rfl) ⟨rfl, rfl⟩ rfl rfl ((rfl : _ = (bHp w sv (nI ((q + 1) % 6)) (nI 6) ql co sx T))) ?_
    refine xw_aload_n 23 dX1_save_22 rfl rfl rfl ?_
    refine xw_dup 24 dX1_save_23 rfl rfl ?_
    refine xw_get 27 dX1_save_24 rfl f_X1_22 (rfl) rfl ?_
    refine xw_iconst 28 (nI 1) dX1_save_27 rfl (xofI 1) ?_
    refine xw_isub 29 dX1_save_28 rfl ?_
    rw [nI_1s (by decide)]
    refine xw_put 32 dX1_save_29 rfl f_X1_22 (rfl) ⟨rfl, rfl⟩ rfl rfl ((rfl : _ = (bHp w sv (nI ((q + 1) % 6)) (nI 5) ql co sx T))) ?_
    refine xw_aload_n 33 dX1_save_32 rfl rfl rfl ?_
    refine xw_aload_n 34 dX1_save_33 rfl rfl rfl ?_
    refine xw_get 37 dX1_save_34 rfl f_X1_22 (rfl) rfl ?_
    refine xw_pV 40 dX1_save_37 rfl ok_H_slot s_X1_25 (S_H_slot hlt (by decide)) (bHp_len) (rfl) rfl rfl rfl rfl rfl rfl rfl ?_
    refine xw_astore_n (ls' := [(2, _), (0, _), (1, _)]) 41 dX1_save_40 rfl rfl rfl rfl ?_
    refine xw_aload_n 42 dX1_save_41 rfl rfl rfl ?_
    refine xw_ifnull 45 dX1_save_42 rfl rfl rfl ?_
    refine xw_aload_n 46 dX1_save_45 rfl rfl rfl ?_
    refine xw_aload_n 47 dX1_save_46 rfl rfl rfl ?_
    refine xw_pVNv 50 dX1_save_47 rfl ok_W_copyFrom s_X1_29 (S_W_copyFrom (bHp_svk hlt2) bHp_wk (by omega)) ((xput_len _ _ _).symm) ((bHp_svk hlt2).o) rfl rfl rfl rfl rfl rfl rfl ?_
    rw [bHp_put hlt2]
    refine xw_aload_n 51 dX1_save_50 rfl rfl rfl ?_
    refine xw_dup 52 dX1_save_51 rfl rfl ?_
    refine xw_get 55 dX1_save_52 rfl f_X1_22 (rfl) rfl ?_
    refine xw_iconst 56 (nI 1) dX1_save_55 rfl (xofI 1) ?_
    refine xw_iadd 57 dX1_save_56 rfl ?_
    rw [nI_add]
    refine xw_put 60 dX1_save_57 rfl f_X1_22 (rfl) ⟨rfl, rfl⟩ rfl rfl ((rfl : _ = (bHp w (va_up sv (((q + 1) % 6 + 5) % 6) w) (nI ((q + 1) % 6)) (nI 6) ql co sx T))) ?_
    exact xw_return dX1_save_60 rfl (⟨rfl, rfl⟩)
  · have h1 : zrO q m = q := if_neg h6
    have h2 : zrE q m = (q + m) % 6 := if_neg h6
    have h3 : zrM m = m + 1 := if_neg h6
    have hlt2 : (q + m) % 6 < 6 := Nat.mod_lt _ (by decide)
    rw [h1, h2, h3]
    refine xw_aload_n 1 dX1_save_0 rfl rfl rfl ?_
    refine xw_get 4 dX1_save_1 rfl f_X1_22 (rfl) rfl ?_
    refine xw_bipush 6 (nI 6) dX1_save_4 rfl (by decide) ?_
    refine xw_icmp_lt 32 9 dX1_save_6 rfl rfl (fun h6 => ?_) (fun h6 => absurd (nI_lt (by omega) (by decide)) h6)
    refine xw_aload_n 33 dX1_save_32 rfl rfl rfl ?_
    refine xw_aload_n 34 dX1_save_33 rfl rfl rfl ?_
    refine xw_get 37 dX1_save_34 rfl f_X1_22 (rfl) rfl ?_
    refine xw_pV 40 dX1_save_37 rfl ok_H_slot s_X1_25 (S_H_slot hq (by omega)) (bHp_len) (rfl) rfl rfl rfl rfl rfl rfl rfl ?_
    refine xw_astore_n (ls' := [(2, _), (0, _), (1, _)]) 41 dX1_save_40 rfl rfl rfl rfl ?_
    refine xw_aload_n 42 dX1_save_41 rfl rfl rfl ?_
    refine xw_ifnull 45 dX1_save_42 rfl rfl rfl ?_
    refine xw_aload_n 46 dX1_save_45 rfl rfl rfl ?_
    refine xw_aload_n 47 dX1_save_46 rfl rfl rfl ?_
    refine xw_pVNv 50 dX1_save_47 rfl ok_W_copyFrom s_X1_29 (S_W_copyFrom (bHp_svk hlt2) bHp_wk (by omega)) ((xput_len _ _ _).symm) ((bHp_svk hlt2).o) rfl rfl rfl rfl rfl rfl rfl ?_
    rw [bHp_put hlt2]
    refine xw_aload_n 51 dX1_save_50 rfl rfl rfl ?_
    refine xw_dup 52 dX1_save_51 rfl rfl ?_
    refine xw_get 55 dX1_save_52 rfl f_X1_22 (rfl) rfl ?_
    refine xw_iconst 56 (nI 1) dX1_save_55 rfl (xofI 1) ?_
    refine xw_iadd 57 dX1_save_56 rfl ?_
    rw [nI_add]
    refine xw_put 60 dX1_save_57 rfl f_X1_22 (rfl) ⟨rfl, rfl⟩ rfl rfl ((rfl : _ = (bHp w (va_up sv ((q + m) % 6) w) (nI q) (nI (m + 1)) ql co sx T))) ?_
    exact xw_return dX1_save_60 rfl (⟨rfl, rfl⟩)
end P18

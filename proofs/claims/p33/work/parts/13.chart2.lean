/-! ===== Chart: what writes ===== -/
theorem xlayP_same (tc : Nat → Nat → Int32) (g : Nat → Int32) {r c C : Nat} (hc : c < C) (hC : C ≤ 12) (h : tc r c = g (r * 12 + c)) : xlayP tc g r (c + 1) C = xlayP tc g r c C := by
  rw [← xlayP_s tc g hc hC]
  funext k
  simp only [upd]
  by_cases hk : k = r * 12 + c
  · subst hk; rw [if_pos rfl, xlayP_at _ _ (by omega), h]
  · rw [if_neg hk]
section P13
variable {G : xG} {hp : List xE} {x : Nat} {k q : Nat} {R C : Nat} {f : Nat → Int32}
theorem S_C_swapColours_same {a : Int32} : xMet G C_swapColours [.ref k, .int a, .int a] hp x 0 0 (xRetV (.int (nI 0)) hp) := by
  refine xw_iload_n 1 dX0_swapColours_0 rfl rfl ?_
  refine xw_iload_n 2 dX0_swapColours_1 rfl rfl ?_
  refine xw_icmp_ne 7 5 dX0_swapColours_2 rfl rfl (fun h2 => absurd (rfl) h2) (fun h2 => ?_)
  refine xw_iconst 6 (nI 0) dX0_swapColours_5 rfl (xofI 0) ?_
  exact xw_ireturn dX0_swapColours_6 rfl (⟨rfl, rfl⟩)
theorem S_C_swapColours {a b : Int32} (hc : hp[k]? = some (.inr (0, [.ref q, .int (nI R), .int (nI C)]))) (hq : hp[q]? = some (.inl (0, 120, .inl f))) (h1 : 1 ≤ R) (h2 : R ≤ 10) (h3 : 1 ≤ C) (h4 : C ≤ 12) (hab : ¬ a = b) : xMet G C_swapColours [.ref k, .int a, .int b] hp x 0 0 (xRetV (.int (nI (xct2 (fun r c => decide (f (r * 12 + c) = a ∨ f (r * 12 + c) = b)) C R))) (hp.set q (.inl (0, 120, .inl (xlay (fun r c => xsw a b (f (r * 12 + c))) f R C))))) := by
  have inner : ∀ (r : Nat), r < R → xW G C_swapColours (xRetV (.int (nI (xct2 (fun r c => decide (f (r * 12 + c) = a ∨ f (r * 12 + c) = b)) C R))) (hp.set q (.inl (0, 120, .inl (xlay (fun r c => xsw a b (f (r * 12 + c))) f R C))))) 12 [(4, .int (nI (r + 1))), (3, .int (nI (xct2 (fun r c => decide (f (r * 12 + c) = a ∨ f (r * 12 + c) = b)) C (r + 1)))), (0, .ref k), (1, .int a), (2, .int b)] [] (hp.set q (.inl (0, 120, .inl (xlayP (fun r c => xsw a b (f (r * 12 + c))) f (r + 1) 0 C)))) x 0 0 →
      ∀ (t c : Nat), c + t = C → xW G C_swapColours (xRetV (.int (nI (xct2 (fun r c => decide (f (r * 12 + c) = a ∨ f (r * 12 + c) = b)) C R))) (hp.set q (.inl (0, 120, .inl (xlay (fun r c => xsw a b (f (r * 12 + c))) f R C))))) 24 [(5, .int (nI c)), (4, .int (nI r)), (3, .int (nI (xct2 (fun r c => decide (f (r * 12 + c) = a ∨ f (r * 12 + c) = b)) C r + xct ((fun r c => decide (f (r * 12 + c) = a ∨ f (r * 12 + c) = b)) r) c))), (0, .ref k), (1, .int a), (2, .int b)] [] (hp.set q (.inl (0, 120, .inl (xlayP (fun r c => xsw a b (f (r * 12 + c))) f r c C)))) x 0 0 := by
    intro r hr kk t
    induction t with
    | zero =>
      intro c hct
      have e : c = C := by omega
      subst e
      have hkq : k ≠ q := xne_cell hc hq (by simp)
      have hc' : (hp.set q (.inl (0, 120, .inl (xlayP (fun r c => xsw a b (f (r * 12 + c))) f r c c))))[k]? = some (.inr (0, [.ref q, .int (nI R), .int (nI c)])) := by rw [xset_ne hkq]; exact hc
      have hq' : (hp.set q (.inl (0, 120, .inl (xlayP (fun r c => xsw a b (f (r * 12 + c))) f r c c))))[q]? = some (.inl (0, 120, .inl (xlayP (fun r c => xsw a b (f (r * 12 + c))) f r c c))) := xset_at hq
      refine xw_iload 26 dX0_swapColours_24 rfl rfl ?_
      refine xw_aload_n 27 dX0_swapColours_26 rfl rfl rfl ?_
      refine xw_get 30 dX0_swapColours_27 rfl f_X0_19 (hc') rfl ?_
      refine xw_icmp_ge 83 33 dX0_swapColours_30 rfl rfl (fun h30 => ?_) (fun h30 => absurd (nI_le (Nat.le_refl _) (by omega)) h30)
      refine xw_iinc (ls' := [(4, _), (5, _), (3, _), (0, _), (1, _), (2, _)]) 86 _ dX0_swapColours_83 rfl rfl (xnI_inc _) rfl rfl ?_
      refine xw_goto 12 dX0_swapColours_86 rfl ?_
      rw [xlayP_r]
      exact xW.pick [0, 2, 3, 4, 5] rfl (kk)
    | succ t ih =>
      intro c hct
      have hkq : k ≠ q := xne_cell hc hq (by simp)
      have hc' : (hp.set q (.inl (0, 120, .inl (xlayP (fun r c => xsw a b (f (r * 12 + c))) f r c C))))[k]? = some (.inr (0, [.ref q, .int (nI R), .int (nI C)])) := by rw [xset_ne hkq]; exact hc
      have hq' : (hp.set q (.inl (0, 120, .inl (xlayP (fun r c => xsw a b (f (r * 12 + c))) f r c C))))[q]? = some (.inl (0, 120, .inl (xlayP (fun r c => xsw a b (f (r * 12 + c))) f r c C))) := xset_at hq
      have ih := ih (c + 1) (by omega)
      by_cases ha : f (r * 12 + c) = a
      · have e : xct ((fun r c => decide (f (r * 12 + c) = a ∨ f (r * 12 + c) = b)) r) (c + 1) = xct ((fun r c => decide (f (r * 12 + c) = a ∨ f (r * 12 + c) = b)) r) c + 1 := xct_y (by simp [ha])
        have hsw : b = xsw a b (f (r * 12 + c)) := by simp [xsw, ha]
        rw [e] at ih
        refine xw_iload 26 dX0_swapColours_24 rfl rfl ?_
        refine xw_aload_n 27 dX0_swapColours_26 rfl rfl rfl ?_
        refine xw_get 30 dX0_swapColours_27 rfl f_X0_19 (hc') rfl ?_
        refine xw_icmp_ge 83 33 dX0_swapColours_30 rfl rfl (fun h30 => absurd h30 (nI_ge (by omega) (by omega))) (fun h30 => ?_)
        refine xw_aload_n 34 dX0_swapColours_33 rfl rfl rfl ?_
        refine xw_iload 36 dX0_swapColours_34 rfl rfl ?_
        refine xw_iload 38 dX0_swapColours_36 rfl rfl ?_
        have hx := S_C_cellAt (G := G) (x := x) hc' hq' rfl rfl (show r * 12 + c < 120 by omega)
        rw [xlayP_at _ _ (show c < 12 by omega)] at hx
        refine xw_pV 41 dX0_swapColours_38 rfl ok_C_cellAt s_X0_34 (hx) (rfl) (hc') rfl rfl rfl rfl rfl rfl rfl ?_
        refine xw_istore (ls' := [(6, _), (5, _), (4, _), (3, _), (0, _), (1, _), (2, _)]) 43 dX0_swapColours_41 rfl rfl rfl ?_
        refine xw_iload 45 dX0_swapColours_43 rfl rfl ?_
        refine xw_iload_n 46 dX0_swapColours_45 rfl rfl ?_
        refine xw_icmp_eq 55 49 dX0_swapColours_46 rfl rfl (fun h46 => ?_) (fun h46 => absurd (ha) h46)
        refine xw_aload_n 56 dX0_swapColours_55 rfl rfl rfl ?_
        refine xw_iload 58 dX0_swapColours_56 rfl rfl ?_
        refine xw_iload 60 dX0_swapColours_58 rfl rfl ?_
        refine xw_iload 62 dX0_swapColours_60 rfl rfl ?_
        refine xw_iload_n 63 dX0_swapColours_62 rfl rfl ?_
        refine xw_icmp_ne 70 66 dX0_swapColours_63 rfl rfl (fun h63 => absurd (ha) h63) (fun h63 => ?_)
        refine xw_iload_n 67 dX0_swapColours_66 rfl rfl ?_
        refine xw_goto 71 dX0_swapColours_67 rfl ?_
        refine xw_pVv 74 dX0_swapColours_71 rfl ok_C_putCell s_X0_42 (S_C_putCell hc' hq' rfl rfl (show r * 12 + c < 120 by omega) (by rw [List.set_set, xlayP_sv (fun r c => xsw a b (f (r * 12 + c))) f (show c < C by omega) h4 hsw])) (by rw [List.length_set, List.length_set]) (hc') rfl rfl rfl rfl rfl rfl rfl ?_
        refine xw_iinc (ls' := [(3, _), (6, _), (5, _), (4, _), (0, _), (1, _), (2, _)]) 77 _ dX0_swapColours_74 rfl rfl (xnI_inc _) rfl rfl ?_
        refine xw_iinc (ls' := [(5, _), (3, _), (6, _), (4, _), (0, _), (1, _), (2, _)]) 80 _ dX0_swapColours_77 rfl rfl (xnI_inc _) rfl rfl ?_
        refine xw_goto 24 dX0_swapColours_80 rfl ?_
        exact xW.pick [0, 3, 1, 4, 5, 6] rfl (ih)
      · by_cases hb : f (r * 12 + c) = b
        · have e : xct ((fun r c => decide (f (r * 12 + c) = a ∨ f (r * 12 + c) = b)) r) (c + 1) = xct ((fun r c => decide (f (r * 12 + c) = a ∨ f (r * 12 + c) = b)) r) c + 1 := xct_y (by simp [hb])
          have hsw : a = xsw a b (f (r * 12 + c)) := by simp [xsw, hb, Ne.symm hab]
          rw [e] at ih
          refine xw_iload 26 dX0_swapColours_24 rfl rfl ?_
          refine xw_aload_n 27 dX0_swapColours_26 rfl rfl rfl ?_
          refine xw_get 30 dX0_swapColours_27 rfl f_X0_19 (hc') rfl ?_
          refine xw_icmp_ge 83 33 dX0_swapColours_30 rfl rfl (fun h30 => absurd h30 (nI_ge (by omega) (by omega))) (fun h30 => ?_)
          refine xw_aload_n 34 dX0_swapColours_33 rfl rfl rfl ?_
          refine xw_iload 36 dX0_swapColours_34 rfl rfl ?_
          refine xw_iload 38 dX0_swapColours_36 rfl rfl ?_
          have hx := S_C_cellAt (G := G) (x := x) hc' hq' rfl rfl (show r * 12 + c < 120 by omega)
          rw [xlayP_at _ _ (show c < 12 by omega)] at hx
          refine xw_pV 41 dX0_swapColours_38 rfl ok_C_cellAt s_X0_34 (hx) (rfl) (hc') rfl rfl rfl rfl rfl rfl rfl ?_
          refine xw_istore (ls' := [(6, _), (5, _), (4, _), (3, _), (0, _), (1, _), (2, _)]) 43 dX0_swapColours_41 rfl rfl rfl ?_
          refine xw_iload 45 dX0_swapColours_43 rfl rfl ?_
          refine xw_iload_n 46 dX0_swapColours_45 rfl rfl ?_
          refine xw_icmp_eq 55 49 dX0_swapColours_46 rfl rfl (fun h46 => absurd h46 (ha)) (fun h46 => ?_)
          refine xw_iload 51 dX0_swapColours_49 rfl rfl ?_
          refine xw_iload_n 52 dX0_swapColours_51 rfl rfl ?_
          refine xw_icmp_ne 77 55 dX0_swapColours_52 rfl rfl (fun h52 => absurd (hb) h52) (fun h52 => ?_)
          refine xw_aload_n 56 dX0_swapColours_55 rfl rfl rfl ?_
          refine xw_iload 58 dX0_swapColours_56 rfl rfl ?_
          refine xw_iload 60 dX0_swapColours_58 rfl rfl ?_
          refine xw_iload 62 dX0_swapColours_60 rfl rfl ?_
          refine xw_iload_n 63 dX0_swapColours_62 rfl rfl ?_
          refine xw_icmp_ne 70 66 dX0_swapColours_63 rfl rfl (fun h63 => ?_) (fun h63 => absurd h63 (ha))
          refine xw_iload_n 71 dX0_swapColours_70 rfl rfl ?_
          refine xw_pVv 74 dX0_swapColours_71 rfl ok_C_putCell s_X0_42 (S_C_putCell hc' hq' rfl rfl (show r * 12 + c < 120 by omega) (by rw [List.set_set, xlayP_sv (fun r c => xsw a b (f (r * 12 + c))) f (show c < C by omega) h4 hsw])) (by rw [List.length_set, List.length_set]) (hc') rfl rfl rfl rfl rfl rfl rfl ?_
          refine xw_iinc (ls' := [(3, _), (6, _), (5, _), (4, _), (0, _), (1, _), (2, _)]) 77 _ dX0_swapColours_74 rfl rfl (xnI_inc _) rfl rfl ?_
          refine xw_iinc (ls' := [(5, _), (3, _), (6, _), (4, _), (0, _), (1, _), (2, _)]) 80 _ dX0_swapColours_77 rfl rfl (xnI_inc _) rfl rfl ?_
          refine xw_goto 24 dX0_swapColours_80 rfl ?_
          exact xW.pick [0, 3, 1, 4, 5, 6] rfl (ih)
        · have e : xct ((fun r c => decide (f (r * 12 + c) = a ∨ f (r * 12 + c) = b)) r) (c + 1) = xct ((fun r c => decide (f (r * 12 + c) = a ∨ f (r * 12 + c) = b)) r) c := xct_n (by simp [ha, hb])
          have hsw : xsw a b (f (r * 12 + c)) = f (r * 12 + c) := by simp [xsw, ha, hb]
          rw [e, xlayP_same (fun r c => xsw a b (f (r * 12 + c))) f (show c < C by omega) h4 hsw] at ih
          refine xw_iload 26 dX0_swapColours_24 rfl rfl ?_
          refine xw_aload_n 27 dX0_swapColours_26 rfl rfl rfl ?_
          refine xw_get 30 dX0_swapColours_27 rfl f_X0_19 (hc') rfl ?_
          refine xw_icmp_ge 83 33 dX0_swapColours_30 rfl rfl (fun h30 => absurd h30 (nI_ge (by omega) (by omega))) (fun h30 => ?_)
          refine xw_aload_n 34 dX0_swapColours_33 rfl rfl rfl ?_
          refine xw_iload 36 dX0_swapColours_34 rfl rfl ?_
          refine xw_iload 38 dX0_swapColours_36 rfl rfl ?_
          have hx := S_C_cellAt (G := G) (x := x) hc' hq' rfl rfl (show r * 12 + c < 120 by omega)
          rw [xlayP_at _ _ (show c < 12 by omega)] at hx
          refine xw_pV 41 dX0_swapColours_38 rfl ok_C_cellAt s_X0_34 (hx) (rfl) (hc') rfl rfl rfl rfl rfl rfl rfl ?_
          refine xw_istore (ls' := [(6, _), (5, _), (4, _), (3, _), (0, _), (1, _), (2, _)]) 43 dX0_swapColours_41 rfl rfl rfl ?_
          refine xw_iload 45 dX0_swapColours_43 rfl rfl ?_
          refine xw_iload_n 46 dX0_swapColours_45 rfl rfl ?_
          refine xw_icmp_eq 55 49 dX0_swapColours_46 rfl rfl (fun h46 => absurd h46 (ha)) (fun h46 => ?_)
          refine xw_iload 51 dX0_swapColours_49 rfl rfl ?_
          refine xw_iload_n 52 dX0_swapColours_51 rfl rfl ?_
          refine xw_icmp_ne 77 55 dX0_swapColours_52 rfl rfl (fun h52 => ?_) (fun h52 => absurd h52 (hb))
          refine xw_iinc (ls' := [(5, _), (6, _), (4, _), (3, _), (0, _), (1, _), (2, _)]) 80 _ dX0_swapColours_77 rfl rfl (xnI_inc _) rfl rfl ?_
          refine xw_goto 24 dX0_swapColours_80 rfl ?_
          exact xW.pick [0, 2, 3, 4, 5, 6] rfl (ih)
  have outer : ∀ (t r : Nat), r + t = R → xW G C_swapColours (xRetV (.int (nI (xct2 (fun r c => decide (f (r * 12 + c) = a ∨ f (r * 12 + c) = b)) C R))) (hp.set q (.inl (0, 120, .inl (xlay (fun r c => xsw a b (f (r * 12 + c))) f R C))))) 12 [(4, .int (nI r)), (3, .int (nI (xct2 (fun r c => decide (f (r * 12 + c) = a ∨ f (r * 12 + c) = b)) C r))), (0, .ref k), (1, .int a), (2, .int b)] [] (hp.set q (.inl (0, 120, .inl (xlayP (fun r c => xsw a b (f (r * 12 + c))) f r 0 C)))) x 0 0 := by
    intro t
    induction t with
    | zero =>
      intro r hrt
      have e : r = R := by omega
      subst e
      have hkq : k ≠ q := xne_cell hc hq (by simp)
      have hc' : (hp.set q (.inl (0, 120, .inl (xlayP (fun r c => xsw a b (f (r * 12 + c))) f r 0 C))))[k]? = some (.inr (0, [.ref q, .int (nI r), .int (nI C)])) := by rw [xset_ne hkq]; exact hc
      refine xw_iload 14 dX0_swapColours_12 rfl rfl ?_
      refine xw_aload_n 15 dX0_swapColours_14 rfl rfl rfl ?_
      refine xw_get 18 dX0_swapColours_15 rfl f_X0_15 (hc') rfl ?_
      refine xw_icmp_ge 89 21 dX0_swapColours_18 rfl rfl (fun h18 => ?_) (fun h18 => absurd (nI_le (Nat.le_refl _) (by omega)) h18)
      refine xw_iload_n 90 dX0_swapColours_89 rfl rfl ?_
      exact xw_ireturn dX0_swapColours_90 rfl (⟨rfl, by rw [xlayP_e]⟩)
    | succ t ih =>
      intro r hrt
      have hkq : k ≠ q := xne_cell hc hq (by simp)
      have hc' : (hp.set q (.inl (0, 120, .inl (xlayP (fun r c => xsw a b (f (r * 12 + c))) f r 0 C))))[k]? = some (.inr (0, [.ref q, .int (nI R), .int (nI C)])) := by rw [xset_ne hkq]; exact hc
      refine xw_iload 14 dX0_swapColours_12 rfl rfl ?_
      refine xw_aload_n 15 dX0_swapColours_14 rfl rfl rfl ?_
      refine xw_get 18 dX0_swapColours_15 rfl f_X0_15 (hc') rfl ?_
      refine xw_icmp_ge 89 21 dX0_swapColours_18 rfl rfl (fun h18 => absurd h18 (nI_ge (by omega) (by omega))) (fun h18 => ?_)
      refine xw_iconst 22 (nI 0) dX0_swapColours_21 rfl (xofI 0) ?_
      refine xw_istore (ls' := [(5, _), (4, _), (3, _), (0, _), (1, _), (2, _)]) 24 dX0_swapColours_22 rfl rfl rfl ?_
      exact inner r (by omega) (ih (r + 1) (by omega)) C 0 (by omega)
  have h0 : hp = (hp.set q (.inl (0, 120, .inl (xlayP (fun r c => xsw a b (f (r * 12 + c))) f 0 0 C)))) := by rw [xlayP_0, xSelf hq]
  refine xw_iload_n 1 dX0_swapColours_0 rfl rfl ?_
  refine xw_iload_n 2 dX0_swapColours_1 rfl rfl ?_
  refine xw_icmp_ne 7 5 dX0_swapColours_2 rfl rfl (fun h2 => ?_) (fun h2 => absurd h2 (hab))
  refine xw_iconst 8 (nI 0) dX0_swapColours_7 rfl (xofI 0) ?_
  refine xw_istore_n (ls' := [(3, _), (0, _), (1, _), (2, _)]) 9 dX0_swapColours_8 rfl rfl rfl ?_
  refine xw_iconst 10 (nI 0) dX0_swapColours_9 rfl (xofI 0) ?_
  refine xw_istore (ls' := [(4, _), (3, _), (0, _), (1, _), (2, _)]) 12 dX0_swapColours_10 rfl rfl rfl ?_
  refine xW.cast rfl rfl h0 ?_
  exact outer R 0 (by omega)
theorem S_C_putCellG {a b v R0 C0 : Int32} {r c : Nat} {h9 : List xE} (hc : hp[k]? = some (.inr (0, [.ref q, .int R0, .int C0]))) (hq : hp[q]? = some (.inl (0, 120, .inl f))) (ha : a = nI r) (hb : b = nI c) (hi : r * 12 + c < 120) (h9e : hp.set q (.inl (0, 120, .inl (upd f (r * 12 + c) v))) = h9) : xMet G C_putCell [.ref k, .int a, .int b, .int v] hp x 0 0 (xRet none h9) := by
  subst ha; subst hb
  refine xw_aload_n 1 dX0_putCell_0 rfl rfl rfl ?_
  refine xw_get 4 dX0_putCell_1 rfl f_X0_9 (hc) rfl ?_
  refine xw_iload_n 5 dX0_putCell_4 rfl rfl ?_
  refine xw_bipush 7 (nI 12) dX0_putCell_5 rfl (by decide) ?_
  refine xw_imul 8 dX0_putCell_7 rfl ?_
  refine xw_iload_n 9 dX0_putCell_8 rfl rfl ?_
  refine xw_iadd 10 dX0_putCell_9 rfl ?_
  refine xw_iload_n 11 dX0_putCell_10 rfl rfl ?_
  refine xw_pSNv 14 dX0_putCell_11 rfl ok_B_put s_X0_30 (S_B_put hq (by decide) (by rw [pk_mul, nI_add]) hi h9e) (by rw [← h9e, List.length_set]) rfl rfl rfl rfl rfl rfl ?_
  exact xw_return dX0_putCell_14 rfl (⟨rfl, rfl⟩)
theorem S_C_copyFrom {j p : Nat} {R1 C1 R0 C0 : Int32} {g : Nat → Int32} {h9 : List xE} (hc : hp[k]? = some (.inr (0, [.ref q, .int R0, .int C0]))) (hq : hp[q]? = some (.inl (0, 120, .inl g))) (hj : hp[j]? = some (.inr (0, [.ref p, .int R1, .int C1]))) (hp' : hp[p]? = some (.inl (0, 120, .inl f))) (hkj : j ≠ k) (hpq : p ≠ q) (h9e : (hp.set k (.inr (0, [.ref q, .int R1, .int C1]))).set q (.inl (0, 120, .inl (xmix f g 120))) = h9) : xMet G C_copyFrom [.ref k, .ref j] hp x 0 0 (xRet none h9) := by
  have hqk : q ≠ k := Ne.symm (xne_cell hc hq (by simp))
  have hpk : p ≠ k := Ne.symm (xne_cell hc hp' (by simp))
  refine xw_aload_n 1 dX0_copyFrom_0 rfl rfl rfl ?_
  refine xw_ifnonnull 5 dX0_copyFrom_1 rfl rfl rfl ?_
  refine xw_aload_n 6 dX0_copyFrom_5 rfl rfl rfl ?_
  refine xw_aload_n 7 dX0_copyFrom_6 rfl rfl rfl ?_
  refine xw_get 10 dX0_copyFrom_7 rfl f_X0_15 (hj) rfl ?_
  refine xw_put 13 dX0_copyFrom_10 rfl f_X0_15 (hc) ⟨rfl, rfl⟩ rfl rfl (rfl) ?_
  refine xw_aload_n 14 dX0_copyFrom_13 rfl rfl rfl ?_
  refine xw_aload_n 15 dX0_copyFrom_14 rfl rfl rfl ?_
  refine xw_get 18 dX0_copyFrom_15 rfl f_X0_19 (by rw [xset_ne hkj]; exact hj) rfl ?_
  refine xw_put 21 dX0_copyFrom_18 rfl f_X0_19 (xset_at hc) ⟨rfl, rfl⟩ rfl rfl (by rw [List.set_set]) ?_
  refine xw_aload_n 22 dX0_copyFrom_21 rfl rfl rfl ?_
  refine xw_get 25 dX0_copyFrom_22 rfl f_X0_9 (by rw [xset_ne hkj]; exact hj) rfl ?_
  refine xw_aload_n 26 dX0_copyFrom_25 rfl rfl rfl ?_
  refine xw_get 29 dX0_copyFrom_26 rfl f_X0_9 (xset_at hc) rfl ?_
  refine xw_pSNv 32 dX0_copyFrom_29 rfl ok_B_copy s_X0_22 (S_B_copy (by rw [xset_ne hpk]; exact hp') (by rw [xset_ne hqk]; exact hq) hpq (by decide) h9e) (by rw [← h9e]; simp) rfl rfl rfl rfl rfl rfl ?_
  exact xw_return dX0_copyFrom_32 rfl (⟨rfl, rfl⟩)
end P13

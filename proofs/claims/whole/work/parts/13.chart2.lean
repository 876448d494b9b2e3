/-! ===== Chart: what writes ===== -/
theorem xlayP_same (tc : Nat → Nat → Int32) (g : Nat → Int32) {r c C : Nat} (hc : c < C) (hC : C ≤ 12) (h : tc r c = g (r * 12 + c)) : xlayP tc g r (c + 1) C = xlayP tc g r c C := by
  rw [← xlayP_s tc g hc hC]
  funext k
  simp only [upd]
  by_cases hk : k = r * 12 + c
  · subst hk; rw [if_pos rfl, xlayP_at _ _ (by omega), h]
  · rw [if_neg hk]
section P13
variable {G : xG} {hp : List xE} {x : Nat} {k q : Nat} {R C : Nat} {f : Nat → Int32}
theorem S_C_swapColours_same {a : Int32} : xMet G C_swapColours [.ref k, .int a, .int a] hp x 0 0 (xRetV (.int (nI 0)) hp) := by
  refine xw_iload_n 1 dX0_swapColours_0 rfl rfl ?_
  refine xw_iload_n 2 dX0_swapColours_1 rfl rfl ?_
  refine xw_icmp_ne 7 5 dX0_swapColours_2 rfl rfl (fun h2 => absurd (rfl) h2) (fun h2 => ?_)
  refine xw_iconst 6 (nI 0) dX0_swapColours_5 rfl (xofI 0) ?_
  exact xw_ireturn dX0_swapColours_6 rfl (⟨rfl, rfl⟩)
theorem S_C_swapColours {a b : Int32} (hc : hp[k]? = some (.inr (0, [.ref q, .int (nI R), .int (nI C)]))) (hq : hp[q]? = some (.inl (0, 120, .inl f))) (h1 : 1 ≤ R) (h2 : R ≤ 10) (h3 : 1 ≤ C) (h4 : C ≤ 12) (hab : ¬ a = b) : xMet G C_swapColours [.ref k, .int a, .int b] hp x 0 0 (xRetV (.int (nI (xct2 (fun r c => decide (f (r * 12 + c) = a ∨ f (r * 12 + c) = b)) C R))) (hp.set q (.inl (0, 120, .inl (xlay (fun r c => xsw a b (f (r * 12 + c))) f R C))))) := by
  have inner : ∀ (r : Nat), r < R → xW G C_swapColours (xRetV (.int (nI (xct2 (fun r c => decide (f (r * 12 + c) = a ∨ f (r * 12 + c) = b)) C R))) (hp.set q (.inl (0, 120, .inl (xlay (fun r c => xsw a b (f (r * 12 + c))) f R C))))) 12 [(4, .int (nI (r + 1))), (3, .int (nI (xct2 (fun r c => decide (f (r * 12 + c) = a ∨ f (r * 12 + c) = b)) C (r + 1)))), (0, .ref k), (1, .int a), (2, .int b)] [] (hp.set q (.inl (0, 120, .inl (xlayP (fun r c => xsw a b (f (r * 12 + c))) f (r + 1) 0 C)))) x 0 0 →
      ∀ (t c : Nat), c + t = C → xW G C_swapColours (xRetV (.int (nI (xct2 (fun r c => decide (f (r * 12 + c) = a ∨ f (r * 12 + c) = b)) C R))) (hp.set q (.inl (0, 120, .inl (xlay (fun r c => xsw a b (f (r * 12 + c))) f R C))))) 24 [(5, .int (nI c)), (4, .int (nI r)), (3, .int (nI (xct2 (fun r c => decide (f (r * 12 + c) = a ∨ f (r * 12 + c) = b)) C r + xct ((fun r c => decide (f (r * 12 + c) = a ∨ f (r * 12 + c) = b)) r) c))), (0, .ref k), (1, .int a), (2, .int b)] [] (hp.set q (.inl (0, 120, .inl (xlayP (fun r c => xsw a b (f (r * 12 + c))) f r c C)))) x 0 0 := by
    intro r hr kk t
    induction t with
    | zero =>
      intro c hct
      have e : c = C := by omega
      subst e
      have hkq : k ≠ q := xne_cell hc hq (by simp)
      have hc' : (hp.set q (.inl (0, 120, .inl (xlayP (fun r c => xsw a b (f (r * 12 + c))) f r c c))))[k]? = some (.inr (0, [.ref q, .int (nI R), .int (nI c)])) := by rw [xset_ne hkq]; exact hc
      have hq' : (hp.set q (.inl (0, 120, .inl (xlayP (fun r c => xsw a b (f (r * 12 + c))) f r c c))))[q]? = some (.inl (0, 120, .inl (xlayP (fun r c => xsw a b (f (r * 12 + c))) f r c c))) := xset_at hq
      refine xw_iload 26 dX0_swapColours_24 rfl rfl ?_
      refine xw_aload_n 27 dX0_swapColours_26 rfl rfl rfl ?_
      refine xw_get 30 dX0_swapColours_27 rfl f_X0_19 (hc') rfl ?_
      refine xw_icmp_ge 83 33 dX0_swapColours_30 rfl rfl (fun h30 => ?_) (fun h30 => absurd (nI_le (Nat.le_refl _) (by omega)) h30)
      refine xw_iinc (ls' := [(4, _), (5, _), (3, _), (0, _), (1, _), (2, _)]) 86 _ dX0_swapColours_83 rfl rfl (xnI_inc _) rfl rfl ?_
      refine xw_goto 12 dX0_swapColours_86 rfl ?_
      rw [xlayP_r]
      exact xW.pick [0, 2, 3, 4, 5] rfl (kk)
    | succ t ih =>
      intro c hct
      have hkq : k ≠ q := xne_cell hc hq (by simp)
      have hc' : (hp.set q (.inl (0, 120, .inl (xlayP (fun r c => xsw a b (f (r * 12 + c))) f r c C))))[k]? = some (.inr (0, [.ref q, .int (nI R), .int (nI C)])) := by rw [xset_ne hkq]; exact hc
      have hq' : (hp.set q (.inl (0, 120, .inl (xlayP (fun r c => xsw a b (f (r * 12 + c))) f r c C))))[q]? = some (.inl (0, 120, .inl (xlayP (fun r c => xsw a b (f (r * 12 + c))) f r c C))) := xset_at hq
      have ih := ih (c + 1) (by omega)
      by_cases ha : f (r * 12 + c) = a
      · have e : xct ((fun r c => decide (f (r * 12 + c) = a ∨ f (r * 12 + c) = b)) r) (c + 1) = xct ((fun r c => decide (f (r * 12 + c) = a ∨ f (r * 12 + c) = b)) r) c + 1 := xct_y (by simp [ha])
        have hsw : b = xsw a b (f (r * 12 + c)) := by simp [xsw, ha]
        rw [e] at ih
        refine xw_iload 26 dX0_swapColours_24 rfl rfl ?_
        refine xw_aload_n 27 dX0_swapColours_26 rfl rfl rfl ?_
        refine xw_get 30 dX0_swapColours_27 rfl f_X0_19 (hc') rfl ?_
        refine xw_icmp_ge 83 33 dX0_swapColours_30 rfl rfl (fun h30 => absurd h30 (nI_ge (by omega) (by omega))) (fun h30 => ?_)
        refine xw_aload_n 34 dX0_swapColours_33 rfl rfl rfl ?_
        refine xw_iload 36 dX0_swapColours_34 rfl rfl ?_
        refine xw_iload 38 dX0_swapColours_36 rfl rfl ?_
        have hx := S_C_cellAt (G := G) (x := x) hc' hq' rfl rfl (show r * 12 + c < 120 by omega)
        rw [xlayP_at _ _ (show c < 12 by omega)] at hx
        refine xw_pV 41 dX0_swapColours_38 rfl ok_C_cellAt s_X0_34 (hx) (rfl) (hc') rfl rfl rfl rfl rfl rfl rfl ?_
        refine xw_istore (ls' := [(6, _), (5, _), (4, _), (3, _), (0, _), (1, _), (2, _)]) 43 dX0_swapColours_41 rfl rfl rfl ?_
        refine xw_iload 45 dX0_swapColours_43 rfl rfl ?_
        refine xw_iload_n 46 dX0_swapColours_45 rfl rfl ?_
        refine xw_icmp_eq 55 49 dX0_swapColours_46 rfl rfl (fun h46 => ?_) (fun h46 => absurd (ha) h46)
        refine xw_aload_n 56 dX0_swapColours_55 rfl rfl rfl ?_
        refine xw_iload 58 dX0_swapColours_56 rfl rfl ?_
        refine xw_iload 60 dX0_swapColours_58 rfl rfl ?_
        refine xw_iload 62 dX0_swapColours_60 rfl rfl ?_
        refine xw_iload_n 63 dX0_swapColours_62 rfl rfl ?_
        refine xw_icmp_ne 70 66 dX0_swapColours_63 rfl rfl (fun h63 => absurd (ha) h63) (fun h63 => ?_)
        refine xw_iload_n 67 dX0_swapColours_66 rfl rfl ?_
        refine xw_goto 71 dX0_swapColours_67 rfl ?_
        refine xw_pVv 74 dX0_swapColours_71 rfl ok_C_putCell s_X0_42 (S_C_putCell hc' hq' rfl rfl (show r * 12 + c < 120 by omega) (by rw [List.set_set, xlayP_sv (fun r c => xsw a b (f (r * 12 + c))) f (show c < C by omega) h4 hsw])) (by rw [List.length_set, List.length_set]) (hc') rfl rfl rfl rfl rfl rfl rfl ?_
        refine xw_iinc (ls' := [(3, _), (6, _), (5, _), (4, _), (0, _), (1, _), (2, _)]) 77 _ dX0_swapColours_74 rfl rfl (xnI_inc _) rfl rfl ?_
        refine xw_iinc (ls' := [(5, _), (3, _), (6, _), (4, _), (0, _), (1, _), (2, _)]) 80 _ dX0_swapColours_77 rfl rfl (xnI_inc _) rfl rfl ?_
        refine xw_goto 24 dX0_swapColours_80 rfl ?_
        exact xW.pick [0, 3, 1, 4, 5, 6] rfl (ih)
      · by_cases hb : f (r * 12 + c) = b
        · have e : xct ((fun r c => decide (f (r * 12 + c) = a ∨ f (r * 12 + c) = b)) r) (c + 1) = xct ((fun r c => decide (f (r * 12 + c) = a ∨ f (r * 12 + c) = b)) r) c + 1 := xct_y (by simp [hb])
          have hsw : a = xsw a b (f (r * 12 + c)) := by simp [xsw, hb, Ne.symm hab]
          rw [e] at ih
          refine xw_iload 26 dX0_swapColours_24 rfl rfl ?_
          refine xw_aload_n 27 dX0_swapColours_26 rfl rfl rfl ?_
          refine xw_get 30 dX0_swapColours_27 rfl f_X0_19 (hc') rfl ?_
          refine xw_icmp_ge 83 33 dX0_swapColours_30 rfl rfl (fun h30 => absurd h30 (nI_ge (by omega) (by omega))) (fun h30 => ?_)
          refine xw_aload_n 34 dX0_swapColours_33 rfl rfl rfl ?_
          refine xw_iload 36 dX0_swapColours_34 rfl rfl ?_
          refine xw_iload 38 dX0_swapColours_36 rfl rfl ?_
          have hx := S_C_cellAt (G := G) (x := x) hc' hq' rfl rfl (show r * 12 + c < 120 by omega)
          rw [xlayP_at _ _ (show c < 12 by omega)] at hx
          refine xw_pV 41 dX0_swapColours_38 rfl ok_C_cellAt s_X0_34 (hx) (rfl) (hc') rfl rfl rfl rfl rfl rfl rfl ?_
          refine xw_istore (ls' := [(6, _), (5, _), (4, _), (3, _), (0, _), (1, _), (2, _)]) 43 dX0_swapColours_41 rfl rfl rfl ?_
          refine xw_iload 45 dX0_swapColours_43 rfl rfl ?_
          refine xw_iload_n 46 dX0_swapColours_45 rfl rfl ?_
          refine xw_icmp_eq 55 49 dX0_swapColours_46 rfl rfl (fun h46 => absurd h46 (ha)) (fun h46 => ?_)
          refine xw_iload 51 dX0_swapColours_49 rfl rfl ?_
          refine xw_iload_n 52 dX0_swapColours_51 rfl rfl ?_
          refine xw_icmp_ne 77 55 dX0_swapColours_52 rfl rfl (fun h52 => absurd (hb) h52) (fun h52 => ?_)
          refine xw_aload_n 56 dX0_swapColours_55 rfl rfl rfl ?_
          refine xw_iload 58 dX0_swapColours_56 rfl rfl ?_
          refine xw_iload 60 dX0_swapColours_58 rfl rfl ?_
          refine xw_iload 62 dX0_swapColours_60 rfl rfl ?_
          refine xw_iload_n 63 dX0_swapColours_62 rfl rfl ?_
          refine xw_icmp_ne 70 66 dX0_swapColours_63 rfl rfl (fun h63 => ?_) (fun h63 => absurd h63 (ha))
          refine xw_iload_n 71 dX0_swapColours_70 rfl rfl ?_
          refine xw_pVv 74 dX0_swapColours_71 rfl ok_C_putCell s_X0_42 (S_C_putCell hc' hq' rfl rfl (show r * 12 + c < 120 by omega) (by rw [List.set_set, xlayP_sv (fun r c => xsw a b (f (r * 12 + c))) f (show c < C by omega) h4 hsw])) (by rw [List.length_set, List.length_set]) (hc') rfl rfl rfl rfl rfl rfl rfl ?_
          refine xw_iinc (ls' := [(3, _), (6, _), (5, _), (4, _), (0, _), (1, _), (2, _)]) 77 _ dX0_swapColours_74 rfl rfl (xnI_inc _) rfl rfl ?_
          refine xw_iinc (ls' := [(5, _), (3, _), (6, _), (4, _), (0, _), (1, _), (2, _)]) 80 _ dX0_swapColours_77 rfl rfl (xnI_inc _) rfl rfl ?_
          refine xw_goto 24 dX0_swapColours_80 rfl ?_
          exact xW.pick [0, 3, 1, 4, 5, 6] rfl (ih)
        · have e : xct ((fun r c => decide (f (r * 12 + c) = a ∨ f (r * 12 + c) = b)) r) (c + 1) = xct ((fun r c => decide (f (r * 12 + c) = a ∨ f (r * 12 + c) = b)) r) c := xct_n (by simp [ha, hb])
          have hsw : xsw a b (f (r * 12 + c)) = f (r * 12 + c) := by simp [xsw, ha, hb]
          rw [e, xlayP_same (fun r c => xsw a b (f (r * 12 + c))) f (show c < C by omega) h4 hsw] at ih
          refine xw_iload 26 dX0_swapColours_24 rfl rfl ?_
          refine xw_aload_n 27 dX0_swapColours_26 rfl rfl rfl ?_
          refine xw_get 30 dX0_swapColours_27 rfl f_X0_19 (hc') rfl ?_
          refine xw_icmp_ge 83 33 dX0_swapColours_30 rfl rfl (fun h30 => absurd h30 (nI_ge (by omega) (by omega))) (fun h30 => ?_)
          refine xw_aload_n 34 dX0_swapColours_33 rfl rfl rfl ?_
          refine xw_iload 36 dX0_swapColours_34 rfl rfl ?_
          refine xw_iload 38 dX0_swapColours_36 rfl rfl ?_
          have hx := S_C_cellAt (G := G) (x := x) hc' hq' rfl rfl (show r * 12 + c < 120 by omega)
          rw [xlayP_at _ _ (show c < 12 by omega)] at hx
          refine xw_pV 41 dX0_swapColours_38 rfl ok_C_cellAt s_X0_34 (hx) (rfl) (hc') rfl rfl rfl rfl rfl rfl rfl ?_
          refine xw_istore (ls' := [(6, _), (5, _), (4, _), (3, _), (0, _), (1, _), (2, _)]) 43 dX0_swapColours_41 rfl rfl rfl ?_
          refine xw_iload 45 dX0_swapColours_43 rfl rfl ?_
          refine xw_iload_n 46 dX0_swapColours_45 rfl rfl ?_
          refine xw_icmp_eq 55 49 dX0_swapColours_46 rfl rfl (fun h46 => absurd h46 (ha)) (fun h46 => ?_)
          refine xw_iload 51 dX0_swapColours_49 rfl rfl ?_
          refine xw_iload_n 52 dX0_swapColours_51 rfl rfl ?_
          refine xw_icmp_ne 77 55 dX0_swapColours_52 rfl rfl (fun h52 => ?_) (fun h52 => absurd h52 (hb))
          refine xw_iinc (ls' := [(5, _), (6, _), (4, _), (3, _), (0, _), (1, _), (2, _)]) 80 _ dX0_swapColours_77 rfl rfl (xnI_inc _) rfl rfl ?_
          refine xw_goto 24 dX0_swapColours_80 rfl ?_
          exact xW.pick [0, 2, 3, 4, 5, 6] rfl (ih)
  have outer : ∀ (t r : Nat), r + t = R → xW G C_swapColours (xRetV (.int (nI (xct2 (fun r c => decide (f (r * 12 + c) = a ∨ f (r * 12 + c) = b)) C R))) (hp.set q (.inl (0, 120, .inl (xlay (fun r c => xsw a b (f (r * 12 + c))) f R C))))) 12 [(4, .int (nI r)), (3, .int (nI (xct2 (fun r c => decide (f (r * 12 + c) = a ∨ f (r * 12 + c) = b)) C r))), (0, .ref k), (1, .int a), (2, .int b)] [] (hp.set q (.inl (0, 120, .inl (xlayP (fun r c => xsw a b (f (r * 12 + c))) f r 0 C)))) x 0 0 := by
    intro t
    induction t with
    | zero =>
      intro r hrt
      have e : r = R := by omega
      subst e
      have hkq : k ≠ q := xne_cell hc hq (by simp)
      have hc' : (hp.set q (.inl (0, 120, .inl (xlayP (fun r c => xsw a b (f (r * 12 + c))) f r 0 C))))[k]? = some (.inr (0, [.ref q, .int (nI r), .int (nI C)])) := by rw [xset_ne hkq]; exact hc
      refine xw_iload 14 dX0_swapColours_12 rfl rfl ?_
      refine xw_aload_n 15 dX0_swapColours_14 rfl rfl rfl ?_
      refine xw_get 18 dX0_swapColours_15 rfl f_X0_15 (hc') rfl ?_
      refine xw_icmp_ge 89 21 dX0_swapColours_18 rfl rfl (fun h18 => ?_) (fun h18 => absurd (nI_le (Nat.le_refl _) (by omega)) h18)
      refine xw_iload_n 90 dX0_swapColours_89 rfl rfl ?_
      exact xw_ireturn dX0_swapColours_90 rfl (⟨rfl, by rw [xlayP_e]⟩)
    | succ t ih =>
      intro r hrt
      have hkq : k ≠ q := xne_cell hc hq (by simp)
      have hc' : (hp.set q (.inl (0, 120, .inl (xlayP (fun r c => xsw a b (f (r * 12 + c))) f r 0 C))))[k]? = some (.inr (0, [.ref q, .int (nI R), .int (nI C)])) := by rw [xset_ne hkq]; exact hc
      refine xw_iload 14 dX0_swapColours_12 rfl rfl ?_
      refine xw_aload_n 15 dX0_swapColours_14 rfl rfl rfl ?_
      refine xw_get 18 dX0_swapColours_15 rfl f_X0_15 (hc') rfl ?_
      refine xw_icmp_ge 89 21 dX0_swapColours_18 rfl rfl (fun h18 => absurd h18 (nI_ge (by omega) (by omega))) (fun h18 => ?_)
      refine xw_iconst 22 (nI 0) dX0_swapColours_21 rfl (xofI 0) ?_
      refine xw_istore (ls' := [(5, _), (4, _), (3, _), (0, _), (1, _), (2, _)]) 24 dX0_swapColours_22 rfl rfl rfl ?_
      exact inner r (by omega) (ih (r + 1) (by omega)) C 0 (by omega)
  have h0 : hp = (hp.set q (.inl (0, 120, .inl (xlayP (fun r c => xsw a b (f (r * 12 + c))) f 0 0 C)))) := by rw [xlayP_0, xSelf hq]
  refine xw_iload_n 1 dX0_swapColours_0 rfl rfl ?_
  refine xw_iload_n 2 dX0_swapColours_1 rfl rfl ?_
  refine xw_icmp_ne 7 5 dX0_swapColours_2 rfl rfl (fun h2 => ?_) (fun h2 => absurd h2 (hab))
  refine xw_iconst 8 (nI 0) dX0_swapColours_7 rfl (xofI 0) ?_
  refine xw_istore_n (ls' := [(3, _), (0, _), (1, _), (2, _)]) 9 dX0_swapColours_8 rfl rfl rfl ?_
  refine xw_iconst 10 (nI 0) dX0_swapColours_9 rfl (xofI 0) ?_
  refine xw_istore (ls' := [(4, _), (3, _), (0, _), (1, _), (2, _)]) 12 dX0_swapColours_10 rfl rfl rfl ?_
  refine xW.cast rfl rfl h0 ?_
  exact outer R 0 (by omega)
theorem S_C_putCellG {a b v R0 C0 : Int32} {r c : Nat} {h9 : List xE} (hc : hp[k]? = some (.inr (0, [.ref q, .int R0, .int C0]))) (hq : hp[q]? = some (.inl (0, 120, .inl f))) (ha : a = nI r) (hb : b = nI c) (hi : r * 12 + c < 120) (h9e : hp.set q (.inl (0, 120, .inl (upd f (r * 12 + c) v))) = h9) : xMet G C_putCell [.ref k, .int a, .int b, .int v] hp x 0 0 (xRet none h9) := by
  subst ha; subst hb
  refine xw_aload_n 1 dX0_putCell_0 rfl rfl rfl ?_
  refine xw_get 4 dX0_putCell_1 rfl f_X0_9 (hc) rfl ?_
  refine xw_iload_n 5 dX0_putCell_4 rfl rfl ?_
  refine xw_bipush 7 (nI 12) dX0_putCell_5 rfl (by decide) ?_
  refine xw_imul 8 dX0_putCell_7 rfl ?_
  refine xw_iload_n 9 dX0_putCell_8 rfl rfl ?_
  refine xw_iadd 10 dX0_putCell_9 rfl ?_
  refine xw_iload_n 11 dX0_putCell_10 rfl rfl ?_
  refine xw_pSNv 14 dX0_putCell_11 rfl ok_B_put s_X0_30 (S_B_put hq (by decide) (by rw [pk_mul, nI_add]) hi h9e) (by rw [← h9e, List.length_set]) rfl rfl rfl rfl rfl rfl ?_
  exact xw_return dX0_putCell_14 rfl (⟨rfl, rfl⟩)
theorem S_C_turnInto {how k2 q2 R' C' : Nat} {R0 C0 : Int32} {g : Nat → Int32} (hc : hp[k]? = some (.inr (0, [.ref q, .int (nI R), .int (nI C)]))) (hq : hp[q]? = some (.inl (0, 120, .inl f))) (h1 : 1 ≤ R) (h2 : R ≤ 10) (h3 : 1 ≤ C) (h4 : C ≤ 12) (hc2 : hp[k2]? = some (.inr (0, [.ref q2, .int R0, .int C0]))) (hq2 : hp[q2]? = some (.inl (0, 120, .inl g))) (hkk2 : k ≠ k2) (hqq2 : q ≠ q2) (hh : how < 5) (hR' : (if how = 4 then C else R) = R') (hC' : (if how = 4 then R else C) = C') (h5 : how = 4 → C ≤ 10) : xMet G C_turnInto [.ref k, .ref k2, .int (nI how)] hp x 0 0 (xRet none ((hp.set q2 (.inl (0, 120, .inl (xlay (xtc f R C how) g R' C')))).set k2 (.inr (0, [.ref q2, .int (nI R'), .int (nI C')])))) := by
  have hkq2 : k ≠ q2 := xne_cell hc hq2 (by simp)
  have hk2q2 : k2 ≠ q2 := xne_cell hc2 hq2 (by simp)
  have hR10 : R' ≤ 10 := by rw [← hR']; split <;> omega
  have hC12 : C' ≤ 12 := by rw [← hC']; split <;> omega
  have inner : ∀ (sw : Int32) (r : Nat), r < R' → xW G C_turnInto (xRet none ((hp.set q2 (.inl (0, 120, .inl (xlay (xtc f R C how) g R' C')))).set k2 (.inr (0, [.ref q2, .int (nI R'), .int (nI C')])))) 53 [(6, .int (nI (r + 1))), (5, .int (nI C')), (4, .int (nI R')), (3, .int sw), (0, .ref k), (1, .ref k2), (2, .int (nI how))] [] (hp.set q2 (.inl (0, 120, .inl (xlayP (xtc f R C how) g (r + 1) 0 C')))) x 0 0 →
      ∀ (t c : Nat), c + t = C' → xW G C_turnInto (xRet none ((hp.set q2 (.inl (0, 120, .inl (xlay (xtc f R C how) g R' C')))).set k2 (.inr (0, [.ref q2, .int (nI R'), .int (nI C')])))) 63 [(7, .int (nI c)), (6, .int (nI r)), (5, .int (nI C')), (4, .int (nI R')), (3, .int sw), (0, .ref k), (1, .ref k2), (2, .int (nI how))] [] (hp.set q2 (.inl (0, 120, .inl (xlayP (xtc f R C how) g r c C')))) x 0 0 := by
    intro sw r hr kk t
    induction t with
    | zero =>
      intro c hct
      have e : c = C' := by omega
      refine xw_iload 65 dX0_turnInto_63 rfl rfl ?_
      refine xw_iload 67 dX0_turnInto_65 rfl rfl ?_
      refine xw_icmp_ge 93 70 dX0_turnInto_67 rfl rfl (fun h67 => ?_) (fun h67 => absurd (nI_le (by omega) (by omega)) h67)
      refine xw_iinc (ls' := [(6, _), (7, _), (5, _), (4, _), (3, _), (0, _), (1, _), (2, _)]) 96 _ dX0_turnInto_93 rfl rfl (xnI_inc _) rfl rfl ?_
      refine xw_goto 53 dX0_turnInto_96 rfl ?_
      rw [e, xlayP_r]
      exact xW.pick [0, 2, 3, 4, 5, 6, 7] rfl (kk)
    | succ t ih =>
      intro c hct
      have hc' : (hp.set q2 (.inl (0, 120, .inl (xlayP (xtc f R C how) g r c C'))))[k]? = some (.inr (0, [.ref q, .int (nI R), .int (nI C)])) := by rw [xset_ne hkq2]; exact hc
      have hq' : (hp.set q2 (.inl (0, 120, .inl (xlayP (xtc f R C how) g r c C'))))[q]? = some (.inl (0, 120, .inl f)) := by rw [xset_ne hqq2]; exact hq
      have hc2' : (hp.set q2 (.inl (0, 120, .inl (xlayP (xtc f R C how) g r c C'))))[k2]? = some (.inr (0, [.ref q2, .int R0, .int C0])) := by rw [xset_ne hk2q2]; exact hc2
      have hq2' : (hp.set q2 (.inl (0, 120, .inl (xlayP (xtc f R C how) g r c C'))))[q2]? = some (.inl (0, 120, .inl (xlayP (xtc f R C how) g r c C'))) := xset_at hq2
      refine xw_iload 65 dX0_turnInto_63 rfl rfl ?_
      refine xw_iload 67 dX0_turnInto_65 rfl rfl ?_
      refine xw_icmp_ge 93 70 dX0_turnInto_67 rfl rfl (fun h67 => absurd h67 (nI_ge (by omega) (by omega))) (fun h67 => ?_)
      refine xw_aload_n 71 dX0_turnInto_70 rfl rfl rfl ?_
      refine xw_iload 73 dX0_turnInto_71 rfl rfl ?_
      refine xw_iload 75 dX0_turnInto_73 rfl rfl ?_
      refine xw_aload_n 76 dX0_turnInto_75 rfl rfl rfl ?_
      refine xw_iload 78 dX0_turnInto_76 rfl rfl ?_
      refine xw_iload 80 dX0_turnInto_78 rfl rfl ?_
      refine xw_iload_n 81 dX0_turnInto_80 rfl rfl ?_
      refine xw_pV 84 dX0_turnInto_81 rfl ok_C_turnedCell s_X0_46 (S_C_turnedCell hc' hq' h1 h2 h3 h4 hh (by rw [hR']; exact hr) (by rw [hC']; omega)) (rfl) (hc') rfl rfl rfl rfl rfl rfl rfl ?_
      refine xw_pVv 87 dX0_turnInto_84 rfl ok_C_putCell s_X0_42 (S_C_putCellG hc2' hq2' rfl rfl (show r * 12 + c < 120 by omega) (by rw [List.set_set, xlayP_s _ _ (show c < C' by omega) hC12])) (by rw [List.length_set, List.length_set]) (hc2') rfl rfl rfl rfl rfl rfl rfl ?_
      refine xw_iinc (ls' := [(7, _), (6, _), (5, _), (4, _), (3, _), (0, _), (1, _), (2, _)]) 90 _ dX0_turnInto_87 rfl rfl (xnI_inc _) rfl rfl ?_
      refine xw_goto 63 dX0_turnInto_90 rfl ?_
      exact ih (c + 1) (by omega)
  have outer : ∀ (sw : Int32) (t r : Nat), r + t = R' → xW G C_turnInto (xRet none ((hp.set q2 (.inl (0, 120, .inl (xlay (xtc f R C how) g R' C')))).set k2 (.inr (0, [.ref q2, .int (nI R'), .int (nI C')])))) 53 [(6, .int (nI r)), (5, .int (nI C')), (4, .int (nI R')), (3, .int sw), (0, .ref k), (1, .ref k2), (2, .int (nI how))] [] (hp.set q2 (.inl (0, 120, .inl (xlayP (xtc f R C how) g r 0 C')))) x 0 0 := by
    intro sw t
    induction t with
    | zero =>
      intro r hrt
      have e : r = R' := by omega
      subst e
      have hc' : (hp.set q2 (.inl (0, 120, .inl (xlayP (xtc f R C how) g r 0 C'))))[k]? = some (.inr (0, [.ref q, .int (nI R), .int (nI C)])) := by rw [xset_ne hkq2]; exact hc
      have hq' : (hp.set q2 (.inl (0, 120, .inl (xlayP (xtc f R C how) g r 0 C'))))[q]? = some (.inl (0, 120, .inl f)) := by rw [xset_ne hqq2]; exact hq
      have hc2' : (hp.set q2 (.inl (0, 120, .inl (xlayP (xtc f R C how) g r 0 C'))))[k2]? = some (.inr (0, [.ref q2, .int R0, .int C0])) := by rw [xset_ne hk2q2]; exact hc2
      have hq2' : (hp.set q2 (.inl (0, 120, .inl (xlayP (xtc f R C how) g r 0 C'))))[q2]? = some (.inl (0, 120, .inl (xlayP (xtc f R C how) g r 0 C'))) := xset_at hq2
      refine xw_iload 55 dX0_turnInto_53 rfl rfl ?_
      refine xw_iload 57 dX0_turnInto_55 rfl rfl ?_
      refine xw_icmp_ge 99 60 dX0_turnInto_57 rfl rfl (fun h57 => ?_) (fun h57 => absurd (nI_le (by omega) (by omega)) h57)
      refine xw_aload_n 100 dX0_turnInto_99 rfl rfl rfl ?_
      refine xw_iload 102 dX0_turnInto_100 rfl rfl ?_
      refine xw_put 105 dX0_turnInto_102 rfl f_X0_15 (hc2') ⟨rfl, rfl⟩ rfl rfl (rfl) ?_
      refine xw_aload_n 106 dX0_turnInto_105 rfl rfl rfl ?_
      refine xw_iload 108 dX0_turnInto_106 rfl rfl ?_
      refine xw_put 111 dX0_turnInto_108 rfl f_X0_19 (xset_at hc2') ⟨rfl, rfl⟩ rfl rfl (rfl) ?_
      exact xw_return dX0_turnInto_111 rfl (⟨rfl, by rw [List.set_set, xlayP_e]; rfl⟩)
    | succ t ih =>
      intro r hrt
      refine xw_iload 55 dX0_turnInto_53 rfl rfl ?_
      refine xw_iload 57 dX0_turnInto_55 rfl rfl ?_
      refine xw_icmp_ge 99 60 dX0_turnInto_57 rfl rfl (fun h57 => absurd h57 (nI_ge (by omega) (by omega))) (fun h57 => ?_)
      refine xw_iconst 61 (nI 0) dX0_turnInto_60 rfl (xofI 0) ?_
      refine xw_istore (ls' := [(7, _), (6, _), (5, _), (4, _), (3, _), (0, _), (1, _), (2, _)]) 63 dX0_turnInto_61 rfl rfl rfl ?_
      exact inner sw r (by omega) (ih (r + 1) (by omega)) C' 0 (by omega)
  have h0 : hp = (hp.set q2 (.inl (0, 120, .inl (xlayP (xtc f R C how) g 0 0 C')))) := by rw [xlayP_0, xSelf hq2]
  by_cases hw : how = 4
  · subst hw
    rw [if_pos rfl] at hR' hC'
    subst hR'; subst hC'
    refine xw_aload_n 1 dX0_turnInto_0 rfl rfl rfl ?_
    refine xw_ifnonnull 5 dX0_turnInto_1 rfl rfl rfl ?_
    refine xw_iload_n 6 dX0_turnInto_5 rfl rfl ?_
    refine xw_iconst 7 (nI 4) dX0_turnInto_6 rfl (xofI 4) ?_
    refine xw_icmp_ne 14 10 dX0_turnInto_7 rfl rfl (fun h7 => absurd (rfl) h7) (fun h7 => ?_)
    refine xw_iconst 11 (nI 1) dX0_turnInto_10 rfl (xofI 1) ?_
    refine xw_goto 15 dX0_turnInto_11 rfl ?_
    refine xw_istore_n (ls' := [(3, _), (0, _), (1, _), (2, _)]) 16 dX0_turnInto_15 rfl rfl rfl ?_
    refine xw_iload_n 17 dX0_turnInto_16 rfl rfl ?_
    refine xw_if_eq 27 20 dX0_turnInto_17 rfl rfl (fun h17 => absurd h17 (by decide)) (fun h17 => ?_)
    refine xw_aload_n 21 dX0_turnInto_20 rfl rfl rfl ?_
    refine xw_get 24 dX0_turnInto_21 rfl f_X0_19 (hc) rfl ?_
    refine xw_goto 31 dX0_turnInto_24 rfl ?_
    refine xw_istore (ls' := [(4, _), (3, _), (0, _), (1, _), (2, _)]) 33 dX0_turnInto_31 rfl rfl rfl ?_
    refine xw_iload_n 34 dX0_turnInto_33 rfl rfl ?_
    refine xw_if_eq 44 37 dX0_turnInto_34 rfl rfl (fun h34 => absurd h34 (by decide)) (fun h34 => ?_)
    refine xw_aload_n 38 dX0_turnInto_37 rfl rfl rfl ?_
    refine xw_get 41 dX0_turnInto_38 rfl f_X0_15 (hc) rfl ?_
    refine xw_goto 48 dX0_turnInto_41 rfl ?_
    refine xw_istore (ls' := [(5, _), (4, _), (3, _), (0, _), (1, _), (2, _)]) 50 dX0_turnInto_48 rfl rfl rfl ?_
    refine xw_iconst 51 (nI 0) dX0_turnInto_50 rfl (xofI 0) ?_
    refine xw_istore (ls' := [(6, _), (5, _), (4, _), (3, _), (0, _), (1, _), (2, _)]) 53 dX0_turnInto_51 rfl rfl rfl ?_
    refine xW.cast rfl rfl h0 ?_
    exact outer _ C 0 (by omega)
  · rw [if_neg hw] at hR' hC'
    subst hR'; subst hC'
    refine xw_aload_n 1 dX0_turnInto_0 rfl rfl rfl ?_
    refine xw_ifnonnull 5 dX0_turnInto_1 rfl rfl rfl ?_
    refine xw_iload_n 6 dX0_turnInto_5 rfl rfl ?_
    refine xw_iconst 7 (nI 4) dX0_turnInto_6 rfl (xofI 4) ?_
    refine xw_icmp_ne 14 10 dX0_turnInto_7 rfl rfl (fun h7 => ?_) (fun h7 => absurd h7 (fun h => hw ((nI_eq (by omega) (by decide)).mp h)))
    refine xw_iconst 15 (nI 0) dX0_turnInto_14 rfl (xofI 0) ?_
    refine xw_istore_n (ls' := [(3, _), (0, _), (1, _), (2, _)]) 16 dX0_turnInto_15 rfl rfl rfl ?_
    refine xw_iload_n 17 dX0_turnInto_16 rfl rfl ?_
    refine xw_if_eq 27 20 dX0_turnInto_17 rfl rfl (fun h17 => ?_) (fun h17 => absurd (by decide) h17)
    refine xw_aload_n 28 dX0_turnInto_27 rfl rfl rfl ?_
    refine xw_get 31 dX0_turnInto_28 rfl f_X0_15 (hc) rfl ?_
    refine xw_istore (ls' := [(4, _), (3, _), (0, _), (1, _), (2, _)]) 33 dX0_turnInto_31 rfl rfl rfl ?_
    refine xw_iload_n 34 dX0_turnInto_33 rfl rfl ?_
    refine xw_if_eq 44 37 dX0_turnInto_34 rfl rfl (fun h34 => ?_) (fun h34 => absurd (by decide) h34)
    refine xw_aload_n 45 dX0_turnInto_44 rfl rfl rfl ?_
    refine xw_get 48 dX0_turnInto_45 rfl f_X0_19 (hc) rfl ?_
    refine xw_istore (ls' := [(5, _), (4, _), (3, _), (0, _), (1, _), (2, _)]) 50 dX0_turnInto_48 rfl rfl rfl ?_
    refine xw_iconst 51 (nI 0) dX0_turnInto_50 rfl (xofI 0) ?_
    refine xw_istore (ls' := [(6, _), (5, _), (4, _), (3, _), (0, _), (1, _), (2, _)]) 53 dX0_turnInto_51 rfl rfl rfl ?_
    refine xW.cast rfl rfl h0 ?_
    exact outer _ R 0 (by omega)
theorem S_C_copyFrom {j p : Nat} {R1 C1 R0 C0 : Int32} {g : Nat → Int32} {h9 : List xE} (hc : hp[k]? = some (.inr (0, [.ref q, .int R0, .int C0]))) (hq : hp[q]? = some (.inl (0, 120, .inl g))) (hj : hp[j]? = some (.inr (0, [.ref p, .int R1, .int C1]))) (hp' : hp[p]? = some (.inl (0, 120, .inl f))) (hkj : j ≠ k) (hpq : p ≠ q) (h9e : (hp.set k (.inr (0, [.ref q, .int R1, .int C1]))).set q (.inl (0, 120, .inl (xmix f g 120))) = h9) : xMet G C_copyFrom [.ref k, .ref j] hp x 0 0 (xRet none h9) := by
  have hqk : q ≠ k := Ne.symm (xne_cell hc hq (by simp))
  have hpk : p ≠ k := Ne.symm (xne_cell hc hp' (by simp))
  refine xw_aload_n 1 dX0_copyFrom_0 rfl rfl rfl ?_
  refine xw_ifnonnull 5 dX0_copyFrom_1 rfl rfl rfl ?_
  refine xw_aload_n 6 dX0_copyFrom_5 rfl rfl rfl ?_
  refine xw_aload_n 7 dX0_copyFrom_6 rfl rfl rfl ?_
  refine xw_get 10 dX0_copyFrom_7 rfl f_X0_15 (hj) rfl ?_
  refine xw_put 13 dX0_copyFrom_10 rfl f_X0_15 (hc) ⟨rfl, rfl⟩ rfl rfl (rfl) ?_
  refine xw_aload_n 14 dX0_copyFrom_13 rfl rfl rfl ?_
  refine xw_aload_n 15 dX0_copyFrom_14 rfl rfl rfl ?_
  refine xw_get 18 dX0_copyFrom_15 rfl f_X0_19 (by rw [xset_ne hkj]; exact hj) rfl ?_
  refine xw_put 21 dX0_copyFrom_18 rfl f_X0_19 (xset_at hc) ⟨rfl, rfl⟩ rfl rfl (by rw [List.set_set]) ?_
  refine xw_aload_n 22 dX0_copyFrom_21 rfl rfl rfl ?_
  refine xw_get 25 dX0_copyFrom_22 rfl f_X0_9 (by rw [xset_ne hkj]; exact hj) rfl ?_
  refine xw_aload_n 26 dX0_copyFrom_25 rfl rfl rfl ?_
  refine xw_get 29 dX0_copyFrom_26 rfl f_X0_9 (xset_at hc) rfl ?_
  refine xw_pSNv 32 dX0_copyFrom_29 rfl ok_B_copy s_X0_22 (S_B_copy (by rw [xset_ne hpk]; exact hp') (by rw [xset_ne hqk]; exact hq) hpq (by decide) h9e) (by rw [← h9e]; simp) rfl rfl rfl rfl rfl rfl ?_
  exact xw_return dX0_copyFrom_32 rfl (⟨rfl, rfl⟩)
end P13

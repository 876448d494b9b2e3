/-! ===== the law: cases ===== -/
section P61
variable {G : xG} {x t i : Nat} {w z : Nat → Int32} {sv : Nat → Nat → Int32} {q n l : Nat} {co hi : Nat → Int32} {sx : xSx} {th : Int32} {c : mS} {f : Nat → Int64}
theorem S_case_stringRow (S : xSta G) (R : xRel (w, sv, q, n, l, co) (z, hi, n, l, co)) (h3 : i + 3 ≤ (xgr G 0).1) (h15 : (xgr G 0).1 ≤ 1536) (next : ∀ (s' : xCS) (sx' : xSx) (m' : xMS) (th' : Int32) (c' : mS) (f' : Nat → Int64), xRel s' m' → xW G L_law lQ 1649 [(4, .int (nI i)), (0, .retAddr 0), (1, .ref 0), (2, .ref 71), (3, .ref 82)] [] (lHp s' sx' m' th' c' f') (x + 1) t (6 * t)) : xW G L_law lQ 600 [(4, .int (nI i)), (0, .retAddr 0), (1, .ref 0), (2, .ref 71), (3, .ref 82)] [] (lHp (w, sv, q, n, l, co) sx (z, hi, n, l, co) th c f) x (t + 1) (6 * (t + 1)) := by
  obtain ⟨I, Ag, hq, hn, -, -, -, X, -⟩ := id R
  dsimp only at I Ag hq hn X
  have J := Ag.inv I
  have hS := Q_row R
  have hr : (oRow (w, sv, q, n, l, co)).1 = (oRowM (z, hi, n, l, co)).1 := hS.1
  have hK : (oRow (w, sv, q, n, l, co)).1.1 ≤ 2 := K_row
  refine xW.cast (hp' := cHp (w, sv, q, n, l, co) sx (lTO (mCq (z, hi, n, l, co) th c []) f)) rfl rfl rfl ?_
  refine xw_aload_n 601 dL_law_600 rfl rfl rfl ?_
  refine xw_aload_n 602 dL_law_601 rfl rfl rfl ?_
  refine xw_lS 605 dL_law_602 rfl ok_L_stringRow s_L_117 (S_L_stringRow (r := (oRow (w, sv, q, n, l, co)).1) (s' := (oRow (w, sv, q, n, l, co)).2) (M := mCq (z, hi, n, l, co) th c []) (f := f) rfl hK (S_B_stringRow J X hq hn)) rfl rfl rfl rfl rfl rfl rfl rfl (fun w9 sx9 g9 => ?_)
  by_cases e0 : (oRow (w, sv, q, n, l, co)).1.1 = 0
  · rw [if_pos e0]
    refine xw_istore (ls' := [(5, _), (4, _), (0, _), (1, _), (2, _), (3, _)]) 607 dL_law_605 rfl rfl rfl ?_
    refine xW.cast (hp' := (mH (cHp (w9, (oRow (w, sv, q, n, l, co)).2.2) sx9 []) z (nI n) hi (nI l) co th c.1 c.2.1 c.2.2.1 c.2.2.2.1 c.2.2.2.2.1 c.2.2.2.2.2.1 c.2.2.2.2.2.2.1 c.2.2.2.2.2.2.2.1 c.2.2.2.2.2.2.2.2.1 c.2.2.2.2.2.2.2.2.2.1 c.2.2.2.2.2.2.2.2.2.2.1 c.2.2.2.2.2.2.2.2.2.2.2.1 c.2.2.2.2.2.2.2.2.2.2.2.2.1 c.2.2.2.2.2.2.2.2.2.2.2.2.2 [.inl (2, 1, .inr (.inl (vp_updL f 0 (oRow (w, sv, q, n, l, co)).1.2.toInt64)))])) rfl rfl rfl ?_
    refine xw_aload_n 608 dL_law_607 rfl rfl rfl ?_
    refine xw_qV 611 dL_law_608 rfl ok_M_stringRow s_L_119 ((S_M_stringRow rfl I X hn)) (fun E hp9 q9 => by cases q9.1) (fun o9 hp9 q9 => by obtain ⟨_, _, q9⟩ := q9; rw [q9]; exact mH_len) (xA rfl rfl) rfl rfl rfl rfl rfl rfl rfl (fun ov9 hp9 q9 => ?_)
    obtain ⟨q1, c9, rfl⟩ := q9
    cases q1
    refine xw_istore (ls' := [(6, _), (5, _), (4, _), (0, _), (1, _), (2, _), (3, _)]) 613 dL_law_611 rfl rfl rfl ?_
    refine xw_aload_n 614 dL_law_613 rfl rfl rfl ?_
    refine xw_pV 617 dL_law_614 rfl ok_M_thrown s_L_94 (S_M_thrown rfl) (mH_len) (xA rfl rfl) rfl rfl rfl rfl rfl rfl rfl ?_
    refine xw_iload 619 dL_law_617 rfl rfl ?_
    refine xw_icmp_eq 624 622 dL_law_619 rfl rfl (fun h619 => ?_) (fun h619 => absurd (by rw [hr]) h619)
    refine xw_iload 626 dL_law_624 rfl rfl ?_
    refine xw_if_ne 641 629 dL_law_626 rfl rfl (fun h626 => absurd (by rw [e0]; rfl) h626) (fun h626 => ?_)
    refine xw_aload_n 630 dL_law_629 rfl rfl rfl ?_
    refine xw_iconst 631 (nI 0) dL_law_630 rfl (xofI 0) ?_
    refine xw_laload (j := 0) 632 dL_law_631 rfl (xA (j := 11) rfl rfl) (rfl) (by decide) (by omega) ?_
    refine xw_iload 634 dL_law_632 rfl rfl ?_
    refine xw_i2l 635 dL_law_634 rfl ?_
    refine xw_lcmp 636 dL_law_635 rfl ?_
    have hc9 : lg_cmp (vp_updL f 0 (oRow (w, sv, q, n, l, co)).1.2.toInt64 0) (oRowM (z, hi, n, l, co)).1.2.toInt64 = 0 := by rw [show vp_updL f 0 (oRow (w, sv, q, n, l, co)).1.2.toInt64 0 = (oRow (w, sv, q, n, l, co)).1.2.toInt64 from if_pos rfl, hr, lg_cmp_self]
    refine xw_if_eq 641 639 dL_law_636 rfl rfl (fun h636 => ?_) (fun h636 => absurd (hc9) h636)
    refine xw_goto 1649 dL_law_641 rfl ?_
    refine xW.pick [2, 3, 4, 5, 6] rfl ?_
    refine xW.cast (hp' := lHp (w9, (oRow (w, sv, q, n, l, co)).2.2) sx9 (oRowM (z, hi, n, l, co)).2 (nI (oRowM (z, hi, n, l, co)).1.1) c9 (vp_updL f 0 (oRow (w, sv, q, n, l, co)).1.2.toInt64)) rfl rfl rfl ?_
    exact next _ _ _ _ _ _ (xRel_w hS.2 g9)
  · rw [if_neg e0]
    refine xw_istore (ls' := [(5, _), (4, _), (0, _), (1, _), (2, _), (3, _)]) 607 dL_law_605 rfl rfl rfl ?_
    refine xW.cast (hp' := (mH (cHp (w9, (oRow (w, sv, q, n, l, co)).2.2) sx9 []) z (nI n) hi (nI l) co th c.1 c.2.1 c.2.2.1 c.2.2.2.1 c.2.2.2.2.1 c.2.2.2.2.2.1 c.2.2.2.2.2.2.1 c.2.2.2.2.2.2.2.1 c.2.2.2.2.2.2.2.2.1 c.2.2.2.2.2.2.2.2.2.1 c.2.2.2.2.2.2.2.2.2.2.1 c.2.2.2.2.2.2.2.2.2.2.2.1 c.2.2.2.2.2.2.2.2.2.2.2.2.1 c.2.2.2.2.2.2.2.2.2.2.2.2.2 [.inl (2, 1, .inr (.inl f))])) rfl rfl rfl ?_
    refine xw_aload_n 608 dL_law_607 rfl rfl rfl ?_
    refine xw_qV 611 dL_law_608 rfl ok_M_stringRow s_L_119 ((S_M_stringRow rfl I X hn)) (fun E hp9 q9 => by cases q9.1) (fun o9 hp9 q9 => by obtain ⟨_, _, q9⟩ := q9; rw [q9]; exact mH_len) (xA rfl rfl) rfl rfl rfl rfl rfl rfl rfl (fun ov9 hp9 q9 => ?_)
    obtain ⟨q1, c9, rfl⟩ := q9
    cases q1
    refine xw_istore (ls' := [(6, _), (5, _), (4, _), (0, _), (1, _), (2, _), (3, _)]) 613 dL_law_611 rfl rfl rfl ?_
    refine xw_aload_n 614 dL_law_613 rfl rfl rfl ?_
    refine xw_pV 617 dL_law_614 rfl ok_M_thrown s_L_94 (S_M_thrown rfl) (mH_len) (xA rfl rfl) rfl rfl rfl rfl rfl rfl rfl ?_
    refine xw_iload 619 dL_law_617 rfl rfl ?_
    refine xw_icmp_eq 624 622 dL_law_619 rfl rfl (fun h619 => ?_) (fun h619 => absurd (by rw [hr]) h619)
    refine xw_iload 626 dL_law_624 rfl rfl ?_
    refine xw_if_ne 641 629 dL_law_626 rfl rfl (fun h626 => ?_) (fun h626 => absurd h626 (nI_ne0 (by omega) (by omega)))
    refine xw_goto 1649 dL_law_641 rfl ?_
    refine xW.pick [2, 3, 4, 5, 6] rfl ?_
    refine xW.cast (hp' := lHp (w9, (oRow (w, sv, q, n, l, co)).2.2) sx9 (oRowM (z, hi, n, l, co)).2 (nI (oRowM (z, hi, n, l, co)).1.1) c9 f) rfl rfl rfl ?_
    exact next _ _ _ _ _ _ (xRel_w hS.2 g9)
theorem S_case_join (S : xSta G) (R : xRel (w, sv, q, n, l, co) (z, hi, n, l, co)) (h3 : i + 3 ≤ (xgr G 0).1) (h15 : (xgr G 0).1 ≤ 1536) (next : ∀ (s' : xCS) (sx' : xSx) (m' : xMS) (th' : Int32) (c' : mS) (f' : Nat → Int64), xRel s' m' → xW G L_law lQ 1649 [(4, .int (nI i)), (0, .retAddr 0), (1, .ref 0), (2, .ref 71), (3, .ref 82)] [] (lHp s' sx' m' th' c' f') (x + 1) t (6 * t)) : xW G L_law lQ 644 [(4, .int (nI i)), (0, .retAddr 0), (1, .ref 0), (2, .ref 71), (3, .ref 82)] [] (lHp (w, sv, q, n, l, co) sx (z, hi, n, l, co) th c f) x (t + 1) (6 * (t + 1)) := by
  obtain ⟨I, Ag, hq, hn, -, -, -, X, -⟩ := id R
  dsimp only at I Ag hq hn X
  have J := Ag.inv I
  have hS := Q_joi R
  have hr : (oJoi (w, sv, q, n, l, co)).1 = (oJoiM (z, hi, n, l, co)).1 := hS.1
  have hK : (oJoi (w, sv, q, n, l, co)).1.1 ≤ 1 := K_joi
  refine xW.cast (hp' := cHp (w, sv, q, n, l, co) sx (lTO (mCq (z, hi, n, l, co) th c []) f)) rfl rfl rfl ?_
  refine xw_aload_n 645 dL_law_644 rfl rfl rfl ?_
  refine xw_aload_n 646 dL_law_645 rfl rfl rfl ?_
  refine xw_lS 649 dL_law_646 rfl ok_L_join s_L_120 (S_L_join (r := (oJoi (w, sv, q, n, l, co)).1) (s' := (oJoi (w, sv, q, n, l, co)).2) (M := mCq (z, hi, n, l, co) th c []) (f := f) rfl hK (S_B_join J hq hn)) rfl rfl rfl rfl rfl rfl rfl rfl (fun w9 sx9 g9 => ?_)
  by_cases e0 : (oJoi (w, sv, q, n, l, co)).1.1 = 0
  · rw [if_pos e0]
    refine xw_istore (ls' := [(5, _), (4, _), (0, _), (1, _), (2, _), (3, _)]) 651 dL_law_649 rfl rfl rfl ?_
    refine xW.cast (hp' := (mH (cHp (w9, (oJoi (w, sv, q, n, l, co)).2.2) sx9 []) z (nI n) hi (nI l) co th c.1 c.2.1 c.2.2.1 c.2.2.2.1 c.2.2.2.2.1 c.2.2.2.2.2.1 c.2.2.2.2.2.2.1 c.2.2.2.2.2.2.2.1 c.2.2.2.2.2.2.2.2.1 c.2.2.2.2.2.2.2.2.2.1 c.2.2.2.2.2.2.2.2.2.2.1 c.2.2.2.2.2.2.2.2.2.2.2.1 c.2.2.2.2.2.2.2.2.2.2.2.2.1 c.2.2.2.2.2.2.2.2.2.2.2.2.2 [.inl (2, 1, .inr (.inl (vp_updL f 0 (oJoi (w, sv, q, n, l, co)).1.2.toInt64)))])) rfl rfl rfl ?_
    refine xw_aload_n 652 dL_law_651 rfl rfl rfl ?_
    refine xw_qV 655 dL_law_652 rfl ok_M_join s_L_122 ((S_M_join rfl I hn)) (fun E hp9 q9 => by cases q9.1) (fun o9 hp9 q9 => by obtain ⟨_, _, q9⟩ := q9; rw [q9]; exact mH_len) (xA rfl rfl) rfl rfl rfl rfl rfl rfl rfl (fun ov9 hp9 q9 => ?_)
    obtain ⟨q1, c9, rfl⟩ := q9
    cases q1
    refine xw_istore (ls' := [(6, _), (5, _), (4, _), (0, _), (1, _), (2, _), (3, _)]) 657 dL_law_655 rfl rfl rfl ?_
    refine xw_aload_n 658 dL_law_657 rfl rfl rfl ?_
    refine xw_pV 661 dL_law_658 rfl ok_M_thrown s_L_94 (S_M_thrown rfl) (mH_len) (xA rfl rfl) rfl rfl rfl rfl rfl rfl rfl ?_
    refine xw_iload 663 dL_law_661 rfl rfl ?_
    refine xw_icmp_eq 668 666 dL_law_663 rfl rfl (fun h663 => ?_) (fun h663 => absurd (by rw [hr]) h663)
    refine xw_iload 670 dL_law_668 rfl rfl ?_
    refine xw_if_ne 685 673 dL_law_670 rfl rfl (fun h670 => absurd (by rw [e0]; rfl) h670) (fun h670 => ?_)
    refine xw_aload_n 674 dL_law_673 rfl rfl rfl ?_
    refine xw_iconst 675 (nI 0) dL_law_674 rfl (xofI 0) ?_
    refine xw_laload (j := 0) 676 dL_law_675 rfl (xA (j := 11) rfl rfl) (rfl) (by decide) (by omega) ?_
    refine xw_iload 678 dL_law_676 rfl rfl ?_
    refine xw_i2l 679 dL_law_678 rfl ?_
    refine xw_lcmp 680 dL_law_679 rfl ?_
    have hc9 : lg_cmp (vp_updL f 0 (oJoi (w, sv, q, n, l, co)).1.2.toInt64 0) (oJoiM (z, hi, n, l, co)).1.2.toInt64 = 0 := by rw [show vp_updL f 0 (oJoi (w, sv, q, n, l, co)).1.2.toInt64 0 = (oJoi (w, sv, q, n, l, co)).1.2.toInt64 from if_pos rfl, hr, lg_cmp_self]
    refine xw_if_eq 685 683 dL_law_680 rfl rfl (fun h680 => ?_) (fun h680 => absurd (hc9) h680)
    refine xw_goto 1649 dL_law_685 rfl ?_
    refine xW.pick [2, 3, 4, 5, 6] rfl ?_
    refine xW.cast (hp' := lHp (w9, (oJoi (w, sv, q, n, l, co)).2.2) sx9 (oJoiM (z, hi, n, l, co)).2 (nI (oJoiM (z, hi, n, l, co)).1.1) c9 (vp_updL f 0 (oJoi (w, sv, q, n, l, co)).1.2.toInt64)) rfl rfl rfl ?_
    exact next _ _ _ _ _ _ (xRel_w hS.2 g9)
  · rw [if_neg e0]
    refine xw_istore (ls' := [(5, _), (4, _), (0, _), (1, _), (2, _), (3, _)]) 651 dL_law_649 rfl rfl rfl ?_
    refine xW.cast (hp' := (mH (cHp (w9, (oJoi (w, sv, q, n, l, co)).2.2) sx9 []) z (nI n) hi (nI l) co th c.1 c.2.1 c.2.2.1 c.2.2.2.1 c.2.2.2.2.1 c.2.2.2.2.2.1 c.2.2.2.2.2.2.1 c.2.2.2.2.2.2.2.1 c.2.2.2.2.2.2.2.2.1 c.2.2.2.2.2.2.2.2.2.1 c.2.2.2.2.2.2.2.2.2.2.1 c.2.2.2.2.2.2.2.2.2.2.2.1 c.2.2.2.2.2.2.2.2.2.2.2.2.1 c.2.2.2.2.2.2.2.2.2.2.2.2.2 [.inl (2, 1, .inr (.inl f))])) rfl rfl rfl ?_
    refine xw_aload_n 652 dL_law_651 rfl rfl rfl ?_
    refine xw_qV 655 dL_law_652 rfl ok_M_join s_L_122 ((S_M_join rfl I hn)) (fun E hp9 q9 => by cases q9.1) (fun o9 hp9 q9 => by obtain ⟨_, _, q9⟩ := q9; rw [q9]; exact mH_len) (xA rfl rfl) rfl rfl rfl rfl rfl rfl rfl (fun ov9 hp9 q9 => ?_)
    obtain ⟨q1, c9, rfl⟩ := q9
    cases q1
    refine xw_istore (ls' := [(6, _), (5, _), (4, _), (0, _), (1, _), (2, _), (3, _)]) 657 dL_law_655 rfl rfl rfl ?_
    refine xw_aload_n 658 dL_law_657 rfl rfl rfl ?_
    refine xw_pV 661 dL_law_658 rfl ok_M_thrown s_L_94 (S_M_thrown rfl) (mH_len) (xA rfl rfl) rfl rfl rfl rfl rfl rfl rfl ?_
    refine xw_iload 663 dL_law_661 rfl rfl ?_
    refine xw_icmp_eq 668 666 dL_law_663 rfl rfl (fun h663 => ?_) (fun h663 => absurd (by rw [hr]) h663)
    refine xw_iload 670 dL_law_668 rfl rfl ?_
    refine xw_if_ne 685 673 dL_law_670 rfl rfl (fun h670 => ?_) (fun h670 => absurd h670 (nI_ne0 (by omega) (by omega)))
    refine xw_goto 1649 dL_law_685 rfl ?_
    refine xW.pick [2, 3, 4, 5, 6] rfl ?_
    refine xW.cast (hp' := lHp (w9, (oJoi (w, sv, q, n, l, co)).2.2) sx9 (oJoiM (z, hi, n, l, co)).2 (nI (oJoiM (z, hi, n, l, co)).1.1) c9 f) rfl rfl rfl ?_
    exact next _ _ _ _ _ _ (xRel_w hS.2 g9)
theorem S_case_crush (S : xSta G) (R : xRel (w, sv, q, n, l, co) (z, hi, n, l, co)) (h3 : i + 3 ≤ (xgr G 0).1) (h15 : (xgr G 0).1 ≤ 1536) (next : ∀ (s' : xCS) (sx' : xSx) (m' : xMS) (th' : Int32) (c' : mS) (f' : Nat → Int64), xRel s' m' → xW G L_law lQ 1649 [(4, .int (nI i)), (0, .retAddr 0), (1, .ref 0), (2, .ref 71), (3, .ref 82)] [] (lHp s' sx' m' th' c' f') (x + 1) t (6 * t)) : xW G L_law lQ 688 [(4, .int (nI i)), (0, .retAddr 0), (1, .ref 0), (2, .ref 71), (3, .ref 82)] [] (lHp (w, sv, q, n, l, co) sx (z, hi, n, l, co) th c f) x (t + 1) (6 * (t + 1)) := by
  obtain ⟨I, Ag, hq, hn, -, -, -, X, -⟩ := id R
  dsimp only at I Ag hq hn X
  have J := Ag.inv I
  have hS := Q_cru (p := ((xgr G 0).2 (i + 1))) R
  have hr : (oCru (w, sv, q, n, l, co) ((xgr G 0).2 (i + 1))).1 = (oCruM (z, hi, n, l, co) ((xgr G 0).2 (i + 1))).1 := hS.1
  have hK : (oCru (w, sv, q, n, l, co) ((xgr G 0).2 (i + 1))).1.1 ≤ 1 := K_cru
  refine xW.cast (hp' := cHp (w, sv, q, n, l, co) sx (lTO (mCq (z, hi, n, l, co) th c []) f)) rfl rfl rfl ?_
  refine xw_aload_n 689 dL_law_688 rfl rfl rfl ?_
  refine xw_aload_n 690 dL_law_689 rfl rfl rfl ?_
  refine xw_iload 692 dL_law_690 rfl rfl ?_
  refine xw_iconst 693 (nI 1) dL_law_692 rfl (xofI 1) ?_
  refine xw_iadd 694 dL_law_693 rfl ?_
  refine xw_ialoadR (j := i + 1) 695 dL_law_694 rfl (by decide) (nI_add _ _) (by omega) (by omega) ?_
  refine xw_aload_n 696 dL_law_695 rfl rfl rfl ?_
  refine xw_lS 699 dL_law_696 rfl ok_L_crush s_L_123 (S_L_crush (r := (oCru (w, sv, q, n, l, co) ((xgr G 0).2 (i + 1))).1) (s' := (oCru (w, sv, q, n, l, co) ((xgr G 0).2 (i + 1))).2) (M := mCq (z, hi, n, l, co) th c []) (f := f) rfl hK (S_B_crush J hq hn)) rfl rfl rfl rfl rfl rfl rfl rfl (fun w9 sx9 g9 => ?_)
  by_cases e0 : (oCru (w, sv, q, n, l, co) ((xgr G 0).2 (i + 1))).1.1 = 0
  · rw [if_pos e0]
    refine xw_istore (ls' := [(5, _), (4, _), (0, _), (1, _), (2, _), (3, _)]) 701 dL_law_699 rfl rfl rfl ?_
    refine xW.cast (hp' := (mH (cHp (w9, (oCru (w, sv, q, n, l, co) ((xgr G 0).2 (i + 1))).2.2) sx9 []) z (nI n) hi (nI l) co th c.1 c.2.1 c.2.2.1 c.2.2.2.1 c.2.2.2.2.1 c.2.2.2.2.2.1 c.2.2.2.2.2.2.1 c.2.2.2.2.2.2.2.1 c.2.2.2.2.2.2.2.2.1 c.2.2.2.2.2.2.2.2.2.1 c.2.2.2.2.2.2.2.2.2.2.1 c.2.2.2.2.2.2.2.2.2.2.2.1 c.2.2.2.2.2.2.2.2.2.2.2.2.1 c.2.2.2.2.2.2.2.2.2.2.2.2.2 [.inl (2, 1, .inr (.inl (vp_updL f 0 (oCru (w, sv, q, n, l, co) ((xgr G 0).2 (i + 1))).1.2.toInt64)))])) rfl rfl rfl ?_
    refine xw_aload_n 702 dL_law_701 rfl rfl rfl ?_
    refine xw_aload_n 703 dL_law_702 rfl rfl rfl ?_
    refine xw_iload 705 dL_law_703 rfl rfl ?_
    refine xw_iconst 706 (nI 1) dL_law_705 rfl (xofI 1) ?_
    refine xw_iadd 707 dL_law_706 rfl ?_
    refine xw_ialoadR (j := i + 1) 708 dL_law_707 rfl (by decide) (nI_add _ _) (by omega) (by omega) ?_
    refine xw_qV 711 dL_law_708 rfl ok_M_crush s_L_125 ((S_M_crush rfl I hn)) (fun E hp9 q9 => by cases q9.1) (fun o9 hp9 q9 => by obtain ⟨_, _, q9⟩ := q9; rw [q9]; exact mH_len) (xA rfl rfl) rfl rfl rfl rfl rfl rfl rfl (fun ov9 hp9 q9 => ?_)
    obtain ⟨q1, c9, rfl⟩ := q9
    cases q1
    refine xw_istore (ls' := [(6, _), (5, _), (4, _), (0, _), (1, _), (2, _), (3, _)]) 713 dL_law_711 rfl rfl rfl ?_
    refine xw_aload_n 714 dL_law_713 rfl rfl rfl ?_
    refine xw_pV 717 dL_law_714 rfl ok_M_thrown s_L_94 (S_M_thrown rfl) (mH_len) (xA rfl rfl) rfl rfl rfl rfl rfl rfl rfl ?_
    refine xw_iload 719 dL_law_717 rfl rfl ?_
    refine xw_icmp_eq 724 722 dL_law_719 rfl rfl (fun h719 => ?_) (fun h719 => absurd (by rw [hr]) h719)
    refine xw_iload 726 dL_law_724 rfl rfl ?_
    refine xw_if_ne 741 729 dL_law_726 rfl rfl (fun h726 => absurd (by rw [e0]; rfl) h726) (fun h726 => ?_)
    refine xw_aload_n 730 dL_law_729 rfl rfl rfl ?_
    refine xw_iconst 731 (nI 0) dL_law_730 rfl (xofI 0) ?_
    refine xw_laload (j := 0) 732 dL_law_731 rfl (xA (j := 11) rfl rfl) (rfl) (by decide) (by omega) ?_
    refine xw_iload 734 dL_law_732 rfl rfl ?_
    refine xw_i2l 735 dL_law_734 rfl ?_
    refine xw_lcmp 736 dL_law_735 rfl ?_
    have hc9 : lg_cmp (vp_updL f 0 (oCru (w, sv, q, n, l, co) ((xgr G 0).2 (i + 1))).1.2.toInt64 0) (oCruM (z, hi, n, l, co) ((xgr G 0).2 (i + 1))).1.2.toInt64 = 0 := by rw [show vp_updL f 0 (oCru (w, sv, q, n, l, co) ((xgr G 0).2 (i + 1))).1.2.toInt64 0 = (oCru (w, sv, q, n, l, co) ((xgr G 0).2 (i + 1))).1.2.toInt64 from if_pos rfl, hr, lg_cmp_self]
    refine xw_if_eq 741 739 dL_law_736 rfl rfl (fun h736 => ?_) (fun h736 => absurd (hc9) h736)
    refine xw_goto 1649 dL_law_741 rfl ?_
    refine xW.pick [2, 3, 4, 5, 6] rfl ?_
    refine xW.cast (hp' := lHp (w9, (oCru (w, sv, q, n, l, co) ((xgr G 0).2 (i + 1))).2.2) sx9 (oCruM (z, hi, n, l, co) ((xgr G 0).2 (i + 1))).2 (nI (oCruM (z, hi, n, l, co) ((xgr G 0).2 (i + 1))).1.1) c9 (vp_updL f 0 (oCru (w, sv, q, n, l, co) ((xgr G 0).2 (i + 1))).1.2.toInt64)) rfl rfl rfl ?_
    exact next _ _ _ _ _ _ (xRel_w hS.2 g9)
  · rw [if_neg e0]
    refine xw_istore (ls' := [(5, _), (4, _), (0, _), (1, _), (2, _), (3, _)]) 701 dL_law_699 rfl rfl rfl ?_
    refine xW.cast (hp' := (mH (cHp (w9, (oCru (w, sv, q, n, l, co) ((xgr G 0).2 (i + 1))).2.2) sx9 []) z (nI n) hi (nI l) co th c.1 c.2.1 c.2.2.1 c.2.2.2.1 c.2.2.2.2.1 c.2.2.2.2.2.1 c.2.2.2.2.2.2.1 c.2.2.2.2.2.2.2.1 c.2.2.2.2.2.2.2.2.1 c.2.2.2.2.2.2.2.2.2.1 c.2.2.2.2.2.2.2.2.2.2.1 c.2.2.2.2.2.2.2.2.2.2.2.1 c.2.2.2.2.2.2.2.2.2.2.2.2.1 c.2.2.2.2.2.2.2.2.2.2.2.2.2 [.inl (2, 1, .inr (.inl f))])) rfl rfl rfl ?_
    refine xw_aload_n 702 dL_law_701 rfl rfl rfl ?_
    refine xw_aload_n 703 dL_law_702 rfl rfl rfl ?_
    refine xw_iload 705 dL_law_703 rfl rfl ?_
    refine xw_iconst 706 (nI 1) dL_law_705 rfl (xofI 1) ?_
    refine xw_iadd 707 dL_law_706 rfl ?_
    refine xw_ialoadR (j := i + 1) 708 dL_law_707 rfl (by decide) (nI_add _ _) (by omega) (by omega) ?_
    refine xw_qV 711 dL_law_708 rfl ok_M_crush s_L_125 ((S_M_crush rfl I hn)) (fun E hp9 q9 => by cases q9.1) (fun o9 hp9 q9 => by obtain ⟨_, _, q9⟩ := q9; rw [q9]; exact mH_len) (xA rfl rfl) rfl rfl rfl rfl rfl rfl rfl (fun ov9 hp9 q9 => ?_)
    obtain ⟨q1, c9, rfl⟩ := q9
    cases q1
    refine xw_istore (ls' := [(6, _), (5, _), (4, _), (0, _), (1, _), (2, _), (3, _)]) 713 dL_law_711 rfl rfl rfl ?_
    refine xw_aload_n 714 dL_law_713 rfl rfl rfl ?_
    refine xw_pV 717 dL_law_714 rfl ok_M_thrown s_L_94 (S_M_thrown rfl) (mH_len) (xA rfl rfl) rfl rfl rfl rfl rfl rfl rfl ?_
    refine xw_iload 719 dL_law_717 rfl rfl ?_
    refine xw_icmp_eq 724 722 dL_law_719 rfl rfl (fun h719 => ?_) (fun h719 => absurd (by rw [hr]) h719)
    refine xw_iload 726 dL_law_724 rfl rfl ?_
    refine xw_if_ne 741 729 dL_law_726 rfl rfl (fun h726 => ?_) (fun h726 => absurd h726 (nI_ne0 (by omega) (by omega)))
    refine xw_goto 1649 dL_law_741 rfl ?_
    refine xW.pick [2, 3, 4, 5, 6] rfl ?_
    refine xW.cast (hp' := lHp (w9, (oCru (w, sv, q, n, l, co) ((xgr G 0).2 (i + 1))).2.2) sx9 (oCruM (z, hi, n, l, co) ((xgr G 0).2 (i + 1))).2 (nI (oCruM (z, hi, n, l, co) ((xgr G 0).2 (i + 1))).1.1) c9 f) rfl rfl rfl ?_
    exact next _ _ _ _ _ _ (xRel_w hS.2 g9)
theorem S_case_unpick (S : xSta G) (R : xRel (w, sv, q, n, l, co) (z, hi, n, l, co)) (h3 : i + 3 ≤ (xgr G 0).1) (h15 : (xgr G 0).1 ≤ 1536) (next : ∀ (s' : xCS) (sx' : xSx) (m' : xMS) (th' : Int32) (c' : mS) (f' : Nat → Int64), xRel s' m' → xW G L_law lQ 1649 [(4, .int (nI i)), (0, .retAddr 0), (1, .ref 0), (2, .ref 71), (3, .ref 82)] [] (lHp s' sx' m' th' c' f') (x + 1) t (6 * t)) : xW G L_law lQ 744 [(4, .int (nI i)), (0, .retAddr 0), (1, .ref 0), (2, .ref 71), (3, .ref 82)] [] (lHp (w, sv, q, n, l, co) sx (z, hi, n, l, co) th c f) x (t + 1) (6 * (t + 1)) := by
  obtain ⟨I, Ag, hq, hn, -, -, -, X, -⟩ := id R
  dsimp only at I Ag hq hn X
  have J := Ag.inv I
  have hS := Q_unp (p := ((xgr G 0).2 (i + 1))) R
  have hr : (oUnp (w, sv, q, n, l, co) ((xgr G 0).2 (i + 1))).1 = (oUnpM (z, hi, n, l, co) ((xgr G 0).2 (i + 1))).1 := hS.1
  have hK : (oUnp (w, sv, q, n, l, co) ((xgr G 0).2 (i + 1))).1.1 ≤ 2 := K_unp
  refine xW.cast (hp' := cHp (w, sv, q, n, l, co) sx (lTO (mCq (z, hi, n, l, co) th c []) f)) rfl rfl rfl ?_
  refine xw_aload_n 745 dL_law_744 rfl rfl rfl ?_
  refine xw_aload_n 746 dL_law_745 rfl rfl rfl ?_
  refine xw_iload 748 dL_law_746 rfl rfl ?_
  refine xw_iconst 749 (nI 1) dL_law_748 rfl (xofI 1) ?_
  refine xw_iadd 750 dL_law_749 rfl ?_
  refine xw_ialoadR (j := i + 1) 751 dL_law_750 rfl (by decide) (nI_add _ _) (by omega) (by omega) ?_
  refine xw_aload_n 752 dL_law_751 rfl rfl rfl ?_
  refine xw_lS 755 dL_law_752 rfl ok_L_unpick s_L_126 (S_L_unpick (r := (oUnp (w, sv, q, n, l, co) ((xgr G 0).2 (i + 1))).1) (s' := (oUnp (w, sv, q, n, l, co) ((xgr G 0).2 (i + 1))).2) (M := mCq (z, hi, n, l, co) th c []) (f := f) rfl hK (S_B_unpick J hq hn)) rfl rfl rfl rfl rfl rfl rfl rfl (fun w9 sx9 g9 => ?_)
  by_cases e0 : (oUnp (w, sv, q, n, l, co) ((xgr G 0).2 (i + 1))).1.1 = 0
  · rw [if_pos e0]
    refine xw_istore (ls' := [(5, _), (4, _), (0, _), (1, _), (2, _), (3, _)]) 757 dL_law_755 rfl rfl rfl ?_
    refine xW.cast (hp' := (mH (cHp (w9, (oUnp (w, sv, q, n, l, co) ((xgr G 0).2 (i + 1))).2.2) sx9 []) z (nI n) hi (nI l) co th c.1 c.2.1 c.2.2.1 c.2.2.2.1 c.2.2.2.2.1 c.2.2.2.2.2.1 c.2.2.2.2.2.2.1 c.2.2.2.2.2.2.2.1 c.2.2.2.2.2.2.2.2.1 c.2.2.2.2.2.2.2.2.2.1 c.2.2.2.2.2.2.2.2.2.2.1 c.2.2.2.2.2.2.2.2.2.2.2.1 c.2.2.2.2.2.2.2.2.2.2.2.2.1 c.2.2.2.2.2.2.2.2.2.2.2.2.2 [.inl (2, 1, .inr (.inl (vp_updL f 0 (oUnp (w, sv, q, n, l, co) ((xgr G 0).2 (i + 1))).1.2.toInt64)))])) rfl rfl rfl ?_
    refine xw_aload_n 758 dL_law_757 rfl rfl rfl ?_
    refine xw_aload_n 759 dL_law_758 rfl rfl rfl ?_
    refine xw_iload 761 dL_law_759 rfl rfl ?_
    refine xw_iconst 762 (nI 1) dL_law_761 rfl (xofI 1) ?_
    refine xw_iadd 763 dL_law_762 rfl ?_
    refine xw_ialoadR (j := i + 1) 764 dL_law_763 rfl (by decide) (nI_add _ _) (by omega) (by omega) ?_
    refine xw_qV 767 dL_law_764 rfl ok_M_unpick s_L_128 ((S_M_unpick rfl I hn)) (fun E hp9 q9 => by cases q9.1) (fun o9 hp9 q9 => by obtain ⟨_, _, q9⟩ := q9; rw [q9]; exact mH_len) (xA rfl rfl) rfl rfl rfl rfl rfl rfl rfl (fun ov9 hp9 q9 => ?_)
    obtain ⟨q1, c9, rfl⟩ := q9
    cases q1
    refine xw_istore (ls' := [(6, _), (5, _), (4, _), (0, _), (1, _), (2, _), (3, _)]) 769 dL_law_767 rfl rfl rfl ?_
    refine xw_aload_n 770 dL_law_769 rfl rfl rfl ?_
    refine xw_pV 773 dL_law_770 rfl ok_M_thrown s_L_94 (S_M_thrown rfl) (mH_len) (xA rfl rfl) rfl rfl rfl rfl rfl rfl rfl ?_
    refine xw_iload 775 dL_law_773 rfl rfl ?_
    refine xw_icmp_eq 780 778 dL_law_775 rfl rfl (fun h775 => ?_) (fun h775 => absurd (by rw [hr]) h775)
    refine xw_iload 782 dL_law_780 rfl rfl ?_
    refine xw_if_ne 797 785 dL_law_782 rfl rfl (fun h782 => absurd (by rw [e0]; rfl) h782) (fun h782 => ?_)
    refine xw_aload_n 786 dL_law_785 rfl rfl rfl ?_
    refine xw_iconst 787 (nI 0) dL_law_786 rfl (xofI 0) ?_
    refine xw_laload (j := 0) 788 dL_law_787 rfl (xA (j := 11) rfl rfl) (rfl) (by decide) (by omega) ?_
    refine xw_iload 790 dL_law_788 rfl rfl ?_
    refine xw_i2l 791 dL_law_790 rfl ?_
    refine xw_lcmp 792 dL_law_791 rfl ?_
    have hc9 : lg_cmp (vp_updL f 0 (oUnp (w, sv, q, n, l, co) ((xgr G 0).2 (i + 1))).1.2.toInt64 0) (oUnpM (z, hi, n, l, co) ((xgr G 0).2 (i + 1))).1.2.toInt64 = 0 := by rw [show vp_updL f 0 (oUnp (w, sv, q, n, l, co) ((xgr G 0).2 (i + 1))).1.2.toInt64 0 = (oUnp (w, sv, q, n, l, co) ((xgr G 0).2 (i + 1))).1.2.toInt64 from if_pos rfl, hr, lg_cmp_self]
    refine xw_if_eq 797 795 dL_law_792 rfl rfl (fun h792 => ?_) (fun h792 => absurd (hc9) h792)
    refine xw_goto 1649 dL_law_797 rfl ?_
    refine xW.pick [2, 3, 4, 5, 6] rfl ?_
    refine xW.cast (hp' := lHp (w9, (oUnp (w, sv, q, n, l, co) ((xgr G 0).2 (i + 1))).2.2) sx9 (oUnpM (z, hi, n, l, co) ((xgr G 0).2 (i + 1))).2 (nI (oUnpM (z, hi, n, l, co) ((xgr G 0).2 (i + 1))).1.1) c9 (vp_updL f 0 (oUnp (w, sv, q, n, l, co) ((xgr G 0).2 (i + 1))).1.2.toInt64)) rfl rfl rfl ?_
    exact next _ _ _ _ _ _ (xRel_w hS.2 g9)
  · rw [if_neg e0]
    refine xw_istore (ls' := [(5, _), (4, _), (0, _), (1, _), (2, _), (3, _)]) 757 dL_law_755 rfl rfl rfl ?_
    refine xW.cast (hp' := (mH (cHp (w9, (oUnp (w, sv, q, n, l, co) ((xgr G 0).2 (i + 1))).2.2) sx9 []) z (nI n) hi (nI l) co th c.1 c.2.1 c.2.2.1 c.2.2.2.1 c.2.2.2.2.1 c.2.2.2.2.2.1 c.2.2.2.2.2.2.1 c.2.2.2.2.2.2.2.1 c.2.2.2.2.2.2.2.2.1 c.2.2.2.2.2.2.2.2.2.1 c.2.2.2.2.2.2.2.2.2.2.1 c.2.2.2.2.2.2.2.2.2.2.2.1 c.2.2.2.2.2.2.2.2.2.2.2.2.1 c.2.2.2.2.2.2.2.2.2.2.2.2.2 [.inl (2, 1, .inr (.inl f))])) rfl rfl rfl ?_
    refine xw_aload_n 758 dL_law_757 rfl rfl rfl ?_
    refine xw_aload_n 759 dL_law_758 rfl rfl rfl ?_
    refine xw_iload 761 dL_law_759 rfl rfl ?_
    refine xw_iconst 762 (nI 1) dL_law_761 rfl (xofI 1) ?_
    refine xw_iadd 763 dL_law_762 rfl ?_
    refine xw_ialoadR (j := i + 1) 764 dL_law_763 rfl (by decide) (nI_add _ _) (by omega) (by omega) ?_
    refine xw_qV 767 dL_law_764 rfl ok_M_unpick s_L_128 ((S_M_unpick rfl I hn)) (fun E hp9 q9 => by cases q9.1) (fun o9 hp9 q9 => by obtain ⟨_, _, q9⟩ := q9; rw [q9]; exact mH_len) (xA rfl rfl) rfl rfl rfl rfl rfl rfl rfl (fun ov9 hp9 q9 => ?_)
    obtain ⟨q1, c9, rfl⟩ := q9
    cases q1
    refine xw_istore (ls' := [(6, _), (5, _), (4, _), (0, _), (1, _), (2, _), (3, _)]) 769 dL_law_767 rfl rfl rfl ?_
    refine xw_aload_n 770 dL_law_769 rfl rfl rfl ?_
    refine xw_pV 773 dL_law_770 rfl ok_M_thrown s_L_94 (S_M_thrown rfl) (mH_len) (xA rfl rfl) rfl rfl rfl rfl rfl rfl rfl ?_
    refine xw_iload 775 dL_law_773 rfl rfl ?_
    refine xw_icmp_eq 780 778 dL_law_775 rfl rfl (fun h775 => ?_) (fun h775 => absurd (by rw [hr]) h775)
    refine xw_iload 782 dL_law_780 rfl rfl ?_
    refine xw_if_ne 797 785 dL_law_782 rfl rfl (fun h782 => ?_) (fun h782 => absurd h782 (nI_ne0 (by omega) (by omega)))
    refine xw_goto 1649 dL_law_797 rfl ?_
    refine xW.pick [2, 3, 4, 5, 6] rfl ?_
    refine xW.cast (hp' := lHp (w9, (oUnp (w, sv, q, n, l, co) ((xgr G 0).2 (i + 1))).2.2) sx9 (oUnpM (z, hi, n, l, co) ((xgr G 0).2 (i + 1))).2 (nI (oUnpM (z, hi, n, l, co) ((xgr G 0).2 (i + 1))).1.1) c9 f) rfl rfl rfl ?_
    exact next _ _ _ _ _ _ (xRel_w hS.2 g9)
theorem S_case_append (S : xSta G) (R : xRel (w, sv, q, n, l, co) (z, hi, n, l, co)) (h3 : i + 3 ≤ (xgr G 0).1) (h15 : (xgr G 0).1 ≤ 1536) (next : ∀ (s' : xCS) (sx' : xSx) (m' : xMS) (th' : Int32) (c' : mS) (f' : Nat → Int64), xRel s' m' → xW G L_law lQ 1649 [(4, .int (nI i)), (0, .retAddr 0), (1, .ref 0), (2, .ref 71), (3, .ref 82)] [] (lHp s' sx' m' th' c' f') (x + 1) t (6 * t)) : xW G L_law lQ 800 [(4, .int (nI i)), (0, .retAddr 0), (1, .ref 0), (2, .ref 71), (3, .ref 82)] [] (lHp (w, sv, q, n, l, co) sx (z, hi, n, l, co) th c f) x (t + 1) (6 * (t + 1)) := by
  obtain ⟨I, Ag, hq, hn, -, -, -, X, -⟩ := id R
  dsimp only at I Ag hq hn X
  have J := Ag.inv I
  have hS := Q_app (p := ((xgr G 0).2 (i + 1))) R
  have hr : (oApp (w, sv, q, n, l, co) ((xgr G 0).2 (i + 1))).1 = (oAppM (z, hi, n, l, co) ((xgr G 0).2 (i + 1))).1 := hS.1
  have hK : (oApp (w, sv, q, n, l, co) ((xgr G 0).2 (i + 1))).1.1 ≤ 2 := K_app
  refine xW.cast (hp' := cHp (w, sv, q, n, l, co) sx (lTO (mCq (z, hi, n, l, co) th c []) f)) rfl rfl rfl ?_
  refine xw_aload_n 801 dL_law_800 rfl rfl rfl ?_
  refine xw_aload_n 802 dL_law_801 rfl rfl rfl ?_
  refine xw_iload 804 dL_law_802 rfl rfl ?_
  refine xw_iconst 805 (nI 1) dL_law_804 rfl (xofI 1) ?_
  refine xw_iadd 806 dL_law_805 rfl ?_
  refine xw_ialoadR (j := i + 1) 807 dL_law_806 rfl (by decide) (nI_add _ _) (by omega) (by omega) ?_
  refine xw_aload_n 808 dL_law_807 rfl rfl rfl ?_
  refine xw_lS 811 dL_law_808 rfl ok_L_append s_L_129 (S_L_append (r := (oApp (w, sv, q, n, l, co) ((xgr G 0).2 (i + 1))).1) (s' := (oApp (w, sv, q, n, l, co) ((xgr G 0).2 (i + 1))).2) (M := mCq (z, hi, n, l, co) th c []) (f := f) rfl hK (S_B_append X.1)) rfl rfl rfl rfl rfl rfl rfl rfl (fun w9 sx9 g9 => ?_)
  by_cases e0 : (oApp (w, sv, q, n, l, co) ((xgr G 0).2 (i + 1))).1.1 = 0
  · rw [if_pos e0]
    refine xw_istore (ls' := [(5, _), (4, _), (0, _), (1, _), (2, _), (3, _)]) 813 dL_law_811 rfl rfl rfl ?_
    refine xW.cast (hp' := (mH (cHp (w9, (oApp (w, sv, q, n, l, co) ((xgr G 0).2 (i + 1))).2.2) sx9 []) z (nI n) hi (nI l) co th c.1 c.2.1 c.2.2.1 c.2.2.2.1 c.2.2.2.2.1 c.2.2.2.2.2.1 c.2.2.2.2.2.2.1 c.2.2.2.2.2.2.2.1 c.2.2.2.2.2.2.2.2.1 c.2.2.2.2.2.2.2.2.2.1 c.2.2.2.2.2.2.2.2.2.2.1 c.2.2.2.2.2.2.2.2.2.2.2.1 c.2.2.2.2.2.2.2.2.2.2.2.2.1 c.2.2.2.2.2.2.2.2.2.2.2.2.2 [.inl (2, 1, .inr (.inl (vp_updL f 0 (oApp (w, sv, q, n, l, co) ((xgr G 0).2 (i + 1))).1.2.toInt64)))])) rfl rfl rfl ?_
    refine xw_aload_n 814 dL_law_813 rfl rfl rfl ?_
    refine xw_aload_n 815 dL_law_814 rfl rfl rfl ?_
    refine xw_iload 817 dL_law_815 rfl rfl ?_
    refine xw_iconst 818 (nI 1) dL_law_817 rfl (xofI 1) ?_
    refine xw_iadd 819 dL_law_818 rfl ?_
    refine xw_ialoadR (j := i + 1) 820 dL_law_819 rfl (by decide) (nI_add _ _) (by omega) (by omega) ?_
    refine xw_qV 823 dL_law_820 rfl ok_M_append s_L_131 ((S_M_append rfl I hn X.1)) (fun E hp9 q9 => by cases q9.1) (fun o9 hp9 q9 => by obtain ⟨_, _, q9⟩ := q9; rw [q9]; exact mH_len) (xA rfl rfl) rfl rfl rfl rfl rfl rfl rfl (fun ov9 hp9 q9 => ?_)
    obtain ⟨q1, c9, rfl⟩ := q9
    cases q1
    refine xw_istore (ls' := [(6, _), (5, _), (4, _), (0, _), (1, _), (2, _), (3, _)]) 825 dL_law_823 rfl rfl rfl ?_
    refine xw_aload_n 826 dL_law_825 rfl rfl rfl ?_
    refine xw_pV 829 dL_law_826 rfl ok_M_thrown s_L_94 (S_M_thrown rfl) (mH_len) (xA rfl rfl) rfl rfl rfl rfl rfl rfl rfl ?_
    refine xw_iload 831 dL_law_829 rfl rfl ?_
    refine xw_icmp_eq 836 834 dL_law_831 rfl rfl (fun h831 => ?_) (fun h831 => absurd (by rw [hr]) h831)
    refine xw_iload 838 dL_law_836 rfl rfl ?_
    refine xw_if_ne 853 841 dL_law_838 rfl rfl (fun h838 => absurd (by rw [e0]; rfl) h838) (fun h838 => ?_)
    refine xw_aload_n 842 dL_law_841 rfl rfl rfl ?_
    refine xw_iconst 843 (nI 0) dL_law_842 rfl (xofI 0) ?_
    refine xw_laload (j := 0) 844 dL_law_843 rfl (xA (j := 11) rfl rfl) (rfl) (by decide) (by omega) ?_
    refine xw_iload 846 dL_law_844 rfl rfl ?_
    refine xw_i2l 847 dL_law_846 rfl ?_
    refine xw_lcmp 848 dL_law_847 rfl ?_
    have hc9 : lg_cmp (vp_updL f 0 (oApp (w, sv, q, n, l, co) ((xgr G 0).2 (i + 1))).1.2.toInt64 0) (oAppM (z, hi, n, l, co) ((xgr G 0).2 (i + 1))).1.2.toInt64 = 0 := by rw [show vp_updL f 0 (oApp (w, sv, q, n, l, co) ((xgr G 0).2 (i + 1))).1.2.toInt64 0 = (oApp (w, sv, q, n, l, co) ((xgr G 0).2 (i + 1))).1.2.toInt64 from if_pos rfl, hr, lg_cmp_self]
    refine xw_if_eq 853 851 dL_law_848 rfl rfl (fun h848 => ?_) (fun h848 => absurd (hc9) h848)
    refine xw_goto 1649 dL_law_853 rfl ?_
    refine xW.pick [2, 3, 4, 5, 6] rfl ?_
    refine xW.cast (hp' := lHp (w9, (oApp (w, sv, q, n, l, co) ((xgr G 0).2 (i + 1))).2.2) sx9 (oAppM (z, hi, n, l, co) ((xgr G 0).2 (i + 1))).2 (nI (oAppM (z, hi, n, l, co) ((xgr G 0).2 (i + 1))).1.1) c9 (vp_updL f 0 (oApp (w, sv, q, n, l, co) ((xgr G 0).2 (i + 1))).1.2.toInt64)) rfl rfl rfl ?_
    exact next _ _ _ _ _ _ (xRel_w hS.2 g9)
  · rw [if_neg e0]
    refine xw_istore (ls' := [(5, _), (4, _), (0, _), (1, _), (2, _), (3, _)]) 813 dL_law_811 rfl rfl rfl ?_
    refine xW.cast (hp' := (mH (cHp (w9, (oApp (w, sv, q, n, l, co) ((xgr G 0).2 (i + 1))).2.2) sx9 []) z (nI n) hi (nI l) co th c.1 c.2.1 c.2.2.1 c.2.2.2.1 c.2.2.2.2.1 c.2.2.2.2.2.1 c.2.2.2.2.2.2.1 c.2.2.2.2.2.2.2.1 c.2.2.2.2.2.2.2.2.1 c.2.2.2.2.2.2.2.2.2.1 c.2.2.2.2.2.2.2.2.2.2.1 c.2.2.2.2.2.2.2.2.2.2.2.1 c.2.2.2.2.2.2.2.2.2.2.2.2.1 c.2.2.2.2.2.2.2.2.2.2.2.2.2 [.inl (2, 1, .inr (.inl f))])) rfl rfl rfl ?_
    refine xw_aload_n 814 dL_law_813 rfl rfl rfl ?_
    refine xw_aload_n 815 dL_law_814 rfl rfl rfl ?_
    refine xw_iload 817 dL_law_815 rfl rfl ?_
    refine xw_iconst 818 (nI 1) dL_law_817 rfl (xofI 1) ?_
    refine xw_iadd 819 dL_law_818 rfl ?_
    refine xw_ialoadR (j := i + 1) 820 dL_law_819 rfl (by decide) (nI_add _ _) (by omega) (by omega) ?_
    refine xw_qV 823 dL_law_820 rfl ok_M_append s_L_131 ((S_M_append rfl I hn X.1)) (fun E hp9 q9 => by cases q9.1) (fun o9 hp9 q9 => by obtain ⟨_, _, q9⟩ := q9; rw [q9]; exact mH_len) (xA rfl rfl) rfl rfl rfl rfl rfl rfl rfl (fun ov9 hp9 q9 => ?_)
    obtain ⟨q1, c9, rfl⟩ := q9
    cases q1
    refine xw_istore (ls' := [(6, _), (5, _), (4, _), (0, _), (1, _), (2, _), (3, _)]) 825 dL_law_823 rfl rfl rfl ?_
    refine xw_aload_n 826 dL_law_825 rfl rfl rfl ?_
    refine xw_pV 829 dL_law_826 rfl ok_M_thrown s_L_94 (S_M_thrown rfl) (mH_len) (xA rfl rfl) rfl rfl rfl rfl rfl rfl rfl ?_
    refine xw_iload 831 dL_law_829 rfl rfl ?_
    refine xw_icmp_eq 836 834 dL_law_831 rfl rfl (fun h831 => ?_) (fun h831 => absurd (by rw [hr]) h831)
    refine xw_iload 838 dL_law_836 rfl rfl ?_
    refine xw_if_ne 853 841 dL_law_838 rfl rfl (fun h838 => ?_) (fun h838 => absurd h838 (nI_ne0 (by omega) (by omega)))
    refine xw_goto 1649 dL_law_853 rfl ?_
    refine xW.pick [2, 3, 4, 5, 6] rfl ?_
    refine xW.cast (hp' := lHp (w9, (oApp (w, sv, q, n, l, co) ((xgr G 0).2 (i + 1))).2.2) sx9 (oAppM (z, hi, n, l, co) ((xgr G 0).2 (i + 1))).2 (nI (oAppM (z, hi, n, l, co) ((xgr G 0).2 (i + 1))).1.1) c9 f) rfl rfl rfl ?_
    exact next _ _ _ _ _ _ (xRel_w hS.2 g9)
theorem S_case_undo (S : xSta G) (R : xRel (w, sv, q, n, l, co) (z, hi, n, l, co)) (h3 : i + 3 ≤ (xgr G 0).1) (h15 : (xgr G 0).1 ≤ 1536) (next : ∀ (s' : xCS) (sx' : xSx) (m' : xMS) (th' : Int32) (c' : mS) (f' : Nat → Int64), xRel s' m' → xW G L_law lQ 1649 [(4, .int (nI i)), (0, .retAddr 0), (1, .ref 0), (2, .ref 71), (3, .ref 82)] [] (lHp s' sx' m' th' c' f') (x + 1) t (6 * t)) : xW G L_law lQ 910 [(4, .int (nI i)), (0, .retAddr 0), (1, .ref 0), (2, .ref 71), (3, .ref 82)] [] (lHp (w, sv, q, n, l, co) sx (z, hi, n, l, co) th c f) x (t + 1) (6 * (t + 1)) := by
  obtain ⟨I, Ag, hq, hn, -, -, -, X, -⟩ := id R
  dsimp only at I Ag hq hn X
  have J := Ag.inv I
  have hS := Q_und R
  have hr : (oUnd (w, sv, q, n, l, co)).1 = (oUndM (z, hi, n, l, co)).1 := hS.1
  have hK : (oUnd (w, sv, q, n, l, co)).1.1 ≤ 1 := K_und
  refine xW.cast (hp' := cHp (w, sv, q, n, l, co) sx (lTO (mCq (z, hi, n, l, co) th c []) f)) rfl rfl rfl ?_
  refine xw_aload_n 911 dL_law_910 rfl rfl rfl ?_
  refine xw_aload_n 912 dL_law_911 rfl rfl rfl ?_
  refine xw_lS 915 dL_law_912 rfl ok_L_undo s_L_141 (S_L_undo (r := (oUnd (w, sv, q, n, l, co)).1) (s' := (oUnd (w, sv, q, n, l, co)).2) (M := mCq (z, hi, n, l, co) th c []) (f := f) rfl hK (S_B_undo hq hn)) rfl rfl rfl rfl rfl rfl rfl rfl (fun w9 sx9 g9 => ?_)
  by_cases e0 : (oUnd (w, sv, q, n, l, co)).1.1 = 0
  · rw [if_pos e0]
    refine xw_istore (ls' := [(5, _), (4, _), (0, _), (1, _), (2, _), (3, _)]) 917 dL_law_915 rfl rfl rfl ?_
    refine xW.cast (hp' := (mH (cHp (w9, (oUnd (w, sv, q, n, l, co)).2.2) sx9 []) z (nI n) hi (nI l) co th c.1 c.2.1 c.2.2.1 c.2.2.2.1 c.2.2.2.2.1 c.2.2.2.2.2.1 c.2.2.2.2.2.2.1 c.2.2.2.2.2.2.2.1 c.2.2.2.2.2.2.2.2.1 c.2.2.2.2.2.2.2.2.2.1 c.2.2.2.2.2.2.2.2.2.2.1 c.2.2.2.2.2.2.2.2.2.2.2.1 c.2.2.2.2.2.2.2.2.2.2.2.2.1 c.2.2.2.2.2.2.2.2.2.2.2.2.2 [.inl (2, 1, .inr (.inl (vp_updL f 0 (oUnd (w, sv, q, n, l, co)).1.2.toInt64)))])) rfl rfl rfl ?_
    refine xw_aload_n 918 dL_law_917 rfl rfl rfl ?_
    refine xw_qV 921 dL_law_918 rfl ok_M_undo s_L_143 ((S_M_undo rfl hn)) (fun E hp9 q9 => by cases q9.1) (fun o9 hp9 q9 => by obtain ⟨_, _, q9⟩ := q9; rw [q9]; exact mH_len) (xA rfl rfl) rfl rfl rfl rfl rfl rfl rfl (fun ov9 hp9 q9 => ?_)
    obtain ⟨q1, c9, rfl⟩ := q9
    cases q1
    refine xw_istore (ls' := [(6, _), (5, _), (4, _), (0, _), (1, _), (2, _), (3, _)]) 923 dL_law_921 rfl rfl rfl ?_
    refine xw_aload_n 924 dL_law_923 rfl rfl rfl ?_
    refine xw_pV 927 dL_law_924 rfl ok_M_thrown s_L_94 (S_M_thrown rfl) (mH_len) (xA rfl rfl) rfl rfl rfl rfl rfl rfl rfl ?_
    refine xw_iload 929 dL_law_927 rfl rfl ?_
    refine xw_icmp_eq 934 932 dL_law_929 rfl rfl (fun h929 => ?_) (fun h929 => absurd (by rw [hr]) h929)
    refine xw_iload 936 dL_law_934 rfl rfl ?_
    refine xw_if_ne 951 939 dL_law_936 rfl rfl (fun h936 => absurd (by rw [e0]; rfl) h936) (fun h936 => ?_)
    refine xw_aload_n 940 dL_law_939 rfl rfl rfl ?_
    refine xw_iconst 941 (nI 0) dL_law_940 rfl (xofI 0) ?_
    refine xw_laload (j := 0) 942 dL_law_941 rfl (xA (j := 11) rfl rfl) (rfl) (by decide) (by omega) ?_
    refine xw_iload 944 dL_law_942 rfl rfl ?_
    refine xw_i2l 945 dL_law_944 rfl ?_
    refine xw_lcmp 946 dL_law_945 rfl ?_
    have hc9 : lg_cmp (vp_updL f 0 (oUnd (w, sv, q, n, l, co)).1.2.toInt64 0) (oUndM (z, hi, n, l, co)).1.2.toInt64 = 0 := by rw [show vp_updL f 0 (oUnd (w, sv, q, n, l, co)).1.2.toInt64 0 = (oUnd (w, sv, q, n, l, co)).1.2.toInt64 from if_pos rfl, hr, lg_cmp_self]
    refine xw_if_eq 951 949 dL_law_946 rfl rfl (fun h946 => ?_) (fun h946 => absurd (hc9) h946)
    refine xw_goto 1649 dL_law_951 rfl ?_
    refine xW.pick [2, 3, 4, 5, 6] rfl ?_
    refine xW.cast (hp' := lHp (w9, (oUnd (w, sv, q, n, l, co)).2.2) sx9 (oUndM (z, hi, n, l, co)).2 (nI (oUndM (z, hi, n, l, co)).1.1) c9 (vp_updL f 0 (oUnd (w, sv, q, n, l, co)).1.2.toInt64)) rfl rfl rfl ?_
    exact next _ _ _ _ _ _ (xRel_w hS.2 g9)
  · rw [if_neg e0]
    refine xw_istore (ls' := [(5, _), (4, _), (0, _), (1, _), (2, _), (3, _)]) 917 dL_law_915 rfl rfl rfl ?_
    refine xW.cast (hp' := (mH (cHp (w9, (oUnd (w, sv, q, n, l, co)).2.2) sx9 []) z (nI n) hi (nI l) co th c.1 c.2.1 c.2.2.1 c.2.2.2.1 c.2.2.2.2.1 c.2.2.2.2.2.1 c.2.2.2.2.2.2.1 c.2.2.2.2.2.2.2.1 c.2.2.2.2.2.2.2.2.1 c.2.2.2.2.2.2.2.2.2.1 c.2.2.2.2.2.2.2.2.2.2.1 c.2.2.2.2.2.2.2.2.2.2.2.1 c.2.2.2.2.2.2.2.2.2.2.2.2.1 c.2.2.2.2.2.2.2.2.2.2.2.2.2 [.inl (2, 1, .inr (.inl f))])) rfl rfl rfl ?_
    refine xw_aload_n 918 dL_law_917 rfl rfl rfl ?_
    refine xw_qV 921 dL_law_918 rfl ok_M_undo s_L_143 ((S_M_undo rfl hn)) (fun E hp9 q9 => by cases q9.1) (fun o9 hp9 q9 => by obtain ⟨_, _, q9⟩ := q9; rw [q9]; exact mH_len) (xA rfl rfl) rfl rfl rfl rfl rfl rfl rfl (fun ov9 hp9 q9 => ?_)
    obtain ⟨q1, c9, rfl⟩ := q9
    cases q1
    refine xw_istore (ls' := [(6, _), (5, _), (4, _), (0, _), (1, _), (2, _), (3, _)]) 923 dL_law_921 rfl rfl rfl ?_
    refine xw_aload_n 924 dL_law_923 rfl rfl rfl ?_
    refine xw_pV 927 dL_law_924 rfl ok_M_thrown s_L_94 (S_M_thrown rfl) (mH_len) (xA rfl rfl) rfl rfl rfl rfl rfl rfl rfl ?_
    refine xw_iload 929 dL_law_927 rfl rfl ?_
    refine xw_icmp_eq 934 932 dL_law_929 rfl rfl (fun h929 => ?_) (fun h929 => absurd (by rw [hr]) h929)
    refine xw_iload 936 dL_law_934 rfl rfl ?_
    refine xw_if_ne 951 939 dL_law_936 rfl rfl (fun h936 => ?_) (fun h936 => absurd h936 (nI_ne0 (by omega) (by omega)))
    refine xw_goto 1649 dL_law_951 rfl ?_
    refine xW.pick [2, 3, 4, 5, 6] rfl ?_
    refine xW.cast (hp' := lHp (w9, (oUnd (w, sv, q, n, l, co)).2.2) sx9 (oUndM (z, hi, n, l, co)).2 (nI (oUndM (z, hi, n, l, co)).1.1) c9 f) rfl rfl rfl ?_
    exact next _ _ _ _ _ _ (xRel_w hS.2 g9)
end P61
